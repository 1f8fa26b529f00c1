-- ===== PART A: goes FIRST, ahead of the names: the tables' words, and 'selects' of the private methods out of them =====
/-- a private method of a class that the tables say can be made, by its rows of tables_1 -/
def lw_okq (q : MethodName × Nat) : Prop := (q.1.cls ≠ "java/lang/invoke/MethodHandle" ∧ q.1.cls ≠ "java/lang/invoke/VarHandle") ∧ Cond.instantiable q.1.cls q.2 ∈ tables_1 ∧ Cond.privateMethod q.1 ∈ tables_1 ∧ Cond.instanceMethod q.1 ∈ tables_1
theorem lw_p0 : lw_okq (⟨"CardTerminal$DataObjects", "stillOpen", "(I)I"⟩, 8) := ⟨⟨by decide +kernel, by decide +kernel⟩, List.mem_of_getElem? (i := 39) (by decide +kernel), List.mem_of_getElem? (i := 250) (by decide +kernel), List.mem_of_getElem? (i := 251) (by decide +kernel)⟩
theorem lw_p1 : lw_okq (⟨"CardTerminal$DataObjects", "valueEnd", "(I)I"⟩, 8) := ⟨⟨by decide +kernel, by decide +kernel⟩, List.mem_of_getElem? (i := 39) (by decide +kernel), List.mem_of_getElem? (i := 254) (by decide +kernel), List.mem_of_getElem? (i := 255) (by decide +kernel)⟩
theorem lw_p2 : lw_okq (⟨"CardTerminal$DataObjects", "readTag", "(LCardTerminal$Bytes;I)Z"⟩, 8) := ⟨⟨by decide +kernel, by decide +kernel⟩, List.mem_of_getElem? (i := 39) (by decide +kernel), List.mem_of_getElem? (i := 261) (by decide +kernel), List.mem_of_getElem? (i := 262) (by decide +kernel)⟩
theorem lw_p3 : lw_okq (⟨"CardTerminal$DataObjects", "breakAt", "(I)Z"⟩, 8) := ⟨⟨by decide +kernel, by decide +kernel⟩, List.mem_of_getElem? (i := 39) (by decide +kernel), List.mem_of_getElem? (i := 265) (by decide +kernel), List.mem_of_getElem? (i := 266) (by decide +kernel)⟩
theorem lw_p4 : lw_okq (⟨"CardTerminal$DataObjects", "readLength", "(LCardTerminal$Bytes;I)Z"⟩, 8) := ⟨⟨by decide +kernel, by decide +kernel⟩, List.mem_of_getElem? (i := 39) (by decide +kernel), List.mem_of_getElem? (i := 270) (by decide +kernel), List.mem_of_getElem? (i := 271) (by decide +kernel)⟩
theorem lw_p5 : lw_okq (⟨"CardTerminal", "objectError", "(I)I"⟩, 6) := ⟨⟨by decide +kernel, by decide +kernel⟩, List.mem_of_getElem? (i := 11) (by decide +kernel), List.mem_of_getElem? (i := 286) (by decide +kernel), List.mem_of_getElem? (i := 287) (by decide +kernel)⟩
theorem lw_p6 : lw_okq (⟨"CardTerminal$DataObjects", "childFrom", "(IIIII)I"⟩, 8) := ⟨⟨by decide +kernel, by decide +kernel⟩, List.mem_of_getElem? (i := 39) (by decide +kernel), List.mem_of_getElem? (i := 324) (by decide +kernel), List.mem_of_getElem? (i := 325) (by decide +kernel)⟩
theorem lw_p7 : lw_okq (⟨"CardTerminal$Card", "indicatorIn", "(ILCardTerminal$DataObjects;LCardTerminal$Bytes;)I"⟩, 6) := ⟨⟨by decide +kernel, by decide +kernel⟩, List.mem_of_getElem? (i := 78) (by decide +kernel), List.mem_of_getElem? (i := 338) (by decide +kernel), List.mem_of_getElem? (i := 339) (by decide +kernel)⟩
theorem lw_p8 : lw_okq (⟨"CardTerminal$Identifiers", "copyDown", "(I)V"⟩, 3) := ⟨⟨by decide +kernel, by decide +kernel⟩, List.mem_of_getElem? (i := 84) (by decide +kernel), List.mem_of_getElem? (i := 396) (by decide +kernel), List.mem_of_getElem? (i := 397) (by decide +kernel)⟩
theorem lw_p9 : lw_okq (⟨"CardTerminal", "isCandidate", "(I)Z"⟩, 6) := ⟨⟨by decide +kernel, by decide +kernel⟩, List.mem_of_getElem? (i := 11) (by decide +kernel), List.mem_of_getElem? (i := 429) (by decide +kernel), List.mem_of_getElem? (i := 430) (by decide +kernel)⟩
theorem lw_p10 : lw_okq (⟨"CardTerminal$Terminal", "sameLength", "(LCardTerminal$Identifiers;II)Z"⟩, 8) := ⟨⟨by decide +kernel, by decide +kernel⟩, List.mem_of_getElem? (i := 128) (by decide +kernel), List.mem_of_getElem? (i := 441) (by decide +kernel), List.mem_of_getElem? (i := 442) (by decide +kernel)⟩
theorem lw_p11 : lw_okq (⟨"CardTerminal", "candidatesBefore", "(I)I"⟩, 6) := ⟨⟨by decide +kernel, by decide +kernel⟩, List.mem_of_getElem? (i := 11) (by decide +kernel), List.mem_of_getElem? (i := 449) (by decide +kernel), List.mem_of_getElem? (i := 450) (by decide +kernel)⟩
theorem lw_p12 : lw_okq (⟨"CardTerminal$Card", "rank", "(I)I"⟩, 6) := ⟨⟨by decide +kernel, by decide +kernel⟩, List.mem_of_getElem? (i := 78) (by decide +kernel), List.mem_of_getElem? (i := 457) (by decide +kernel), List.mem_of_getElem? (i := 458) (by decide +kernel)⟩
theorem lw_p13 : lw_okq (⟨"CardTerminal", "verify", "(II)I"⟩, 6) := ⟨⟨by decide +kernel, by decide +kernel⟩, List.mem_of_getElem? (i := 11) (by decide +kernel), List.mem_of_getElem? (i := 474) (by decide +kernel), List.mem_of_getElem? (i := 475) (by decide +kernel)⟩
theorem lw_p14 : lw_okq (⟨"CardTerminal", "decide", "(I)I"⟩, 6) := ⟨⟨by decide +kernel, by decide +kernel⟩, List.mem_of_getElem? (i := 11) (by decide +kernel), List.mem_of_getElem? (i := 478) (by decide +kernel), List.mem_of_getElem? (i := 479) (by decide +kernel)⟩
theorem lw_p15 : lw_okq (⟨"CardTerminal", "isHitBy", "(II)Z"⟩, 6) := ⟨⟨by decide +kernel, by decide +kernel⟩, List.mem_of_getElem? (i := 11) (by decide +kernel), List.mem_of_getElem? (i := 482) (by decide +kernel), List.mem_of_getElem? (i := 483) (by decide +kernel)⟩
def lw_privs_1 : List (MethodName × Nat) := [(⟨"CardTerminal$DataObjects", "stillOpen", "(I)I"⟩, 8), (⟨"CardTerminal$DataObjects", "valueEnd", "(I)I"⟩, 8), (⟨"CardTerminal$DataObjects", "readTag", "(LCardTerminal$Bytes;I)Z"⟩, 8), (⟨"CardTerminal$DataObjects", "breakAt", "(I)Z"⟩, 8), (⟨"CardTerminal$DataObjects", "readLength", "(LCardTerminal$Bytes;I)Z"⟩, 8), (⟨"CardTerminal", "objectError", "(I)I"⟩, 6), (⟨"CardTerminal$DataObjects", "childFrom", "(IIIII)I"⟩, 8), (⟨"CardTerminal$Card", "indicatorIn", "(ILCardTerminal$DataObjects;LCardTerminal$Bytes;)I"⟩, 6), (⟨"CardTerminal$Identifiers", "copyDown", "(I)V"⟩, 3), (⟨"CardTerminal", "isCandidate", "(I)Z"⟩, 6), (⟨"CardTerminal$Terminal", "sameLength", "(LCardTerminal$Identifiers;II)Z"⟩, 8), (⟨"CardTerminal", "candidatesBefore", "(I)I"⟩, 6), (⟨"CardTerminal$Card", "rank", "(I)I"⟩, 6), (⟨"CardTerminal", "verify", "(II)I"⟩, 6), (⟨"CardTerminal", "decide", "(I)I"⟩, 6), (⟨"CardTerminal", "isHitBy", "(II)Z"⟩, 6)]
theorem lw_r1 : ∀ q ∈ lw_privs_1, lw_okq q := List.forall_mem_cons.mpr ⟨lw_p0, List.forall_mem_cons.mpr ⟨lw_p1, List.forall_mem_cons.mpr ⟨lw_p2, List.forall_mem_cons.mpr ⟨lw_p3, List.forall_mem_cons.mpr ⟨lw_p4, List.forall_mem_cons.mpr ⟨lw_p5, List.forall_mem_cons.mpr ⟨lw_p6, List.forall_mem_cons.mpr ⟨lw_p7, List.forall_mem_cons.mpr ⟨lw_p8, List.forall_mem_cons.mpr ⟨lw_p9, List.forall_mem_cons.mpr ⟨lw_p10, List.forall_mem_cons.mpr ⟨lw_p11, List.forall_mem_cons.mpr ⟨lw_p12, List.forall_mem_cons.mpr ⟨lw_p13, List.forall_mem_cons.mpr ⟨lw_p14, List.forall_mem_cons.mpr ⟨lw_p15, fun _ h => absurd h List.not_mem_nil⟩⟩⟩⟩⟩⟩⟩⟩⟩⟩⟩⟩⟩⟩⟩⟩
theorem lw_p16 : lw_okq (⟨"CardTerminal", "decideWithoutHost", "(I)I"⟩, 6) := ⟨⟨by decide +kernel, by decide +kernel⟩, List.mem_of_getElem? (i := 11) (by decide +kernel), List.mem_of_getElem? (i := 486) (by decide +kernel), List.mem_of_getElem? (i := 487) (by decide +kernel)⟩
theorem lw_p17 : lw_okq (⟨"CardTerminal$Transactions", "book", "(III)V"⟩, 5) := ⟨⟨by decide +kernel, by decide +kernel⟩, List.mem_of_getElem? (i := 168) (by decide +kernel), List.mem_of_getElem? (i := 494) (by decide +kernel), List.mem_of_getElem? (i := 495) (by decide +kernel)⟩
theorem lw_p18 : lw_okq (⟨"CardTerminal", "countIfOffline", "(I)V"⟩, 6) := ⟨⟨by decide +kernel, by decide +kernel⟩, List.mem_of_getElem? (i := 11) (by decide +kernel), List.mem_of_getElem? (i := 499) (by decide +kernel), List.mem_of_getElem? (i := 500) (by decide +kernel)⟩
theorem lw_p19 : lw_okq (⟨"CardTerminalModel", "reads", "()I"⟩, 37) := ⟨⟨by decide +kernel, by decide +kernel⟩, List.mem_of_getElem? (i := 560) (by decide +kernel), List.mem_of_getElem? (i := 693) (by decide +kernel), List.mem_of_getElem? (i := 694) (by decide +kernel)⟩
theorem lw_p20 : lw_okq (⟨"CardTerminalModel", "errorOf", "(I)I"⟩, 37) := ⟨⟨by decide +kernel, by decide +kernel⟩, List.mem_of_getElem? (i := 560) (by decide +kernel), List.mem_of_getElem? (i := 705) (by decide +kernel), List.mem_of_getElem? (i := 706) (by decide +kernel)⟩
theorem lw_p21 : lw_okq (⟨"CardTerminalModel", "nameOf", "(I)I"⟩, 37) := ⟨⟨by decide +kernel, by decide +kernel⟩, List.mem_of_getElem? (i := 560) (by decide +kernel), List.mem_of_getElem? (i := 725) (by decide +kernel), List.mem_of_getElem? (i := 726) (by decide +kernel)⟩
theorem lw_p22 : lw_okq (⟨"CardTerminalModel", "priorityByte", "(I)I"⟩, 37) := ⟨⟨by decide +kernel, by decide +kernel⟩, List.mem_of_getElem? (i := 560) (by decide +kernel), List.mem_of_getElem? (i := 729) (by decide +kernel), List.mem_of_getElem? (i := 730) (by decide +kernel)⟩
theorem lw_p23 : lw_okq (⟨"CardTerminalModel", "isApplication", "(I)Z"⟩, 37) := ⟨⟨by decide +kernel, by decide +kernel⟩, List.mem_of_getElem? (i := 560) (by decide +kernel), List.mem_of_getElem? (i := 737) (by decide +kernel), List.mem_of_getElem? (i := 738) (by decide +kernel)⟩
theorem lw_p24 : lw_okq (⟨"CardTerminalModel", "lists", "()V"⟩, 37) := ⟨⟨by decide +kernel, by decide +kernel⟩, List.mem_of_getElem? (i := 560) (by decide +kernel), List.mem_of_getElem? (i := 778) (by decide +kernel), List.mem_of_getElem? (i := 779) (by decide +kernel)⟩
theorem lw_p25 : lw_okq (⟨"CardTerminalModel", "isSupported", "(I)Z"⟩, 37) := ⟨⟨by decide +kernel, by decide +kernel⟩, List.mem_of_getElem? (i := 560) (by decide +kernel), List.mem_of_getElem? (i := 782) (by decide +kernel), List.mem_of_getElem? (i := 783) (by decide +kernel)⟩
theorem lw_p26 : lw_okq (⟨"CardTerminalModel", "ends", "(I)I"⟩, 37) := ⟨⟨by decide +kernel, by decide +kernel⟩, List.mem_of_getElem? (i := 560) (by decide +kernel), List.mem_of_getElem? (i := 798) (by decide +kernel), List.mem_of_getElem? (i := 799) (by decide +kernel)⟩
theorem lw_p27 : lw_okq (⟨"CardTerminalModel", "byDefault", "()I"⟩, 37) := ⟨⟨by decide +kernel, by decide +kernel⟩, List.mem_of_getElem? (i := 560) (by decide +kernel), List.mem_of_getElem? (i := 802) (by decide +kernel), List.mem_of_getElem? (i := 803) (by decide +kernel)⟩
def lw_privs_2 : List (MethodName × Nat) := [(⟨"CardTerminal", "decideWithoutHost", "(I)I"⟩, 6), (⟨"CardTerminal$Transactions", "book", "(III)V"⟩, 5), (⟨"CardTerminal", "countIfOffline", "(I)V"⟩, 6), (⟨"CardTerminalModel", "reads", "()I"⟩, 37), (⟨"CardTerminalModel", "errorOf", "(I)I"⟩, 37), (⟨"CardTerminalModel", "nameOf", "(I)I"⟩, 37), (⟨"CardTerminalModel", "priorityByte", "(I)I"⟩, 37), (⟨"CardTerminalModel", "isApplication", "(I)Z"⟩, 37), (⟨"CardTerminalModel", "lists", "()V"⟩, 37), (⟨"CardTerminalModel", "isSupported", "(I)Z"⟩, 37), (⟨"CardTerminalModel", "ends", "(I)I"⟩, 37), (⟨"CardTerminalModel", "byDefault", "()I"⟩, 37)]
theorem lw_r2 : ∀ q ∈ lw_privs_2, lw_okq q := List.forall_mem_cons.mpr ⟨lw_p16, List.forall_mem_cons.mpr ⟨lw_p17, List.forall_mem_cons.mpr ⟨lw_p18, List.forall_mem_cons.mpr ⟨lw_p19, List.forall_mem_cons.mpr ⟨lw_p20, List.forall_mem_cons.mpr ⟨lw_p21, List.forall_mem_cons.mpr ⟨lw_p22, List.forall_mem_cons.mpr ⟨lw_p23, List.forall_mem_cons.mpr ⟨lw_p24, List.forall_mem_cons.mpr ⟨lw_p25, List.forall_mem_cons.mpr ⟨lw_p26, List.forall_mem_cons.mpr ⟨lw_p27, fun _ h => absurd h List.not_mem_nil⟩⟩⟩⟩⟩⟩⟩⟩⟩⟩⟩⟩
def lw_privs : List (MethodName × Nat) := lw_privs_1 ++ (lw_privs_2)
def lw_tbl : List Cond := k2_sels lw_privs ++ tables_1
theorem lw_privs_ok : ∀ q ∈ lw_privs, lw_okq q := by
  show ∀ q ∈ lw_privs_1 ++ (lw_privs_2), lw_okq q
  exact List.forall_mem_append.mpr ⟨lw_r1, lw_r2⟩
def RX0 : String := "CardTerminal$Bytes"
def TX0 : u_T := fun k => match k with
  | 0 => ("CardTerminal$Bytes", "values", "[I", true)
  | _ => ("CardTerminal$Bytes", "size", "I", false)
def tyX0 : Nat → FieldType := fun k => match k with
  | 0 => .array .int
  | _ => .int
abbrev wsX00 : List Cond := u_ws RX0 TX0 2
theorem nmX0 : ∀ a, a < 2 → ∀ b, b < 2 → a ≠ b → (TX0 a).2.1 ≠ (TX0 b).2.1 := by decide +kernel
theorem tyX0_ok : ∀ k, k < 2 → parseFieldDescriptor (TX0 k).2.2.1 = some (tyX0 k) := by decide +kernel
abbrev cX0_init : ByteArray := prog_2_method_1_code
def yX0_init : MethodName := ⟨RX0, "<init>", "()V"⟩
abbrev cX0_add : ByteArray := prog_2_method_2_code
def yX0_add : MethodName := ⟨RX0, "add", "(I)V"⟩
def RX1 : String := "CardTerminal$Card"
def TX1 : u_T := fun k => match k with
  | 0 => ("CardTerminal$Card", "identifiers", "LCardTerminal$Identifiers;", true)
  | 1 => ("CardTerminal$Card", "codes", "[I", true)
  | 2 => ("CardTerminal$Card", "selected", "I", false)
  | 3 => ("CardTerminal$Card", "offlineCount", "I", false)
  | 4 => ("CardTerminal$Card", "isNew", "Z", false)
  | _ => ("CardTerminal$Card", "indicators", "[I", true)
def tyX1 : Nat → FieldType := fun k => match k with
  | 0 => .object "CardTerminal$Identifiers"
  | 1 => .array .int
  | 2 => .int
  | 3 => .int
  | 4 => .boolean
  | _ => .array .int
abbrev wsX10 : List Cond := u_ws RX1 TX1 6
theorem nmX1 : ∀ a, a < 6 → ∀ b, b < 6 → a ≠ b → (TX1 a).2.1 ≠ (TX1 b).2.1 := by decide +kernel
theorem tyX1_ok : ∀ k, k < 6 → parseFieldDescriptor (TX1 k).2.2.1 = some (tyX1 k) := by decide +kernel
abbrev cX1_init : ByteArray := prog_3_method_1_code
def yX1_init : MethodName := ⟨RX1, "<init>", "()V"⟩
abbrev cX1_renew : ByteArray := prog_3_method_2_code
def yX1_renew : MethodName := ⟨RX1, "renew", "()V"⟩
abbrev cX1_readApplications : ByteArray := prog_3_method_3_code
def yX1_readApplications : MethodName := ⟨RX1, "readApplications", "(LCardTerminal$DataObjects;LCardTerminal$Bytes;)V"⟩
abbrev cX1_indicatorIn : ByteArray := prog_3_method_4_code
def yX1_indicatorIn : MethodName := ⟨RX1, "indicatorIn", "(ILCardTerminal$DataObjects;LCardTerminal$Bytes;)I"⟩
abbrev cX1_hasApplication : ByteArray := prog_3_method_5_code
def yX1_hasApplication : MethodName := ⟨RX1, "hasApplication", "(I)Z"⟩
abbrev cX1_priority : ByteArray := prog_3_method_6_code
def yX1_priority : MethodName := ⟨RX1, "priority", "(I)I"⟩
abbrev cX1_needsConfirmation : ByteArray := prog_3_method_7_code
def yX1_needsConfirmation : MethodName := ⟨RX1, "needsConfirmation", "(I)Z"⟩
abbrev cX1_comesBefore : ByteArray := prog_3_method_8_code
def yX1_comesBefore : MethodName := ⟨RX1, "comesBefore", "(II)Z"⟩
abbrev cX1_rank : ByteArray := prog_3_method_9_code
def yX1_rank : MethodName := ⟨RX1, "rank", "(I)I"⟩
abbrev cX1_countOffline : ByteArray := prog_3_method_10_code
def yX1_countOffline : MethodName := ⟨RX1, "countOffline", "()V"⟩
abbrev cX1_passOnline : ByteArray := prog_3_method_11_code
def yX1_passOnline : MethodName := ⟨RX1, "passOnline", "()V"⟩
def RX2 : String := "CardTerminal$DataObjects"
def TX2 : u_T := fun k => match k with
  | 0 => ("CardTerminal$DataObjects", "tags", "[I", true)
  | 1 => ("CardTerminal$DataObjects", "lengths", "[I", true)
  | 2 => ("CardTerminal$DataObjects", "depths", "[I", true)
  | 3 => ("CardTerminal$DataObjects", "parents", "[I", true)
  | 4 => ("CardTerminal$DataObjects", "valueStarts", "[I", true)
  | 5 => ("CardTerminal$DataObjects", "count", "I", false)
  | 6 => ("CardTerminal$DataObjects", "brokenAt", "I", false)
  | _ => ("CardTerminal$DataObjects", "place", "I", false)
def tyX2 : Nat → FieldType := fun k => match k with
  | 0 => .array .int
  | 1 => .array .int
  | 2 => .array .int
  | 3 => .array .int
  | 4 => .array .int
  | 5 => .int
  | 6 => .int
  | _ => .int
abbrev wsX20 : List Cond := u_ws RX2 TX2 8
theorem nmX2 : ∀ a, a < 8 → ∀ b, b < 8 → a ≠ b → (TX2 a).2.1 ≠ (TX2 b).2.1 := by decide +kernel
theorem tyX2_ok : ∀ k, k < 8 → parseFieldDescriptor (TX2 k).2.2.1 = some (tyX2 k) := by decide +kernel
abbrev cX2_init : ByteArray := prog_4_method_1_code
def yX2_init : MethodName := ⟨RX2, "<init>", "()V"⟩
abbrev cX2_isBroken : ByteArray := prog_4_method_2_code
def yX2_isBroken : MethodName := ⟨RX2, "isBroken", "()Z"⟩
abbrev cX2_read : ByteArray := prog_4_method_3_code
def yX2_read : MethodName := ⟨RX2, "read", "(LCardTerminal$Bytes;)V"⟩
abbrev cX2_stillOpen : ByteArray := prog_4_method_4_code
def yX2_stillOpen : MethodName := ⟨RX2, "stillOpen", "(I)I"⟩
abbrev cX2_valueEnd : ByteArray := prog_4_method_5_code
def yX2_valueEnd : MethodName := ⟨RX2, "valueEnd", "(I)I"⟩
abbrev cX2_readTag : ByteArray := prog_4_method_6_code
def yX2_readTag : MethodName := ⟨RX2, "readTag", "(LCardTerminal$Bytes;I)Z"⟩
abbrev cX2_readLength : ByteArray := prog_4_method_7_code
def yX2_readLength : MethodName := ⟨RX2, "readLength", "(LCardTerminal$Bytes;I)Z"⟩
abbrev cX2_breakAt : ByteArray := prog_4_method_8_code
def yX2_breakAt : MethodName := ⟨RX2, "breakAt", "(I)Z"⟩
abbrev cX2_firstWithTag : ByteArray := prog_4_method_9_code
def yX2_firstWithTag : MethodName := ⟨RX2, "firstWithTag", "(II)I"⟩
abbrev cX2_applicationCount : ByteArray := prog_4_method_10_code
def yX2_applicationCount : MethodName := ⟨RX2, "applicationCount", "()I"⟩
abbrev cX2_identifierIn : ByteArray := prog_4_method_11_code
def yX2_identifierIn : MethodName := ⟨RX2, "identifierIn", "(I)I"⟩
abbrev cX2_priorityIn : ByteArray := prog_4_method_12_code
def yX2_priorityIn : MethodName := ⟨RX2, "priorityIn", "(I)I"⟩
abbrev cX2_childFrom : ByteArray := prog_4_method_13_code
def yX2_childFrom : MethodName := ⟨RX2, "childFrom", "(IIIII)I"⟩
def RX3 : String := "CardTerminal$Identifiers"
def TX3 : u_T := fun k => match k with
  | 0 => ("CardTerminal$Identifiers", "lengths", "[I", true)
  | 1 => ("CardTerminal$Identifiers", "count", "I", false)
  | _ => ("CardTerminal$Identifiers", "values", "[I", true)
def tyX3 : Nat → FieldType := fun k => match k with
  | 0 => .array .int
  | 1 => .int
  | _ => .array .int
abbrev wsX30 : List Cond := u_ws RX3 TX3 3
theorem nmX3 : ∀ a, a < 3 → ∀ b, b < 3 → a ≠ b → (TX3 a).2.1 ≠ (TX3 b).2.1 := by decide +kernel
theorem tyX3_ok : ∀ k, k < 3 → parseFieldDescriptor (TX3 k).2.2.1 = some (tyX3 k) := by decide +kernel
abbrev cX3_init : ByteArray := prog_5_method_1_code
def yX3_init : MethodName := ⟨RX3, "<init>", "()V"⟩
abbrev cX3_add : ByteArray := prog_5_method_2_code
def yX3_add : MethodName := ⟨RX3, "add", "(LCardTerminal$Bytes;II)V"⟩
abbrev cX3_drop : ByteArray := prog_5_method_3_code
def yX3_drop : MethodName := ⟨RX3, "drop", "(I)V"⟩
abbrev cX3_copyDown : ByteArray := prog_5_method_4_code
def yX3_copyDown : MethodName := ⟨RX3, "copyDown", "(I)V"⟩
abbrev cX3_valueAt : ByteArray := prog_5_method_5_code
def yX3_valueAt : MethodName := ⟨RX3, "valueAt", "(II)I"⟩
abbrev cX3_beginsWith : ByteArray := prog_5_method_6_code
def yX3_beginsWith : MethodName := ⟨RX3, "beginsWith", "(ILCardTerminal$Identifiers;I)Z"⟩
def RX4 : String := "CardTerminal$Reversals"
def TX4 : u_T := fun k => match k with
  | 0 => ("CardTerminal$Reversals", "count", "I", false)
  | _ => ("CardTerminal$Reversals", "numbers", "[I", true)
def tyX4 : Nat → FieldType := fun k => match k with
  | 0 => .int
  | _ => .array .int
abbrev wsX40 : List Cond := u_ws RX4 TX4 2
theorem nmX4 : ∀ a, a < 2 → ∀ b, b < 2 → a ≠ b → (TX4 a).2.1 ≠ (TX4 b).2.1 := by decide +kernel
theorem tyX4_ok : ∀ k, k < 2 → parseFieldDescriptor (TX4 k).2.2.1 = some (tyX4 k) := by decide +kernel
abbrev cX4_init : ByteArray := prog_6_method_1_code
def yX4_init : MethodName := ⟨RX4, "<init>", "()V"⟩
abbrev cX4_add : ByteArray := prog_6_method_2_code
def yX4_add : MethodName := ⟨RX4, "add", "(I)V"⟩
abbrev cX4_first : ByteArray := prog_6_method_3_code
def yX4_first : MethodName := ⟨RX4, "first", "()I"⟩
abbrev cX4_dropFirst : ByteArray := prog_6_method_4_code
def yX4_dropFirst : MethodName := ⟨RX4, "dropFirst", "()V"⟩
def RX5 : String := "CardTerminal$Terminal"
def TX5 : u_T := fun k => match k with
  | 0 => ("CardTerminal$Terminal", "identifiers", "LCardTerminal$Identifiers;", true)
  | 1 => ("CardTerminal$Terminal", "codes", "[I", true)
  | 2 => ("CardTerminal$Terminal", "floorLimit", "I", false)
  | 3 => ("CardTerminal$Terminal", "lowerLimit", "I", false)
  | 4 => ("CardTerminal$Terminal", "upperLimit", "I", false)
  | 5 => ("CardTerminal$Terminal", "randomTarget", "I", false)
  | 6 => ("CardTerminal$Terminal", "online", "Z", false)
  | _ => ("CardTerminal$Terminal", "partials", "[I", true)
def tyX5 : Nat → FieldType := fun k => match k with
  | 0 => .object "CardTerminal$Identifiers"
  | 1 => .array .int
  | 2 => .int
  | 3 => .int
  | 4 => .int
  | 5 => .int
  | 6 => .boolean
  | _ => .array .int
abbrev wsX50 : List Cond := u_ws RX5 TX5 8
theorem nmX5 : ∀ a, a < 8 → ∀ b, b < 8 → a ≠ b → (TX5 a).2.1 ≠ (TX5 b).2.1 := by decide +kernel
theorem tyX5_ok : ∀ k, k < 8 → parseFieldDescriptor (TX5 k).2.2.1 = some (tyX5 k) := by decide +kernel
abbrev cX5_init : ByteArray := prog_7_method_1_code
def yX5_init : MethodName := ⟨RX5, "<init>", "()V"⟩
abbrev cX5_support : ByteArray := prog_7_method_2_code
def yX5_support : MethodName := ⟨RX5, "support", "(LCardTerminal$Bytes;Z)V"⟩
abbrev cX5_dropSupport : ByteArray := prog_7_method_3_code
def yX5_dropSupport : MethodName := ⟨RX5, "dropSupport", "(I)V"⟩
abbrev cX5_supports : ByteArray := prog_7_method_4_code
def yX5_supports : MethodName := ⟨RX5, "supports", "(LCardTerminal$Identifiers;I)Z"⟩
abbrev cX5_sameLength : ByteArray := prog_7_method_5_code
def yX5_sameLength : MethodName := ⟨RX5, "sameLength", "(LCardTerminal$Identifiers;II)Z"⟩
def RX6 : String := "CardTerminal$Transactions"
def TX6 : u_T := fun k => match k with
  | 0 => ("CardTerminal$Transactions", "counts", "[I", true)
  | 1 => ("CardTerminal$Transactions", "sums", "[I", true)
  | 2 => ("CardTerminal$Transactions", "count", "I", false)
  | 3 => ("CardTerminal$Transactions", "latestResults", "I", false)
  | _ => ("CardTerminal$Transactions", "latestAmount", "I", false)
def tyX6 : Nat → FieldType := fun k => match k with
  | 0 => .array .int
  | 1 => .array .int
  | 2 => .int
  | 3 => .int
  | _ => .int
abbrev wsX60 : List Cond := u_ws RX6 TX6 5
theorem nmX6 : ∀ a, a < 5 → ∀ b, b < 5 → a ≠ b → (TX6 a).2.1 ≠ (TX6 b).2.1 := by decide +kernel
theorem tyX6_ok : ∀ k, k < 5 → parseFieldDescriptor (TX6 k).2.2.1 = some (tyX6 k) := by decide +kernel
abbrev cX6_init : ByteArray := prog_8_method_1_code
def yX6_init : MethodName := ⟨RX6, "<init>", "()V"⟩
abbrev cX6_isPending : ByteArray := prog_8_method_2_code
def yX6_isPending : MethodName := ⟨RX6, "isPending", "()Z"⟩
abbrev cX6_open : ByteArray := prog_8_method_3_code
def yX6_open : MethodName := ⟨RX6, "open", "(III)V"⟩
abbrev cX6_settle : ByteArray := prog_8_method_4_code
def yX6_settle : MethodName := ⟨RX6, "settle", "(I)V"⟩
abbrev cX6_book : ByteArray := prog_8_method_5_code
def yX6_book : MethodName := ⟨RX6, "book", "(III)V"⟩
def RX7 : String := "CardTerminal"
def TX7 : u_T := fun k => match k with
  | 0 => ("CardTerminal", "buffer", "LCardTerminal$Bytes;", true)
  | 1 => ("CardTerminal", "objects", "LCardTerminal$DataObjects;", true)
  | 2 => ("CardTerminal", "card", "LCardTerminal$Card;", true)
  | 3 => ("CardTerminal", "terminal", "LCardTerminal$Terminal;", true)
  | 4 => ("CardTerminal", "transactions", "LCardTerminal$Transactions;", true)
  | _ => ("CardTerminal", "reversals", "LCardTerminal$Reversals;", true)
def tyX7 : Nat → FieldType := fun k => match k with
  | 0 => .object "CardTerminal$Bytes"
  | 1 => .object "CardTerminal$DataObjects"
  | 2 => .object "CardTerminal$Card"
  | 3 => .object "CardTerminal$Terminal"
  | 4 => .object "CardTerminal$Transactions"
  | _ => .object "CardTerminal$Reversals"
abbrev wsX70 : List Cond := u_ws RX7 TX7 6
theorem nmX7 : ∀ a, a < 6 → ∀ b, b < 6 → a ≠ b → (TX7 a).2.1 ≠ (TX7 b).2.1 := by decide +kernel
theorem tyX7_ok : ∀ k, k < 6 → parseFieldDescriptor (TX7 k).2.2.1 = some (tyX7 k) := by decide +kernel
abbrev cX7_init : ByteArray := prog_1_method_1_code
def yX7_init : MethodName := ⟨RX7, "<init>", "()V"⟩
abbrev cX7_appendByte : ByteArray := prog_1_method_2_code
def yX7_appendByte : MethodName := ⟨RX7, "appendByte", "(I)I"⟩
abbrev cX7_clearBytes : ByteArray := prog_1_method_3_code
def yX7_clearBytes : MethodName := ⟨RX7, "clearBytes", "()I"⟩
abbrev cX7_errorOffset : ByteArray := prog_1_method_4_code
def yX7_errorOffset : MethodName := ⟨RX7, "errorOffset", "()I"⟩
abbrev cX7_objectCount : ByteArray := prog_1_method_5_code
def yX7_objectCount : MethodName := ⟨RX7, "objectCount", "()I"⟩
abbrev cX7_objectTag : ByteArray := prog_1_method_6_code
def yX7_objectTag : MethodName := ⟨RX7, "objectTag", "(I)I"⟩
abbrev cX7_objectDepth : ByteArray := prog_1_method_7_code
def yX7_objectDepth : MethodName := ⟨RX7, "objectDepth", "(I)I"⟩
abbrev cX7_objectLength : ByteArray := prog_1_method_8_code
def yX7_objectLength : MethodName := ⟨RX7, "objectLength", "(I)I"⟩
abbrev cX7_findObject : ByteArray := prog_1_method_9_code
def yX7_findObject : MethodName := ⟨RX7, "findObject", "(II)I"⟩
abbrev cX7_objectError : ByteArray := prog_1_method_10_code
def yX7_objectError : MethodName := ⟨RX7, "objectError", "(I)I"⟩
abbrev cX7_insertCard : ByteArray := prog_1_method_11_code
def yX7_insertCard : MethodName := ⟨RX7, "insertCard", "()I"⟩
abbrev cX7_priorityOf : ByteArray := prog_1_method_12_code
def yX7_priorityOf : MethodName := ⟨RX7, "priorityOf", "(I)I"⟩
abbrev cX7_setIssuerCode : ByteArray := prog_1_method_13_code
def yX7_setIssuerCode : MethodName := ⟨RX7, "setIssuerCode", "(II)I"⟩
abbrev cX7_addIdentifier : ByteArray := prog_1_method_14_code
def yX7_addIdentifier : MethodName := ⟨RX7, "addIdentifier", "(Z)I"⟩
abbrev cX7_removeIdentifier : ByteArray := prog_1_method_15_code
def yX7_removeIdentifier : MethodName := ⟨RX7, "removeIdentifier", "(I)I"⟩
abbrev cX7_setTerminalCode : ByteArray := prog_1_method_16_code
def yX7_setTerminalCode : MethodName := ⟨RX7, "setTerminalCode", "(II)I"⟩
abbrev cX7_setFloorLimit : ByteArray := prog_1_method_17_code
def yX7_setFloorLimit : MethodName := ⟨RX7, "setFloorLimit", "(I)I"⟩
abbrev cX7_setOfflineLimits : ByteArray := prog_1_method_18_code
def yX7_setOfflineLimits : MethodName := ⟨RX7, "setOfflineLimits", "(II)I"⟩
abbrev cX7_setRandomTarget : ByteArray := prog_1_method_19_code
def yX7_setRandomTarget : MethodName := ⟨RX7, "setRandomTarget", "(I)I"⟩
abbrev cX7_setOnline : ByteArray := prog_1_method_20_code
def yX7_setOnline : MethodName := ⟨RX7, "setOnline", "(Z)I"⟩
abbrev cX7_replaceCode : ByteArray := prog_1_method_21_code
def yX7_replaceCode : MethodName := ⟨RX7, "replaceCode", "([III)I"⟩
abbrev cX7_candidateCount : ByteArray := prog_1_method_22_code
def yX7_candidateCount : MethodName := ⟨RX7, "candidateCount", "()I"⟩
abbrev cX7_candidateAt : ByteArray := prog_1_method_23_code
def yX7_candidateAt : MethodName := ⟨RX7, "candidateAt", "(I)I"⟩
abbrev cX7_select : ByteArray := prog_1_method_24_code
def yX7_select : MethodName := ⟨RX7, "select", "(IZ)I"⟩
abbrev cX7_isCandidate : ByteArray := prog_1_method_25_code
def yX7_isCandidate : MethodName := ⟨RX7, "isCandidate", "(I)Z"⟩
abbrev cX7_candidatesBefore : ByteArray := prog_1_method_26_code
def yX7_candidatesBefore : MethodName := ⟨RX7, "candidatesBefore", "(I)I"⟩
abbrev cX7_start : ByteArray := prog_1_method_27_code
def yX7_start : MethodName := ⟨RX7, "start", "(II)I"⟩
abbrev cX7_answer : ByteArray := prog_1_method_28_code
def yX7_answer : MethodName := ⟨RX7, "answer", "(I)I"⟩
abbrev cX7_sendReversal : ByteArray := prog_1_method_29_code
def yX7_sendReversal : MethodName := ⟨RX7, "sendReversal", "(Z)I"⟩
abbrev cX7_reversalCount : ByteArray := prog_1_method_30_code
def yX7_reversalCount : MethodName := ⟨RX7, "reversalCount", "()I"⟩
abbrev cX7_verificationResults : ByteArray := prog_1_method_31_code
def yX7_verificationResults : MethodName := ⟨RX7, "verificationResults", "()I"⟩
abbrev cX7_outcomeCount : ByteArray := prog_1_method_32_code
def yX7_outcomeCount : MethodName := ⟨RX7, "outcomeCount", "(I)I"⟩
abbrev cX7_outcomeAmount : ByteArray := prog_1_method_33_code
def yX7_outcomeAmount : MethodName := ⟨RX7, "outcomeAmount", "(I)I"⟩
abbrev cX7_offlineCounter : ByteArray := prog_1_method_34_code
def yX7_offlineCounter : MethodName := ⟨RX7, "offlineCounter", "()I"⟩
abbrev cX7_isOutcome : ByteArray := prog_1_method_35_code
def yX7_isOutcome : MethodName := ⟨RX7, "isOutcome", "(I)Z"⟩
abbrev cX7_verify : ByteArray := prog_1_method_36_code
def yX7_verify : MethodName := ⟨RX7, "verify", "(II)I"⟩
abbrev cX7_decide : ByteArray := prog_1_method_37_code
def yX7_decide : MethodName := ⟨RX7, "decide", "(I)I"⟩
abbrev cX7_decideWithoutHost : ByteArray := prog_1_method_38_code
def yX7_decideWithoutHost : MethodName := ⟨RX7, "decideWithoutHost", "(I)I"⟩
abbrev cX7_isHitBy : ByteArray := prog_1_method_39_code
def yX7_isHitBy : MethodName := ⟨RX7, "isHitBy", "(II)Z"⟩
abbrev cX7_countIfOffline : ByteArray := prog_1_method_40_code
def yX7_countIfOffline : MethodName := ⟨RX7, "countIfOffline", "(I)V"⟩
abbrev cX7_at : ByteArray := prog_1_method_41_code
def yX7_at : MethodName := ⟨RX7, "at", "([II)I"⟩
abbrev cX7_put : ByteArray := prog_1_method_42_code
def yX7_put : MethodName := ⟨RX7, "put", "([III)V"⟩
def RX8 : String := "CardTerminalModel"
def TX8 : u_T := fun k => match k with
  | 0 => ("CardTerminalModel", "length", "I", false)
  | 1 => ("CardTerminalModel", "bytes", "[I", true)
  | 2 => ("CardTerminalModel", "objects", "I", false)
  | 3 => ("CardTerminalModel", "tag", "[I", true)
  | 4 => ("CardTerminalModel", "depth", "[I", true)
  | 5 => ("CardTerminalModel", "size", "[I", true)
  | 6 => ("CardTerminalModel", "value", "[I", true)
  | 7 => ("CardTerminalModel", "ends", "[I", true)
  | 8 => ("CardTerminalModel", "applications", "I", false)
  | 9 => ("CardTerminalModel", "identifier", "[I", true)
  | 10 => ("CardTerminalModel", "identifierSize", "[I", true)
  | 11 => ("CardTerminalModel", "priority", "[I", true)
  | 12 => ("CardTerminalModel", "confirms", "[I", true)
  | 13 => ("CardTerminalModel", "issuer", "[I", true)
  | 14 => ("CardTerminalModel", "counter", "I", false)
  | 15 => ("CardTerminalModel", "isNew", "Z", false)
  | 16 => ("CardTerminalModel", "supported", "I", false)
  | 17 => ("CardTerminalModel", "accepted", "[I", true)
  | 18 => ("CardTerminalModel", "acceptedSize", "[I", true)
  | 19 => ("CardTerminalModel", "partial", "[I", true)
  | 20 => ("CardTerminalModel", "terminal", "[I", true)
  | 21 => ("CardTerminalModel", "floor", "I", false)
  | 22 => ("CardTerminalModel", "lower", "I", false)
  | 23 => ("CardTerminalModel", "upper", "I", false)
  | 24 => ("CardTerminalModel", "target", "I", false)
  | 25 => ("CardTerminalModel", "isOnline", "Z", false)
  | 26 => ("CardTerminalModel", "selected", "I", false)
  | 27 => ("CardTerminalModel", "transactions", "I", false)
  | 28 => ("CardTerminalModel", "results", "I", false)
  | 29 => ("CardTerminalModel", "amount", "I", false)
  | 30 => ("CardTerminalModel", "isPending", "Z", false)
  | 31 => ("CardTerminalModel", "queue", "[I", true)
  | 32 => ("CardTerminalModel", "queued", "I", false)
  | 33 => ("CardTerminalModel", "counts", "[I", true)
  | 34 => ("CardTerminalModel", "sums", "[I", true)
  | 35 => ("CardTerminalModel", "candidates", "I", false)
  | _ => ("CardTerminalModel", "candidate", "[I", true)
def tyX8 : Nat → FieldType := fun k => match k with
  | 0 => .int
  | 1 => .array .int
  | 2 => .int
  | 3 => .array .int
  | 4 => .array .int
  | 5 => .array .int
  | 6 => .array .int
  | 7 => .array .int
  | 8 => .int
  | 9 => .array .int
  | 10 => .array .int
  | 11 => .array .int
  | 12 => .array .int
  | 13 => .array .int
  | 14 => .int
  | 15 => .boolean
  | 16 => .int
  | 17 => .array .int
  | 18 => .array .int
  | 19 => .array .int
  | 20 => .array .int
  | 21 => .int
  | 22 => .int
  | 23 => .int
  | 24 => .int
  | 25 => .boolean
  | 26 => .int
  | 27 => .int
  | 28 => .int
  | 29 => .int
  | 30 => .boolean
  | 31 => .array .int
  | 32 => .int
  | 33 => .array .int
  | 34 => .array .int
  | 35 => .int
  | _ => .array .int
abbrev wsX80 : List Cond := u_ws RX8 TX8 37
theorem nmX8 : ∀ a, a < 37 → ∀ b, b < 37 → a ≠ b → (TX8 a).2.1 ≠ (TX8 b).2.1 := by decide +kernel
theorem tyX8_ok : ∀ k, k < 37 → parseFieldDescriptor (TX8 k).2.2.1 = some (tyX8 k) := by decide +kernel
abbrev cX8_init : ByteArray := prog_10_method_1_code
def yX8_init : MethodName := ⟨RX8, "<init>", "()V"⟩
abbrev cX8_in : ByteArray := prog_10_method_2_code
def yX8_in : MethodName := ⟨RX8, "in", "(III)Z"⟩
abbrev cX8_appendByte : ByteArray := prog_10_method_3_code
def yX8_appendByte : MethodName := ⟨RX8, "appendByte", "(I)I"⟩
abbrev cX8_clearBytes : ByteArray := prog_10_method_4_code
def yX8_clearBytes : MethodName := ⟨RX8, "clearBytes", "()I"⟩
abbrev cX8_reads : ByteArray := prog_10_method_5_code
def yX8_reads : MethodName := ⟨RX8, "reads", "()I"⟩
abbrev cX8_errorOffset : ByteArray := prog_10_method_6_code
def yX8_errorOffset : MethodName := ⟨RX8, "errorOffset", "()I"⟩
abbrev cX8_objectCount : ByteArray := prog_10_method_7_code
def yX8_objectCount : MethodName := ⟨RX8, "objectCount", "()I"⟩
abbrev cX8_errorOf : ByteArray := prog_10_method_8_code
def yX8_errorOf : MethodName := ⟨RX8, "errorOf", "(I)I"⟩
abbrev cX8_objectTag : ByteArray := prog_10_method_9_code
def yX8_objectTag : MethodName := ⟨RX8, "objectTag", "(I)I"⟩
abbrev cX8_objectDepth : ByteArray := prog_10_method_10_code
def yX8_objectDepth : MethodName := ⟨RX8, "objectDepth", "(I)I"⟩
abbrev cX8_objectLength : ByteArray := prog_10_method_11_code
def yX8_objectLength : MethodName := ⟨RX8, "objectLength", "(I)I"⟩
abbrev cX8_findObject : ByteArray := prog_10_method_12_code
def yX8_findObject : MethodName := ⟨RX8, "findObject", "(II)I"⟩
abbrev cX8_nameOf : ByteArray := prog_10_method_13_code
def yX8_nameOf : MethodName := ⟨RX8, "nameOf", "(I)I"⟩
abbrev cX8_priorityByte : ByteArray := prog_10_method_14_code
def yX8_priorityByte : MethodName := ⟨RX8, "priorityByte", "(I)I"⟩
abbrev cX8_insertCard : ByteArray := prog_10_method_15_code
def yX8_insertCard : MethodName := ⟨RX8, "insertCard", "()I"⟩
abbrev cX8_isApplication : ByteArray := prog_10_method_16_code
def yX8_isApplication : MethodName := ⟨RX8, "isApplication", "(I)Z"⟩
abbrev cX8_priorityOf : ByteArray := prog_10_method_17_code
def yX8_priorityOf : MethodName := ⟨RX8, "priorityOf", "(I)I"⟩
abbrev cX8_setIssuerCode : ByteArray := prog_10_method_18_code
def yX8_setIssuerCode : MethodName := ⟨RX8, "setIssuerCode", "(II)I"⟩
abbrev cX8_addIdentifier : ByteArray := prog_10_method_19_code
def yX8_addIdentifier : MethodName := ⟨RX8, "addIdentifier", "(Z)I"⟩
abbrev cX8_removeIdentifier : ByteArray := prog_10_method_20_code
def yX8_removeIdentifier : MethodName := ⟨RX8, "removeIdentifier", "(I)I"⟩
abbrev cX8_setTerminalCode : ByteArray := prog_10_method_21_code
def yX8_setTerminalCode : MethodName := ⟨RX8, "setTerminalCode", "(II)I"⟩
abbrev cX8_setFloorLimit : ByteArray := prog_10_method_22_code
def yX8_setFloorLimit : MethodName := ⟨RX8, "setFloorLimit", "(I)I"⟩
abbrev cX8_setOfflineLimits : ByteArray := prog_10_method_23_code
def yX8_setOfflineLimits : MethodName := ⟨RX8, "setOfflineLimits", "(II)I"⟩
abbrev cX8_setRandomTarget : ByteArray := prog_10_method_24_code
def yX8_setRandomTarget : MethodName := ⟨RX8, "setRandomTarget", "(I)I"⟩
abbrev cX8_setOnline : ByteArray := prog_10_method_25_code
def yX8_setOnline : MethodName := ⟨RX8, "setOnline", "(Z)I"⟩
abbrev cX8_isSupported : ByteArray := prog_10_method_26_code
def yX8_isSupported : MethodName := ⟨RX8, "isSupported", "(I)Z"⟩
abbrev cX8_lists : ByteArray := prog_10_method_27_code
def yX8_lists : MethodName := ⟨RX8, "lists", "()V"⟩
abbrev cX8_candidateCount : ByteArray := prog_10_method_28_code
def yX8_candidateCount : MethodName := ⟨RX8, "candidateCount", "()I"⟩
abbrev cX8_candidateAt : ByteArray := prog_10_method_29_code
def yX8_candidateAt : MethodName := ⟨RX8, "candidateAt", "(I)I"⟩
abbrev cX8_select : ByteArray := prog_10_method_30_code
def yX8_select : MethodName := ⟨RX8, "select", "(IZ)I"⟩
abbrev cX8_ends : ByteArray := prog_10_method_31_code
def yX8_ends : MethodName := ⟨RX8, "ends", "(I)I"⟩
abbrev cX8_byDefault : ByteArray := prog_10_method_32_code
def yX8_byDefault : MethodName := ⟨RX8, "byDefault", "()I"⟩
abbrev cX8_start : ByteArray := prog_10_method_33_code
def yX8_start : MethodName := ⟨RX8, "start", "(II)I"⟩
abbrev cX8_answer : ByteArray := prog_10_method_34_code
def yX8_answer : MethodName := ⟨RX8, "answer", "(I)I"⟩
abbrev cX8_sendReversal : ByteArray := prog_10_method_35_code
def yX8_sendReversal : MethodName := ⟨RX8, "sendReversal", "(Z)I"⟩
abbrev cX8_reversalCount : ByteArray := prog_10_method_36_code
def yX8_reversalCount : MethodName := ⟨RX8, "reversalCount", "()I"⟩
abbrev cX8_verificationResults : ByteArray := prog_10_method_37_code
def yX8_verificationResults : MethodName := ⟨RX8, "verificationResults", "()I"⟩
abbrev cX8_outcomeCount : ByteArray := prog_10_method_38_code
def yX8_outcomeCount : MethodName := ⟨RX8, "outcomeCount", "(I)I"⟩
abbrev cX8_outcomeAmount : ByteArray := prog_10_method_39_code
def yX8_outcomeAmount : MethodName := ⟨RX8, "outcomeAmount", "(I)I"⟩
abbrev cX8_offlineCounter : ByteArray := prog_10_method_40_code
def yX8_offlineCounter : MethodName := ⟨RX8, "offlineCounter", "()I"⟩
def RL : String := "CardTerminalLaw"
abbrev cL_law : ByteArray := code
def yL_law : MethodName := ⟨RL, "law", "([I)Z"⟩
abbrev vwCl : List vw_C := [(RX0, TX0, 2), (RX1, TX1, 6), (RX2, TX2, 8), (RX3, TX3, 3), (RX4, TX4, 2), (RX5, TX5, 8), (RX6, TX6, 5), (RX7, TX7, 6), (RX8, TX8, 37)]
def x_nest : List (String × Nat × MethodName × String) := [("CardTerminal", 9, ⟨"CardTerminal$Bytes", "<init>", "()V"⟩, "CardTerminal"), ("CardTerminal", 18, ⟨"CardTerminal$DataObjects", "<init>", "()V"⟩, "CardTerminal"), ("CardTerminal", 25, ⟨"CardTerminal$Card", "<init>", "()V"⟩, "CardTerminal"), ("CardTerminal$Card", 11, ⟨"CardTerminal$Identifiers", "<init>", "()V"⟩, "CardTerminal"), ("CardTerminal", 32, ⟨"CardTerminal$Terminal", "<init>", "()V"⟩, "CardTerminal"), ("CardTerminal$Terminal", 11, ⟨"CardTerminal$Identifiers", "<init>", "()V"⟩, "CardTerminal"), ("CardTerminal", 39, ⟨"CardTerminal$Transactions", "<init>", "()V"⟩, "CardTerminal"), ("CardTerminal", 46, ⟨"CardTerminal$Reversals", "<init>", "()V"⟩, "CardTerminal"), ("CardTerminal$Bytes", 19, ⟨"CardTerminal", "put", "([III)V"⟩, "CardTerminal"), ("CardTerminal$DataObjects", 52, ⟨"CardTerminal", "at", "([II)I"⟩, "CardTerminal"), ("CardTerminal$DataObjects", 63, ⟨"CardTerminal", "put", "([III)V"⟩, "CardTerminal"), ("CardTerminal$Transactions", 28, ⟨"CardTerminal", "at", "([II)I"⟩, "CardTerminal"), ("CardTerminal$Card", 39, ⟨"CardTerminal", "put", "([III)V"⟩, "CardTerminal"), ("CardTerminal$Card", 57, ⟨"CardTerminal", "at", "([II)I"⟩, "CardTerminal"), ("CardTerminal$Identifiers", 25, ⟨"CardTerminal", "at", "([II)I"⟩, "CardTerminal"), ("CardTerminal$Identifiers", 29, ⟨"CardTerminal", "put", "([III)V"⟩, "CardTerminal"), ("CardTerminal$Terminal", 45, ⟨"CardTerminal", "put", "([III)V"⟩, "CardTerminal"), ("CardTerminal$Terminal", 58, ⟨"CardTerminal", "at", "([II)I"⟩, "CardTerminal"), ("CardTerminal$Transactions", 36, ⟨"CardTerminal", "put", "([III)V"⟩, "CardTerminal"), ("CardTerminal$Reversals", 19, ⟨"CardTerminal", "put", "([III)V"⟩, "CardTerminal"), ("CardTerminal$Reversals", 23, ⟨"CardTerminal", "at", "([II)I"⟩, "CardTerminal")]
theorem x_nest_0 : ("CardTerminal", 9, (⟨"CardTerminal$Bytes", "<init>", "()V"⟩ : MethodName), "CardTerminal") ∈ x_nest := List.mem_of_getElem? (i := 0) rfl
theorem x_nest_1 : ("CardTerminal", 18, (⟨"CardTerminal$DataObjects", "<init>", "()V"⟩ : MethodName), "CardTerminal") ∈ x_nest := List.mem_of_getElem? (i := 1) rfl
theorem x_nest_2 : ("CardTerminal", 25, (⟨"CardTerminal$Card", "<init>", "()V"⟩ : MethodName), "CardTerminal") ∈ x_nest := List.mem_of_getElem? (i := 2) rfl
theorem x_nest_3 : ("CardTerminal$Card", 11, (⟨"CardTerminal$Identifiers", "<init>", "()V"⟩ : MethodName), "CardTerminal") ∈ x_nest := List.mem_of_getElem? (i := 3) rfl
theorem x_nest_4 : ("CardTerminal", 32, (⟨"CardTerminal$Terminal", "<init>", "()V"⟩ : MethodName), "CardTerminal") ∈ x_nest := List.mem_of_getElem? (i := 4) rfl
theorem x_nest_5 : ("CardTerminal$Terminal", 11, (⟨"CardTerminal$Identifiers", "<init>", "()V"⟩ : MethodName), "CardTerminal") ∈ x_nest := List.mem_of_getElem? (i := 5) rfl
theorem x_nest_6 : ("CardTerminal", 39, (⟨"CardTerminal$Transactions", "<init>", "()V"⟩ : MethodName), "CardTerminal") ∈ x_nest := List.mem_of_getElem? (i := 6) rfl
theorem x_nest_7 : ("CardTerminal", 46, (⟨"CardTerminal$Reversals", "<init>", "()V"⟩ : MethodName), "CardTerminal") ∈ x_nest := List.mem_of_getElem? (i := 7) rfl
theorem x_nest_8 : ("CardTerminal$Bytes", 19, (⟨"CardTerminal", "put", "([III)V"⟩ : MethodName), "CardTerminal") ∈ x_nest := List.mem_of_getElem? (i := 8) rfl
theorem x_nest_9 : ("CardTerminal$DataObjects", 52, (⟨"CardTerminal", "at", "([II)I"⟩ : MethodName), "CardTerminal") ∈ x_nest := List.mem_of_getElem? (i := 9) rfl
theorem x_nest_10 : ("CardTerminal$DataObjects", 63, (⟨"CardTerminal", "put", "([III)V"⟩ : MethodName), "CardTerminal") ∈ x_nest := List.mem_of_getElem? (i := 10) rfl
theorem x_nest_11 : ("CardTerminal$Transactions", 28, (⟨"CardTerminal", "at", "([II)I"⟩ : MethodName), "CardTerminal") ∈ x_nest := List.mem_of_getElem? (i := 11) rfl
theorem x_nest_12 : ("CardTerminal$Card", 39, (⟨"CardTerminal", "put", "([III)V"⟩ : MethodName), "CardTerminal") ∈ x_nest := List.mem_of_getElem? (i := 12) rfl
theorem x_nest_13 : ("CardTerminal$Card", 57, (⟨"CardTerminal", "at", "([II)I"⟩ : MethodName), "CardTerminal") ∈ x_nest := List.mem_of_getElem? (i := 13) rfl
theorem x_nest_14 : ("CardTerminal$Identifiers", 25, (⟨"CardTerminal", "at", "([II)I"⟩ : MethodName), "CardTerminal") ∈ x_nest := List.mem_of_getElem? (i := 14) rfl
theorem x_nest_15 : ("CardTerminal$Identifiers", 29, (⟨"CardTerminal", "put", "([III)V"⟩ : MethodName), "CardTerminal") ∈ x_nest := List.mem_of_getElem? (i := 15) rfl
theorem x_nest_16 : ("CardTerminal$Terminal", 45, (⟨"CardTerminal", "put", "([III)V"⟩ : MethodName), "CardTerminal") ∈ x_nest := List.mem_of_getElem? (i := 16) rfl
theorem x_nest_17 : ("CardTerminal$Terminal", 58, (⟨"CardTerminal", "at", "([II)I"⟩ : MethodName), "CardTerminal") ∈ x_nest := List.mem_of_getElem? (i := 17) rfl
theorem x_nest_18 : ("CardTerminal$Transactions", 36, (⟨"CardTerminal", "put", "([III)V"⟩ : MethodName), "CardTerminal") ∈ x_nest := List.mem_of_getElem? (i := 18) rfl
theorem x_nest_19 : ("CardTerminal$Reversals", 19, (⟨"CardTerminal", "put", "([III)V"⟩ : MethodName), "CardTerminal") ∈ x_nest := List.mem_of_getElem? (i := 19) rfl
theorem x_nest_20 : ("CardTerminal$Reversals", 23, (⟨"CardTerminal", "at", "([II)I"⟩ : MethodName), "CardTerminal") ∈ x_nest := List.mem_of_getElem? (i := 20) rfl
