def x_G : List Cond := lw_tbl.filter goodWord
theorem x_g {w : Cond} (h : w ∈ lw_tbl) (hg : goodWord w = true) : w ∈ x_G := List.mem_filter.mpr ⟨h, hg⟩
theorem x_gp {w : Cond} (h : w ∈ k2_sels lw_privs) (hg : goodWord w = true) : w ∈ x_G := x_g (List.mem_append_left _ h) hg
theorem x_g1 {w : Cond} (h : w ∈ tables_1_1) (hg : goodWord w = true) : w ∈ x_G := x_g (List.mem_append_right _ (List.mem_append_left _ h)) hg
theorem x_g2 {w : Cond} (h : w ∈ tables_1_2) (hg : goodWord w = true) : w ∈ x_G := x_g (List.mem_append_right _ (List.mem_append_right _ (List.mem_append_left _ h))) hg
theorem x_g3 {w : Cond} (h : w ∈ tables_1_3) (hg : goodWord w = true) : w ∈ x_G := x_g (List.mem_append_right _ (List.mem_append_right _ (List.mem_append_right _ (List.mem_append_left _ h)))) hg
theorem x_g4 {w : Cond} (h : w ∈ tables_1_4) (hg : goodWord w = true) : w ∈ x_G := x_g (List.mem_append_right _ (List.mem_append_right _ (List.mem_append_right _ (List.mem_append_right _ h)))) hg
theorem x_gi {ws : List Cond} (h : ∀ w ∈ ws, w ∈ x_G) : GoodIn x_G ws := fun w hw => ⟨h w hw, good_of_word (List.mem_filter.mp (h w hw)).2⟩
set_option maxRecDepth 20000 in
theorem mkp_0 : (Jvm.Cond.selects "CardTerminal$DataObjects" ({ cls := "CardTerminal$DataObjects", name := "stillOpen", desc := "(I)I" } : Jvm.MethodName) ({ cls := "CardTerminal$DataObjects", name := "stillOpen", desc := "(I)I" } : Jvm.MethodName)) ∈ x_G := x_gp (List.mem_of_getElem? (i := 0) rfl) rfl
set_option maxRecDepth 20000 in
theorem mkp_1 : (Jvm.Cond.selects "CardTerminal$DataObjects" ({ cls := "CardTerminal$DataObjects", name := "valueEnd", desc := "(I)I" } : Jvm.MethodName) ({ cls := "CardTerminal$DataObjects", name := "valueEnd", desc := "(I)I" } : Jvm.MethodName)) ∈ x_G := x_gp (List.mem_of_getElem? (i := 1) rfl) rfl
set_option maxRecDepth 20000 in
theorem mkp_2 : (Jvm.Cond.selects "CardTerminal$DataObjects" ({ cls := "CardTerminal$DataObjects", name := "readTag", desc := "(LCardTerminal$Bytes;I)Z" } : Jvm.MethodName) ({ cls := "CardTerminal$DataObjects", name := "readTag", desc := "(LCardTerminal$Bytes;I)Z" } : Jvm.MethodName)) ∈ x_G := x_gp (List.mem_of_getElem? (i := 2) rfl) rfl
set_option maxRecDepth 20000 in
theorem mkp_3 : (Jvm.Cond.selects "CardTerminal$DataObjects" ({ cls := "CardTerminal$DataObjects", name := "breakAt", desc := "(I)Z" } : Jvm.MethodName) ({ cls := "CardTerminal$DataObjects", name := "breakAt", desc := "(I)Z" } : Jvm.MethodName)) ∈ x_G := x_gp (List.mem_of_getElem? (i := 3) rfl) rfl
set_option maxRecDepth 20000 in
theorem mkp_4 : (Jvm.Cond.selects "CardTerminal$DataObjects" ({ cls := "CardTerminal$DataObjects", name := "readLength", desc := "(LCardTerminal$Bytes;I)Z" } : Jvm.MethodName) ({ cls := "CardTerminal$DataObjects", name := "readLength", desc := "(LCardTerminal$Bytes;I)Z" } : Jvm.MethodName)) ∈ x_G := x_gp (List.mem_of_getElem? (i := 4) rfl) rfl
set_option maxRecDepth 20000 in
theorem mkp_5 : (Jvm.Cond.selects "CardTerminal" ({ cls := "CardTerminal", name := "objectError", desc := "(I)I" } : Jvm.MethodName) ({ cls := "CardTerminal", name := "objectError", desc := "(I)I" } : Jvm.MethodName)) ∈ x_G := x_gp (List.mem_of_getElem? (i := 5) rfl) rfl
set_option maxRecDepth 20000 in
theorem mkp_6 : (Jvm.Cond.selects "CardTerminal$DataObjects" ({ cls := "CardTerminal$DataObjects", name := "childFrom", desc := "(IIIII)I" } : Jvm.MethodName) ({ cls := "CardTerminal$DataObjects", name := "childFrom", desc := "(IIIII)I" } : Jvm.MethodName)) ∈ x_G := x_gp (List.mem_of_getElem? (i := 6) rfl) rfl
set_option maxRecDepth 20000 in
theorem mkp_7 : (Jvm.Cond.selects "CardTerminal$Card" ({ cls := "CardTerminal$Card", name := "indicatorIn", desc := "(ILCardTerminal$DataObjects;LCardTerminal$Bytes;)I" } : Jvm.MethodName) ({ cls := "CardTerminal$Card", name := "indicatorIn", desc := "(ILCardTerminal$DataObjects;LCardTerminal$Bytes;)I" } : Jvm.MethodName)) ∈ x_G := x_gp (List.mem_of_getElem? (i := 7) rfl) rfl
set_option maxRecDepth 20000 in
theorem mkp_8 : (Jvm.Cond.selects "CardTerminal$Identifiers" ({ cls := "CardTerminal$Identifiers", name := "copyDown", desc := "(I)V" } : Jvm.MethodName) ({ cls := "CardTerminal$Identifiers", name := "copyDown", desc := "(I)V" } : Jvm.MethodName)) ∈ x_G := x_gp (List.mem_of_getElem? (i := 8) rfl) rfl
set_option maxRecDepth 20000 in
theorem mkp_9 : (Jvm.Cond.selects "CardTerminal" ({ cls := "CardTerminal", name := "isCandidate", desc := "(I)Z" } : Jvm.MethodName) ({ cls := "CardTerminal", name := "isCandidate", desc := "(I)Z" } : Jvm.MethodName)) ∈ x_G := x_gp (List.mem_of_getElem? (i := 9) rfl) rfl
set_option maxRecDepth 20000 in
theorem mkp_10 : (Jvm.Cond.selects "CardTerminal$Terminal" ({ cls := "CardTerminal$Terminal", name := "sameLength", desc := "(LCardTerminal$Identifiers;II)Z" } : Jvm.MethodName) ({ cls := "CardTerminal$Terminal", name := "sameLength", desc := "(LCardTerminal$Identifiers;II)Z" } : Jvm.MethodName)) ∈ x_G := x_gp (List.mem_of_getElem? (i := 10) rfl) rfl
set_option maxRecDepth 20000 in
theorem mkp_11 : (Jvm.Cond.selects "CardTerminal" ({ cls := "CardTerminal", name := "candidatesBefore", desc := "(I)I" } : Jvm.MethodName) ({ cls := "CardTerminal", name := "candidatesBefore", desc := "(I)I" } : Jvm.MethodName)) ∈ x_G := x_gp (List.mem_of_getElem? (i := 11) rfl) rfl
set_option maxRecDepth 20000 in
theorem mkp_12 : (Jvm.Cond.selects "CardTerminal$Card" ({ cls := "CardTerminal$Card", name := "rank", desc := "(I)I" } : Jvm.MethodName) ({ cls := "CardTerminal$Card", name := "rank", desc := "(I)I" } : Jvm.MethodName)) ∈ x_G := x_gp (List.mem_of_getElem? (i := 12) rfl) rfl
set_option maxRecDepth 20000 in
theorem mkp_13 : (Jvm.Cond.selects "CardTerminal" ({ cls := "CardTerminal", name := "verify", desc := "(II)I" } : Jvm.MethodName) ({ cls := "CardTerminal", name := "verify", desc := "(II)I" } : Jvm.MethodName)) ∈ x_G := x_gp (List.mem_of_getElem? (i := 13) rfl) rfl
set_option maxRecDepth 20000 in
theorem mkp_14 : (Jvm.Cond.selects "CardTerminal" ({ cls := "CardTerminal", name := "decide", desc := "(I)I" } : Jvm.MethodName) ({ cls := "CardTerminal", name := "decide", desc := "(I)I" } : Jvm.MethodName)) ∈ x_G := x_gp (List.mem_of_getElem? (i := 14) rfl) rfl
set_option maxRecDepth 20000 in
theorem mkp_15 : (Jvm.Cond.selects "CardTerminal" ({ cls := "CardTerminal", name := "isHitBy", desc := "(II)Z" } : Jvm.MethodName) ({ cls := "CardTerminal", name := "isHitBy", desc := "(II)Z" } : Jvm.MethodName)) ∈ x_G := x_gp (List.mem_of_getElem? (i := 15) rfl) rfl
set_option maxRecDepth 20000 in
theorem mkp_16 : (Jvm.Cond.selects "CardTerminal" ({ cls := "CardTerminal", name := "decideWithoutHost", desc := "(I)I" } : Jvm.MethodName) ({ cls := "CardTerminal", name := "decideWithoutHost", desc := "(I)I" } : Jvm.MethodName)) ∈ x_G := x_gp (List.mem_of_getElem? (i := 16) rfl) rfl
set_option maxRecDepth 20000 in
theorem mkp_17 : (Jvm.Cond.selects "CardTerminal$Transactions" ({ cls := "CardTerminal$Transactions", name := "book", desc := "(III)V" } : Jvm.MethodName) ({ cls := "CardTerminal$Transactions", name := "book", desc := "(III)V" } : Jvm.MethodName)) ∈ x_G := x_gp (List.mem_of_getElem? (i := 17) rfl) rfl
set_option maxRecDepth 20000 in
theorem mkp_18 : (Jvm.Cond.selects "CardTerminal" ({ cls := "CardTerminal", name := "countIfOffline", desc := "(I)V" } : Jvm.MethodName) ({ cls := "CardTerminal", name := "countIfOffline", desc := "(I)V" } : Jvm.MethodName)) ∈ x_G := x_gp (List.mem_of_getElem? (i := 18) rfl) rfl
set_option maxRecDepth 20000 in
theorem mkp_19 : (Jvm.Cond.selects "CardTerminalModel" ({ cls := "CardTerminalModel", name := "reads", desc := "()I" } : Jvm.MethodName) ({ cls := "CardTerminalModel", name := "reads", desc := "()I" } : Jvm.MethodName)) ∈ x_G := x_gp (List.mem_of_getElem? (i := 19) rfl) rfl
set_option maxRecDepth 20000 in
theorem mkp_20 : (Jvm.Cond.selects "CardTerminalModel" ({ cls := "CardTerminalModel", name := "errorOf", desc := "(I)I" } : Jvm.MethodName) ({ cls := "CardTerminalModel", name := "errorOf", desc := "(I)I" } : Jvm.MethodName)) ∈ x_G := x_gp (List.mem_of_getElem? (i := 20) rfl) rfl
set_option maxRecDepth 20000 in
theorem mkp_21 : (Jvm.Cond.selects "CardTerminalModel" ({ cls := "CardTerminalModel", name := "nameOf", desc := "(I)I" } : Jvm.MethodName) ({ cls := "CardTerminalModel", name := "nameOf", desc := "(I)I" } : Jvm.MethodName)) ∈ x_G := x_gp (List.mem_of_getElem? (i := 21) rfl) rfl
set_option maxRecDepth 20000 in
theorem mkp_22 : (Jvm.Cond.selects "CardTerminalModel" ({ cls := "CardTerminalModel", name := "priorityByte", desc := "(I)I" } : Jvm.MethodName) ({ cls := "CardTerminalModel", name := "priorityByte", desc := "(I)I" } : Jvm.MethodName)) ∈ x_G := x_gp (List.mem_of_getElem? (i := 22) rfl) rfl
set_option maxRecDepth 20000 in
theorem mkp_23 : (Jvm.Cond.selects "CardTerminalModel" ({ cls := "CardTerminalModel", name := "isApplication", desc := "(I)Z" } : Jvm.MethodName) ({ cls := "CardTerminalModel", name := "isApplication", desc := "(I)Z" } : Jvm.MethodName)) ∈ x_G := x_gp (List.mem_of_getElem? (i := 23) rfl) rfl
set_option maxRecDepth 20000 in
theorem mkp_24 : (Jvm.Cond.selects "CardTerminalModel" ({ cls := "CardTerminalModel", name := "lists", desc := "()V" } : Jvm.MethodName) ({ cls := "CardTerminalModel", name := "lists", desc := "()V" } : Jvm.MethodName)) ∈ x_G := x_gp (List.mem_of_getElem? (i := 24) rfl) rfl
set_option maxRecDepth 20000 in
theorem mkp_25 : (Jvm.Cond.selects "CardTerminalModel" ({ cls := "CardTerminalModel", name := "isSupported", desc := "(I)Z" } : Jvm.MethodName) ({ cls := "CardTerminalModel", name := "isSupported", desc := "(I)Z" } : Jvm.MethodName)) ∈ x_G := x_gp (List.mem_of_getElem? (i := 25) rfl) rfl
set_option maxRecDepth 20000 in
theorem mkp_26 : (Jvm.Cond.selects "CardTerminalModel" ({ cls := "CardTerminalModel", name := "ends", desc := "(I)I" } : Jvm.MethodName) ({ cls := "CardTerminalModel", name := "ends", desc := "(I)I" } : Jvm.MethodName)) ∈ x_G := x_gp (List.mem_of_getElem? (i := 26) rfl) rfl
set_option maxRecDepth 20000 in
theorem mkp_27 : (Jvm.Cond.selects "CardTerminalModel" ({ cls := "CardTerminalModel", name := "byDefault", desc := "()I" } : Jvm.MethodName) ({ cls := "CardTerminalModel", name := "byDefault", desc := "()I" } : Jvm.MethodName)) ∈ x_G := x_gp (List.mem_of_getElem? (i := 27) rfl) rfl
set_option maxRecDepth 20000 in
theorem mk1_0 : (Jvm.Cond.initialized "CardTerminalLaw") ∈ x_G := x_g1 (List.mem_of_getElem? (i := 0) rfl) rfl
set_option maxRecDepth 20000 in
theorem mk1_1 : (Jvm.Cond.initialized "CardTerminal") ∈ x_G := x_g1 (List.mem_of_getElem? (i := 1) rfl) rfl
set_option maxRecDepth 20000 in
theorem mk1_2 : (Jvm.Cond.initialized "CardTerminal$Bytes") ∈ x_G := x_g1 (List.mem_of_getElem? (i := 2) rfl) rfl
set_option maxRecDepth 20000 in
theorem mk1_3 : (Jvm.Cond.initialized "CardTerminal$DataObjects") ∈ x_G := x_g1 (List.mem_of_getElem? (i := 3) rfl) rfl
set_option maxRecDepth 20000 in
theorem mk1_4 : (Jvm.Cond.initialized "CardTerminal$Card") ∈ x_G := x_g1 (List.mem_of_getElem? (i := 4) rfl) rfl
set_option maxRecDepth 20000 in
theorem mk1_5 : (Jvm.Cond.initialized "CardTerminal$Identifiers") ∈ x_G := x_g1 (List.mem_of_getElem? (i := 5) rfl) rfl
set_option maxRecDepth 20000 in
theorem mk1_6 : (Jvm.Cond.initialized "CardTerminal$Terminal") ∈ x_G := x_g1 (List.mem_of_getElem? (i := 6) rfl) rfl
set_option maxRecDepth 20000 in
theorem mk1_7 : (Jvm.Cond.initialized "CardTerminal$Transactions") ∈ x_G := x_g1 (List.mem_of_getElem? (i := 7) rfl) rfl
set_option maxRecDepth 20000 in
theorem mk1_8 : (Jvm.Cond.initialized "CardTerminal$Reversals") ∈ x_G := x_g1 (List.mem_of_getElem? (i := 8) rfl) rfl
set_option maxRecDepth 20000 in
theorem mk1_9 : (Jvm.Cond.initialized "CardTerminalModel") ∈ x_G := x_g1 (List.mem_of_getElem? (i := 9) rfl) rfl
set_option maxRecDepth 20000 in
theorem mk1_10 : (Jvm.Cond.classLink "CardTerminalLaw" (7 : Nat) "CardTerminal") ∈ x_G := x_g1 (List.mem_of_getElem? (i := 10) rfl) rfl
set_option maxRecDepth 20000 in
theorem mk1_11 : (Jvm.Cond.instantiable "CardTerminal" (6 : Nat)) ∈ x_G := x_g1 (List.mem_of_getElem? (i := 11) rfl) rfl
set_option maxRecDepth 20000 in
theorem mk1_12 : (Jvm.Cond.methodLink "CardTerminalLaw" (9 : Nat) ({ cls := "CardTerminal", name := "<init>", desc := "()V" } : Jvm.MethodName)) ∈ x_G := x_g1 (List.mem_of_getElem? (i := 12) rfl) rfl
set_option maxRecDepth 20000 in
theorem mk1_13 : (Jvm.Cond.instanceMethod ({ cls := "CardTerminal", name := "<init>", desc := "()V" } : Jvm.MethodName)) ∈ x_G := x_g1 (List.mem_of_getElem? (i := 13) rfl) rfl
set_option maxRecDepth 20000 in
theorem mk1_14 : (Jvm.Cond.code ({ cls := "CardTerminal", name := "<init>", desc := "()V" } : Jvm.MethodName) prog_1_method_1_code (1 : Nat) (Option.none : Option Jvm.ClassFile.FieldType)) ∈ x_G := x_g1 (List.mem_of_getElem? (i := 14) rfl) rfl
set_option maxRecDepth 20000 in
theorem mk1_15 : (Jvm.Cond.methodLink "CardTerminal" (1 : Nat) ({ cls := "java/lang/Object", name := "<init>", desc := "()V" } : Jvm.MethodName)) ∈ x_G := x_g1 (List.mem_of_getElem? (i := 15) rfl) rfl
set_option maxRecDepth 20000 in
theorem mk1_16 : (Jvm.Cond.instanceMethod ({ cls := "java/lang/Object", name := "<init>", desc := "()V" } : Jvm.MethodName)) ∈ x_G := x_g1 (List.mem_of_getElem? (i := 16) rfl) rfl
set_option maxRecDepth 20000 in
theorem mk1_17 : (Jvm.Cond.code ({ cls := "java/lang/Object", name := "<init>", desc := "()V" } : Jvm.MethodName) object_method_1_code (1 : Nat) (Option.none : Option Jvm.ClassFile.FieldType)) ∈ x_G := x_g1 (List.mem_of_getElem? (i := 17) rfl) rfl
set_option maxRecDepth 20000 in
theorem mk1_18 : (Jvm.Cond.classLink "CardTerminal" (7 : Nat) "CardTerminal$Bytes") ∈ x_G := x_g1 (List.mem_of_getElem? (i := 18) rfl) rfl
set_option maxRecDepth 20000 in
theorem mk1_19 : (Jvm.Cond.instantiable "CardTerminal$Bytes" (2 : Nat)) ∈ x_G := x_g1 (List.mem_of_getElem? (i := 19) rfl) rfl
set_option maxRecDepth 20000 in
theorem mk1_21 : (Jvm.Cond.instanceMethod ({ cls := "CardTerminal$Bytes", name := "<init>", desc := "()V" } : Jvm.MethodName)) ∈ x_G := x_g1 (List.mem_of_getElem? (i := 21) rfl) rfl
set_option maxRecDepth 20000 in
theorem mk1_22 : (Jvm.Cond.code ({ cls := "CardTerminal$Bytes", name := "<init>", desc := "()V" } : Jvm.MethodName) prog_2_method_1_code (1 : Nat) (Option.none : Option Jvm.ClassFile.FieldType)) ∈ x_G := x_g1 (List.mem_of_getElem? (i := 22) rfl) rfl
set_option maxRecDepth 20000 in
theorem mk1_23 : (Jvm.Cond.methodLink "CardTerminal$Bytes" (3 : Nat) ({ cls := "java/lang/Object", name := "<init>", desc := "()V" } : Jvm.MethodName)) ∈ x_G := x_g1 (List.mem_of_getElem? (i := 23) rfl) rfl
set_option maxRecDepth 20000 in
theorem mk1_24 : (Jvm.Cond.fieldLink "CardTerminal$Bytes" (9 : Nat) "CardTerminal$Bytes" "values" "[I") ∈ x_G := x_g1 (List.mem_of_getElem? (i := 24) rfl) rfl
set_option maxRecDepth 20000 in
theorem mk1_25 : (Jvm.Cond.fieldLink "CardTerminal$Identifiers" (22 : Nat) "CardTerminal$Bytes" "values" "[I") ∈ x_G := x_g1 (List.mem_of_getElem? (i := 25) rfl) rfl
set_option maxRecDepth 20000 in
theorem mk1_26 : (Jvm.Cond.fieldLink "CardTerminal$DataObjects" (49 : Nat) "CardTerminal$Bytes" "values" "[I") ∈ x_G := x_g1 (List.mem_of_getElem? (i := 26) rfl) rfl
set_option maxRecDepth 20000 in
theorem mk1_27 : (Jvm.Cond.fieldLink "CardTerminal$Card" (71 : Nat) "CardTerminal$Bytes" "values" "[I") ∈ x_G := x_g1 (List.mem_of_getElem? (i := 27) rfl) rfl
set_option maxRecDepth 20000 in
theorem mk1_28 : (Jvm.Cond.fieldLink "CardTerminal$Bytes" (15 : Nat) "CardTerminal$Bytes" "size" "I") ∈ x_G := x_g1 (List.mem_of_getElem? (i := 28) rfl) rfl
set_option maxRecDepth 20000 in
theorem mk1_29 : (Jvm.Cond.fieldLink "CardTerminal" (51 : Nat) "CardTerminal$Bytes" "size" "I") ∈ x_G := x_g1 (List.mem_of_getElem? (i := 29) rfl) rfl
set_option maxRecDepth 20000 in
theorem mk1_30 : (Jvm.Cond.fieldLink "CardTerminal$Terminal" (49 : Nat) "CardTerminal$Bytes" "size" "I") ∈ x_G := x_g1 (List.mem_of_getElem? (i := 30) rfl) rfl
set_option maxRecDepth 20000 in
theorem mk1_31 : (Jvm.Cond.fieldLink "CardTerminal$DataObjects" (41 : Nat) "CardTerminal$Bytes" "size" "I") ∈ x_G := x_g1 (List.mem_of_getElem? (i := 31) rfl) rfl
set_option maxRecDepth 20000 in
theorem mk1_32 : (Jvm.Cond.laysFinal "CardTerminal$Bytes" "CardTerminal$Bytes" "values" "[I") ∈ x_G := x_g1 (List.mem_of_getElem? (i := 32) rfl) rfl
set_option maxRecDepth 20000 in
theorem mk1_34 : (Jvm.Cond.lays "CardTerminal$Bytes" "CardTerminal$Bytes" "size" "I") ∈ x_G := x_g1 (List.mem_of_getElem? (i := 34) rfl) rfl
set_option maxRecDepth 20000 in
theorem mk1_37 : (Jvm.Cond.arrayClass Jvm.ClassFile.FieldType.int) ∈ x_G := x_g1 (List.mem_of_getElem? (i := 37) rfl) rfl
set_option maxRecDepth 20000 in
theorem mk1_38 : (Jvm.Cond.classLink "CardTerminal" (16 : Nat) "CardTerminal$DataObjects") ∈ x_G := x_g1 (List.mem_of_getElem? (i := 38) rfl) rfl
set_option maxRecDepth 20000 in
theorem mk1_39 : (Jvm.Cond.instantiable "CardTerminal$DataObjects" (8 : Nat)) ∈ x_G := x_g1 (List.mem_of_getElem? (i := 39) rfl) rfl
set_option maxRecDepth 20000 in
theorem mk1_41 : (Jvm.Cond.instanceMethod ({ cls := "CardTerminal$DataObjects", name := "<init>", desc := "()V" } : Jvm.MethodName)) ∈ x_G := x_g1 (List.mem_of_getElem? (i := 41) rfl) rfl
set_option maxRecDepth 20000 in
theorem mk1_42 : (Jvm.Cond.code ({ cls := "CardTerminal$DataObjects", name := "<init>", desc := "()V" } : Jvm.MethodName) prog_4_method_1_code (1 : Nat) (Option.none : Option Jvm.ClassFile.FieldType)) ∈ x_G := x_g1 (List.mem_of_getElem? (i := 42) rfl) rfl
set_option maxRecDepth 20000 in
theorem mk1_43 : (Jvm.Cond.methodLink "CardTerminal$DataObjects" (3 : Nat) ({ cls := "java/lang/Object", name := "<init>", desc := "()V" } : Jvm.MethodName)) ∈ x_G := x_g1 (List.mem_of_getElem? (i := 43) rfl) rfl
set_option maxRecDepth 20000 in
theorem mk1_44 : (Jvm.Cond.fieldLink "CardTerminal$DataObjects" (9 : Nat) "CardTerminal$DataObjects" "tags" "[I") ∈ x_G := x_g1 (List.mem_of_getElem? (i := 44) rfl) rfl
set_option maxRecDepth 20000 in
theorem mk1_45 : (Jvm.Cond.fieldLink "CardTerminal" (77 : Nat) "CardTerminal$DataObjects" "tags" "[I") ∈ x_G := x_g1 (List.mem_of_getElem? (i := 45) rfl) rfl
set_option maxRecDepth 20000 in
theorem mk1_46 : (Jvm.Cond.fieldLink "CardTerminal$DataObjects" (15 : Nat) "CardTerminal$DataObjects" "lengths" "[I") ∈ x_G := x_g1 (List.mem_of_getElem? (i := 46) rfl) rfl
set_option maxRecDepth 20000 in
theorem mk1_47 : (Jvm.Cond.fieldLink "CardTerminal$Card" (61 : Nat) "CardTerminal$DataObjects" "lengths" "[I") ∈ x_G := x_g1 (List.mem_of_getElem? (i := 47) rfl) rfl
set_option maxRecDepth 20000 in
theorem mk1_48 : (Jvm.Cond.fieldLink "CardTerminal" (88 : Nat) "CardTerminal$DataObjects" "lengths" "[I") ∈ x_G := x_g1 (List.mem_of_getElem? (i := 48) rfl) rfl
set_option maxRecDepth 20000 in
theorem mk1_49 : (Jvm.Cond.fieldLink "CardTerminal$DataObjects" (18 : Nat) "CardTerminal$DataObjects" "depths" "[I") ∈ x_G := x_g1 (List.mem_of_getElem? (i := 49) rfl) rfl
set_option maxRecDepth 20000 in
theorem mk1_50 : (Jvm.Cond.fieldLink "CardTerminal" (85 : Nat) "CardTerminal$DataObjects" "depths" "[I") ∈ x_G := x_g1 (List.mem_of_getElem? (i := 50) rfl) rfl
set_option maxRecDepth 20000 in
theorem mk1_51 : (Jvm.Cond.fieldLink "CardTerminal$DataObjects" (21 : Nat) "CardTerminal$DataObjects" "parents" "[I") ∈ x_G := x_g1 (List.mem_of_getElem? (i := 51) rfl) rfl
set_option maxRecDepth 20000 in
theorem mk1_52 : (Jvm.Cond.fieldLink "CardTerminal$DataObjects" (24 : Nat) "CardTerminal$DataObjects" "valueStarts" "[I") ∈ x_G := x_g1 (List.mem_of_getElem? (i := 52) rfl) rfl
set_option maxRecDepth 20000 in
theorem mk1_53 : (Jvm.Cond.fieldLink "CardTerminal$Card" (54 : Nat) "CardTerminal$DataObjects" "valueStarts" "[I") ∈ x_G := x_g1 (List.mem_of_getElem? (i := 53) rfl) rfl
set_option maxRecDepth 20000 in
theorem mk1_54 : (Jvm.Cond.fieldLink "CardTerminal$DataObjects" (27 : Nat) "CardTerminal$DataObjects" "count" "I") ∈ x_G := x_g1 (List.mem_of_getElem? (i := 54) rfl) rfl
set_option maxRecDepth 20000 in
theorem mk1_55 : (Jvm.Cond.fieldLink "CardTerminal$Card" (43 : Nat) "CardTerminal$DataObjects" "count" "I") ∈ x_G := x_g1 (List.mem_of_getElem? (i := 55) rfl) rfl
set_option maxRecDepth 20000 in
theorem mk1_56 : (Jvm.Cond.fieldLink "CardTerminal" (70 : Nat) "CardTerminal$DataObjects" "count" "I") ∈ x_G := x_g1 (List.mem_of_getElem? (i := 56) rfl) rfl
set_option maxRecDepth 20000 in
theorem mk1_57 : (Jvm.Cond.fieldLink "CardTerminal$DataObjects" (31 : Nat) "CardTerminal$DataObjects" "brokenAt" "I") ∈ x_G := x_g1 (List.mem_of_getElem? (i := 57) rfl) rfl
set_option maxRecDepth 20000 in
theorem mk1_58 : (Jvm.Cond.fieldLink "CardTerminal" (67 : Nat) "CardTerminal$DataObjects" "brokenAt" "I") ∈ x_G := x_g1 (List.mem_of_getElem? (i := 58) rfl) rfl
set_option maxRecDepth 20000 in
theorem mk1_59 : (Jvm.Cond.fieldLink "CardTerminal$DataObjects" (34 : Nat) "CardTerminal$DataObjects" "place" "I") ∈ x_G := x_g1 (List.mem_of_getElem? (i := 59) rfl) rfl
set_option maxRecDepth 20000 in
theorem mk1_60 : (Jvm.Cond.laysFinal "CardTerminal$DataObjects" "CardTerminal$DataObjects" "tags" "[I") ∈ x_G := x_g1 (List.mem_of_getElem? (i := 60) rfl) rfl
set_option maxRecDepth 20000 in
theorem mk1_62 : (Jvm.Cond.laysFinal "CardTerminal$DataObjects" "CardTerminal$DataObjects" "lengths" "[I") ∈ x_G := x_g1 (List.mem_of_getElem? (i := 62) rfl) rfl
set_option maxRecDepth 20000 in
theorem mk1_64 : (Jvm.Cond.laysFinal "CardTerminal$DataObjects" "CardTerminal$DataObjects" "depths" "[I") ∈ x_G := x_g1 (List.mem_of_getElem? (i := 64) rfl) rfl
set_option maxRecDepth 20000 in
theorem mk1_66 : (Jvm.Cond.laysFinal "CardTerminal$DataObjects" "CardTerminal$DataObjects" "parents" "[I") ∈ x_G := x_g1 (List.mem_of_getElem? (i := 66) rfl) rfl
set_option maxRecDepth 20000 in
theorem mk1_68 : (Jvm.Cond.laysFinal "CardTerminal$DataObjects" "CardTerminal$DataObjects" "valueStarts" "[I") ∈ x_G := x_g1 (List.mem_of_getElem? (i := 68) rfl) rfl
set_option maxRecDepth 20000 in
theorem mk1_70 : (Jvm.Cond.lays "CardTerminal$DataObjects" "CardTerminal$DataObjects" "count" "I") ∈ x_G := x_g1 (List.mem_of_getElem? (i := 70) rfl) rfl
set_option maxRecDepth 20000 in
theorem mk1_72 : (Jvm.Cond.lays "CardTerminal$DataObjects" "CardTerminal$DataObjects" "brokenAt" "I") ∈ x_G := x_g1 (List.mem_of_getElem? (i := 72) rfl) rfl
set_option maxRecDepth 20000 in
theorem mk1_74 : (Jvm.Cond.lays "CardTerminal$DataObjects" "CardTerminal$DataObjects" "place" "I") ∈ x_G := x_g1 (List.mem_of_getElem? (i := 74) rfl) rfl
set_option maxRecDepth 20000 in
theorem mk1_77 : (Jvm.Cond.classLink "CardTerminal" (23 : Nat) "CardTerminal$Card") ∈ x_G := x_g1 (List.mem_of_getElem? (i := 77) rfl) rfl
set_option maxRecDepth 20000 in
theorem mk1_78 : (Jvm.Cond.instantiable "CardTerminal$Card" (6 : Nat)) ∈ x_G := x_g1 (List.mem_of_getElem? (i := 78) rfl) rfl
set_option maxRecDepth 20000 in
theorem mk1_80 : (Jvm.Cond.instanceMethod ({ cls := "CardTerminal$Card", name := "<init>", desc := "()V" } : Jvm.MethodName)) ∈ x_G := x_g1 (List.mem_of_getElem? (i := 80) rfl) rfl
set_option maxRecDepth 20000 in
theorem mk1_81 : (Jvm.Cond.code ({ cls := "CardTerminal$Card", name := "<init>", desc := "()V" } : Jvm.MethodName) prog_3_method_1_code (1 : Nat) (Option.none : Option Jvm.ClassFile.FieldType)) ∈ x_G := x_g1 (List.mem_of_getElem? (i := 81) rfl) rfl
set_option maxRecDepth 20000 in
theorem mk1_82 : (Jvm.Cond.methodLink "CardTerminal$Card" (3 : Nat) ({ cls := "java/lang/Object", name := "<init>", desc := "()V" } : Jvm.MethodName)) ∈ x_G := x_g1 (List.mem_of_getElem? (i := 82) rfl) rfl
set_option maxRecDepth 20000 in
theorem mk1_83 : (Jvm.Cond.classLink "CardTerminal$Card" (9 : Nat) "CardTerminal$Identifiers") ∈ x_G := x_g1 (List.mem_of_getElem? (i := 83) rfl) rfl
set_option maxRecDepth 20000 in
theorem mk1_84 : (Jvm.Cond.instantiable "CardTerminal$Identifiers" (3 : Nat)) ∈ x_G := x_g1 (List.mem_of_getElem? (i := 84) rfl) rfl
set_option maxRecDepth 20000 in
theorem mk1_86 : (Jvm.Cond.instanceMethod ({ cls := "CardTerminal$Identifiers", name := "<init>", desc := "()V" } : Jvm.MethodName)) ∈ x_G := x_g1 (List.mem_of_getElem? (i := 86) rfl) rfl
set_option maxRecDepth 20000 in
theorem mk1_87 : (Jvm.Cond.code ({ cls := "CardTerminal$Identifiers", name := "<init>", desc := "()V" } : Jvm.MethodName) prog_5_method_1_code (1 : Nat) (Option.none : Option Jvm.ClassFile.FieldType)) ∈ x_G := x_g1 (List.mem_of_getElem? (i := 87) rfl) rfl
set_option maxRecDepth 20000 in
theorem mk1_88 : (Jvm.Cond.methodLink "CardTerminal$Identifiers" (3 : Nat) ({ cls := "java/lang/Object", name := "<init>", desc := "()V" } : Jvm.MethodName)) ∈ x_G := x_g1 (List.mem_of_getElem? (i := 88) rfl) rfl
set_option maxRecDepth 20000 in
theorem mk1_89 : (Jvm.Cond.fieldLink "CardTerminal$Identifiers" (11 : Nat) "CardTerminal$Identifiers" "lengths" "[I") ∈ x_G := x_g1 (List.mem_of_getElem? (i := 89) rfl) rfl
set_option maxRecDepth 20000 in
theorem mk1_90 : (Jvm.Cond.fieldLink "CardTerminal$Terminal" (74 : Nat) "CardTerminal$Identifiers" "lengths" "[I") ∈ x_G := x_g1 (List.mem_of_getElem? (i := 90) rfl) rfl
set_option maxRecDepth 20000 in
theorem mk1_91 : (Jvm.Cond.fieldLink "CardTerminal$Identifiers" (15 : Nat) "CardTerminal$Identifiers" "count" "I") ∈ x_G := x_g1 (List.mem_of_getElem? (i := 91) rfl) rfl
set_option maxRecDepth 20000 in
theorem mk1_92 : (Jvm.Cond.fieldLink "CardTerminal$Card" (36 : Nat) "CardTerminal$Identifiers" "count" "I") ∈ x_G := x_g1 (List.mem_of_getElem? (i := 92) rfl) rfl
set_option maxRecDepth 20000 in
theorem mk1_93 : (Jvm.Cond.fieldLink "CardTerminal$Terminal" (42 : Nat) "CardTerminal$Identifiers" "count" "I") ∈ x_G := x_g1 (List.mem_of_getElem? (i := 93) rfl) rfl
set_option maxRecDepth 20000 in
theorem mk1_94 : (Jvm.Cond.fieldLink "CardTerminal" (113 : Nat) "CardTerminal$Identifiers" "count" "I") ∈ x_G := x_g1 (List.mem_of_getElem? (i := 94) rfl) rfl
set_option maxRecDepth 20000 in
theorem mk1_95 : (Jvm.Cond.fieldLink "CardTerminal$Identifiers" (19 : Nat) "CardTerminal$Identifiers" "values" "[I") ∈ x_G := x_g1 (List.mem_of_getElem? (i := 95) rfl) rfl
set_option maxRecDepth 20000 in
theorem mk1_96 : (Jvm.Cond.laysFinal "CardTerminal$Identifiers" "CardTerminal$Identifiers" "lengths" "[I") ∈ x_G := x_g1 (List.mem_of_getElem? (i := 96) rfl) rfl
set_option maxRecDepth 20000 in
theorem mk1_98 : (Jvm.Cond.lays "CardTerminal$Identifiers" "CardTerminal$Identifiers" "count" "I") ∈ x_G := x_g1 (List.mem_of_getElem? (i := 98) rfl) rfl
set_option maxRecDepth 20000 in
theorem mk1_100 : (Jvm.Cond.laysFinal "CardTerminal$Identifiers" "CardTerminal$Identifiers" "values" "[I") ∈ x_G := x_g1 (List.mem_of_getElem? (i := 100) rfl) rfl
set_option maxRecDepth 20000 in
theorem mk1_103 : (Jvm.Cond.fieldLink "CardTerminal$Card" (12 : Nat) "CardTerminal$Card" "identifiers" "LCardTerminal$Identifiers;") ∈ x_G := x_g1 (List.mem_of_getElem? (i := 103) rfl) rfl
set_option maxRecDepth 20000 in
theorem mk1_104 : (Jvm.Cond.fieldLink "CardTerminal" (109 : Nat) "CardTerminal$Card" "identifiers" "LCardTerminal$Identifiers;") ∈ x_G := x_g1 (List.mem_of_getElem? (i := 104) rfl) rfl
set_option maxRecDepth 20000 in
theorem mk1_105 : (Jvm.Cond.fieldLink "CardTerminal$Card" (18 : Nat) "CardTerminal$Card" "codes" "[I") ∈ x_G := x_g1 (List.mem_of_getElem? (i := 105) rfl) rfl
set_option maxRecDepth 20000 in
theorem mk1_106 : (Jvm.Cond.fieldLink "CardTerminal" (123 : Nat) "CardTerminal$Card" "codes" "[I") ∈ x_G := x_g1 (List.mem_of_getElem? (i := 106) rfl) rfl
set_option maxRecDepth 20000 in
theorem mk1_107 : (Jvm.Cond.fieldLink "CardTerminal$Card" (22 : Nat) "CardTerminal$Card" "selected" "I") ∈ x_G := x_g1 (List.mem_of_getElem? (i := 107) rfl) rfl
set_option maxRecDepth 20000 in
theorem mk1_108 : (Jvm.Cond.fieldLink "CardTerminal" (169 : Nat) "CardTerminal$Card" "selected" "I") ∈ x_G := x_g1 (List.mem_of_getElem? (i := 108) rfl) rfl
set_option maxRecDepth 20000 in
theorem mk1_109 : (Jvm.Cond.fieldLink "CardTerminal$Card" (26 : Nat) "CardTerminal$Card" "offlineCount" "I") ∈ x_G := x_g1 (List.mem_of_getElem? (i := 109) rfl) rfl
set_option maxRecDepth 20000 in
theorem mk1_110 : (Jvm.Cond.fieldLink "CardTerminal" (223 : Nat) "CardTerminal$Card" "offlineCount" "I") ∈ x_G := x_g1 (List.mem_of_getElem? (i := 110) rfl) rfl
set_option maxRecDepth 20000 in
theorem mk1_111 : (Jvm.Cond.fieldLink "CardTerminal$Card" (29 : Nat) "CardTerminal$Card" "isNew" "Z") ∈ x_G := x_g1 (List.mem_of_getElem? (i := 111) rfl) rfl
set_option maxRecDepth 20000 in
theorem mk1_112 : (Jvm.Cond.fieldLink "CardTerminal" (226 : Nat) "CardTerminal$Card" "isNew" "Z") ∈ x_G := x_g1 (List.mem_of_getElem? (i := 112) rfl) rfl
set_option maxRecDepth 20000 in
theorem mk1_113 : (Jvm.Cond.fieldLink "CardTerminal$Card" (33 : Nat) "CardTerminal$Card" "indicators" "[I") ∈ x_G := x_g1 (List.mem_of_getElem? (i := 113) rfl) rfl
set_option maxRecDepth 20000 in
theorem mk1_114 : (Jvm.Cond.laysFinal "CardTerminal$Card" "CardTerminal$Card" "identifiers" "LCardTerminal$Identifiers;") ∈ x_G := x_g1 (List.mem_of_getElem? (i := 114) rfl) rfl
set_option maxRecDepth 20000 in
theorem mk1_116 : (Jvm.Cond.laysFinal "CardTerminal$Card" "CardTerminal$Card" "codes" "[I") ∈ x_G := x_g1 (List.mem_of_getElem? (i := 116) rfl) rfl
set_option maxRecDepth 20000 in
theorem mk1_118 : (Jvm.Cond.lays "CardTerminal$Card" "CardTerminal$Card" "selected" "I") ∈ x_G := x_g1 (List.mem_of_getElem? (i := 118) rfl) rfl
set_option maxRecDepth 20000 in
theorem mk1_120 : (Jvm.Cond.lays "CardTerminal$Card" "CardTerminal$Card" "offlineCount" "I") ∈ x_G := x_g1 (List.mem_of_getElem? (i := 120) rfl) rfl
set_option maxRecDepth 20000 in
theorem mk1_122 : (Jvm.Cond.lays "CardTerminal$Card" "CardTerminal$Card" "isNew" "Z") ∈ x_G := x_g1 (List.mem_of_getElem? (i := 122) rfl) rfl
set_option maxRecDepth 20000 in
theorem mk1_124 : (Jvm.Cond.laysFinal "CardTerminal$Card" "CardTerminal$Card" "indicators" "[I") ∈ x_G := x_g1 (List.mem_of_getElem? (i := 124) rfl) rfl
set_option maxRecDepth 20000 in
theorem mk1_127 : (Jvm.Cond.classLink "CardTerminal" (30 : Nat) "CardTerminal$Terminal") ∈ x_G := x_g1 (List.mem_of_getElem? (i := 127) rfl) rfl
set_option maxRecDepth 20000 in
theorem mk1_128 : (Jvm.Cond.instantiable "CardTerminal$Terminal" (8 : Nat)) ∈ x_G := x_g1 (List.mem_of_getElem? (i := 128) rfl) rfl
set_option maxRecDepth 20000 in
theorem mk1_130 : (Jvm.Cond.instanceMethod ({ cls := "CardTerminal$Terminal", name := "<init>", desc := "()V" } : Jvm.MethodName)) ∈ x_G := x_g1 (List.mem_of_getElem? (i := 130) rfl) rfl
set_option maxRecDepth 20000 in
theorem mk1_131 : (Jvm.Cond.code ({ cls := "CardTerminal$Terminal", name := "<init>", desc := "()V" } : Jvm.MethodName) prog_7_method_1_code (1 : Nat) (Option.none : Option Jvm.ClassFile.FieldType)) ∈ x_G := x_g1 (List.mem_of_getElem? (i := 131) rfl) rfl
set_option maxRecDepth 20000 in
theorem mk1_132 : (Jvm.Cond.methodLink "CardTerminal$Terminal" (3 : Nat) ({ cls := "java/lang/Object", name := "<init>", desc := "()V" } : Jvm.MethodName)) ∈ x_G := x_g1 (List.mem_of_getElem? (i := 132) rfl) rfl
set_option maxRecDepth 20000 in
theorem mk1_133 : (Jvm.Cond.classLink "CardTerminal$Terminal" (9 : Nat) "CardTerminal$Identifiers") ∈ x_G := x_g1 (List.mem_of_getElem? (i := 133) rfl) rfl
set_option maxRecDepth 20000 in
theorem mk1_135 : (Jvm.Cond.fieldLink "CardTerminal$Terminal" (12 : Nat) "CardTerminal$Terminal" "identifiers" "LCardTerminal$Identifiers;") ∈ x_G := x_g1 (List.mem_of_getElem? (i := 135) rfl) rfl
set_option maxRecDepth 20000 in
theorem mk1_136 : (Jvm.Cond.fieldLink "CardTerminal" (130 : Nat) "CardTerminal$Terminal" "identifiers" "LCardTerminal$Identifiers;") ∈ x_G := x_g1 (List.mem_of_getElem? (i := 136) rfl) rfl
set_option maxRecDepth 20000 in
theorem mk1_137 : (Jvm.Cond.fieldLink "CardTerminal$Terminal" (18 : Nat) "CardTerminal$Terminal" "codes" "[I") ∈ x_G := x_g1 (List.mem_of_getElem? (i := 137) rfl) rfl
set_option maxRecDepth 20000 in
theorem mk1_138 : (Jvm.Cond.fieldLink "CardTerminal" (138 : Nat) "CardTerminal$Terminal" "codes" "[I") ∈ x_G := x_g1 (List.mem_of_getElem? (i := 138) rfl) rfl
set_option maxRecDepth 20000 in
theorem mk1_139 : (Jvm.Cond.fieldLink "CardTerminal$Terminal" (22 : Nat) "CardTerminal$Terminal" "floorLimit" "I") ∈ x_G := x_g1 (List.mem_of_getElem? (i := 139) rfl) rfl
set_option maxRecDepth 20000 in
theorem mk1_140 : (Jvm.Cond.fieldLink "CardTerminal" (140 : Nat) "CardTerminal$Terminal" "floorLimit" "I") ∈ x_G := x_g1 (List.mem_of_getElem? (i := 140) rfl) rfl
set_option maxRecDepth 20000 in
theorem mk1_141 : (Jvm.Cond.fieldLink "CardTerminal$Terminal" (26 : Nat) "CardTerminal$Terminal" "lowerLimit" "I") ∈ x_G := x_g1 (List.mem_of_getElem? (i := 141) rfl) rfl
set_option maxRecDepth 20000 in
theorem mk1_142 : (Jvm.Cond.fieldLink "CardTerminal" (143 : Nat) "CardTerminal$Terminal" "lowerLimit" "I") ∈ x_G := x_g1 (List.mem_of_getElem? (i := 142) rfl) rfl
set_option maxRecDepth 20000 in
theorem mk1_143 : (Jvm.Cond.fieldLink "CardTerminal$Terminal" (29 : Nat) "CardTerminal$Terminal" "upperLimit" "I") ∈ x_G := x_g1 (List.mem_of_getElem? (i := 143) rfl) rfl
set_option maxRecDepth 20000 in
theorem mk1_144 : (Jvm.Cond.fieldLink "CardTerminal" (146 : Nat) "CardTerminal$Terminal" "upperLimit" "I") ∈ x_G := x_g1 (List.mem_of_getElem? (i := 144) rfl) rfl
set_option maxRecDepth 20000 in
theorem mk1_145 : (Jvm.Cond.fieldLink "CardTerminal$Terminal" (32 : Nat) "CardTerminal$Terminal" "randomTarget" "I") ∈ x_G := x_g1 (List.mem_of_getElem? (i := 145) rfl) rfl
set_option maxRecDepth 20000 in
theorem mk1_146 : (Jvm.Cond.fieldLink "CardTerminal" (149 : Nat) "CardTerminal$Terminal" "randomTarget" "I") ∈ x_G := x_g1 (List.mem_of_getElem? (i := 146) rfl) rfl
set_option maxRecDepth 20000 in
theorem mk1_147 : (Jvm.Cond.fieldLink "CardTerminal$Terminal" (35 : Nat) "CardTerminal$Terminal" "online" "Z") ∈ x_G := x_g1 (List.mem_of_getElem? (i := 147) rfl) rfl
set_option maxRecDepth 20000 in
theorem mk1_148 : (Jvm.Cond.fieldLink "CardTerminal" (152 : Nat) "CardTerminal$Terminal" "online" "Z") ∈ x_G := x_g1 (List.mem_of_getElem? (i := 148) rfl) rfl
set_option maxRecDepth 20000 in
theorem mk1_149 : (Jvm.Cond.fieldLink "CardTerminal$Terminal" (39 : Nat) "CardTerminal$Terminal" "partials" "[I") ∈ x_G := x_g1 (List.mem_of_getElem? (i := 149) rfl) rfl
set_option maxRecDepth 20000 in
theorem mk1_150 : (Jvm.Cond.laysFinal "CardTerminal$Terminal" "CardTerminal$Terminal" "identifiers" "LCardTerminal$Identifiers;") ∈ x_G := x_g1 (List.mem_of_getElem? (i := 150) rfl) rfl
set_option maxRecDepth 20000 in
theorem mk1_152 : (Jvm.Cond.laysFinal "CardTerminal$Terminal" "CardTerminal$Terminal" "codes" "[I") ∈ x_G := x_g1 (List.mem_of_getElem? (i := 152) rfl) rfl
set_option maxRecDepth 20000 in
theorem mk1_154 : (Jvm.Cond.lays "CardTerminal$Terminal" "CardTerminal$Terminal" "floorLimit" "I") ∈ x_G := x_g1 (List.mem_of_getElem? (i := 154) rfl) rfl
set_option maxRecDepth 20000 in
theorem mk1_156 : (Jvm.Cond.lays "CardTerminal$Terminal" "CardTerminal$Terminal" "lowerLimit" "I") ∈ x_G := x_g1 (List.mem_of_getElem? (i := 156) rfl) rfl
set_option maxRecDepth 20000 in
theorem mk1_158 : (Jvm.Cond.lays "CardTerminal$Terminal" "CardTerminal$Terminal" "upperLimit" "I") ∈ x_G := x_g1 (List.mem_of_getElem? (i := 158) rfl) rfl
set_option maxRecDepth 20000 in
theorem mk1_160 : (Jvm.Cond.lays "CardTerminal$Terminal" "CardTerminal$Terminal" "randomTarget" "I") ∈ x_G := x_g1 (List.mem_of_getElem? (i := 160) rfl) rfl
set_option maxRecDepth 20000 in
theorem mk1_162 : (Jvm.Cond.lays "CardTerminal$Terminal" "CardTerminal$Terminal" "online" "Z") ∈ x_G := x_g1 (List.mem_of_getElem? (i := 162) rfl) rfl
set_option maxRecDepth 20000 in
theorem mk1_164 : (Jvm.Cond.laysFinal "CardTerminal$Terminal" "CardTerminal$Terminal" "partials" "[I") ∈ x_G := x_g1 (List.mem_of_getElem? (i := 164) rfl) rfl
set_option maxRecDepth 20000 in
theorem mk1_167 : (Jvm.Cond.classLink "CardTerminal" (37 : Nat) "CardTerminal$Transactions") ∈ x_G := x_g1 (List.mem_of_getElem? (i := 167) rfl) rfl
set_option maxRecDepth 20000 in
theorem mk1_168 : (Jvm.Cond.instantiable "CardTerminal$Transactions" (5 : Nat)) ∈ x_G := x_g1 (List.mem_of_getElem? (i := 168) rfl) rfl
set_option maxRecDepth 20000 in
theorem mk1_170 : (Jvm.Cond.instanceMethod ({ cls := "CardTerminal$Transactions", name := "<init>", desc := "()V" } : Jvm.MethodName)) ∈ x_G := x_g1 (List.mem_of_getElem? (i := 170) rfl) rfl
set_option maxRecDepth 20000 in
theorem mk1_171 : (Jvm.Cond.code ({ cls := "CardTerminal$Transactions", name := "<init>", desc := "()V" } : Jvm.MethodName) prog_8_method_1_code (1 : Nat) (Option.none : Option Jvm.ClassFile.FieldType)) ∈ x_G := x_g1 (List.mem_of_getElem? (i := 171) rfl) rfl
set_option maxRecDepth 20000 in
theorem mk1_172 : (Jvm.Cond.methodLink "CardTerminal$Transactions" (3 : Nat) ({ cls := "java/lang/Object", name := "<init>", desc := "()V" } : Jvm.MethodName)) ∈ x_G := x_g1 (List.mem_of_getElem? (i := 172) rfl) rfl
set_option maxRecDepth 20000 in
theorem mk1_173 : (Jvm.Cond.fieldLink "CardTerminal$Transactions" (9 : Nat) "CardTerminal$Transactions" "counts" "[I") ∈ x_G := x_g1 (List.mem_of_getElem? (i := 173) rfl) rfl
set_option maxRecDepth 20000 in
theorem mk1_174 : (Jvm.Cond.fieldLink "CardTerminal" (217 : Nat) "CardTerminal$Transactions" "counts" "[I") ∈ x_G := x_g1 (List.mem_of_getElem? (i := 174) rfl) rfl
set_option maxRecDepth 20000 in
theorem mk1_175 : (Jvm.Cond.fieldLink "CardTerminal$Transactions" (15 : Nat) "CardTerminal$Transactions" "sums" "[I") ∈ x_G := x_g1 (List.mem_of_getElem? (i := 175) rfl) rfl
set_option maxRecDepth 20000 in
theorem mk1_176 : (Jvm.Cond.fieldLink "CardTerminal" (220 : Nat) "CardTerminal$Transactions" "sums" "[I") ∈ x_G := x_g1 (List.mem_of_getElem? (i := 176) rfl) rfl
set_option maxRecDepth 20000 in
theorem mk1_177 : (Jvm.Cond.fieldLink "CardTerminal$Transactions" (18 : Nat) "CardTerminal$Transactions" "count" "I") ∈ x_G := x_g1 (List.mem_of_getElem? (i := 177) rfl) rfl
set_option maxRecDepth 20000 in
theorem mk1_178 : (Jvm.Cond.fieldLink "CardTerminal" (180 : Nat) "CardTerminal$Transactions" "count" "I") ∈ x_G := x_g1 (List.mem_of_getElem? (i := 178) rfl) rfl
set_option maxRecDepth 20000 in
theorem mk1_179 : (Jvm.Cond.fieldLink "CardTerminal$Transactions" (22 : Nat) "CardTerminal$Transactions" "latestResults" "I") ∈ x_G := x_g1 (List.mem_of_getElem? (i := 179) rfl) rfl
set_option maxRecDepth 20000 in
theorem mk1_180 : (Jvm.Cond.fieldLink "CardTerminal" (197 : Nat) "CardTerminal$Transactions" "latestResults" "I") ∈ x_G := x_g1 (List.mem_of_getElem? (i := 180) rfl) rfl
set_option maxRecDepth 20000 in
theorem mk1_181 : (Jvm.Cond.fieldLink "CardTerminal$Transactions" (25 : Nat) "CardTerminal$Transactions" "latestAmount" "I") ∈ x_G := x_g1 (List.mem_of_getElem? (i := 181) rfl) rfl
set_option maxRecDepth 20000 in
theorem mk1_182 : (Jvm.Cond.laysFinal "CardTerminal$Transactions" "CardTerminal$Transactions" "counts" "[I") ∈ x_G := x_g1 (List.mem_of_getElem? (i := 182) rfl) rfl
set_option maxRecDepth 20000 in
theorem mk1_184 : (Jvm.Cond.laysFinal "CardTerminal$Transactions" "CardTerminal$Transactions" "sums" "[I") ∈ x_G := x_g1 (List.mem_of_getElem? (i := 184) rfl) rfl
set_option maxRecDepth 20000 in
theorem mk1_186 : (Jvm.Cond.lays "CardTerminal$Transactions" "CardTerminal$Transactions" "count" "I") ∈ x_G := x_g1 (List.mem_of_getElem? (i := 186) rfl) rfl
set_option maxRecDepth 20000 in
theorem mk1_188 : (Jvm.Cond.lays "CardTerminal$Transactions" "CardTerminal$Transactions" "latestResults" "I") ∈ x_G := x_g1 (List.mem_of_getElem? (i := 188) rfl) rfl
set_option maxRecDepth 20000 in
theorem mk1_190 : (Jvm.Cond.lays "CardTerminal$Transactions" "CardTerminal$Transactions" "latestAmount" "I") ∈ x_G := x_g1 (List.mem_of_getElem? (i := 190) rfl) rfl
set_option maxRecDepth 20000 in
theorem mk1_193 : (Jvm.Cond.classLink "CardTerminal" (44 : Nat) "CardTerminal$Reversals") ∈ x_G := x_g1 (List.mem_of_getElem? (i := 193) rfl) rfl
set_option maxRecDepth 20000 in
theorem mk1_194 : (Jvm.Cond.instantiable "CardTerminal$Reversals" (2 : Nat)) ∈ x_G := x_g1 (List.mem_of_getElem? (i := 194) rfl) rfl
set_option maxRecDepth 20000 in
theorem mk1_196 : (Jvm.Cond.instanceMethod ({ cls := "CardTerminal$Reversals", name := "<init>", desc := "()V" } : Jvm.MethodName)) ∈ x_G := x_g1 (List.mem_of_getElem? (i := 196) rfl) rfl
set_option maxRecDepth 20000 in
theorem mk1_197 : (Jvm.Cond.code ({ cls := "CardTerminal$Reversals", name := "<init>", desc := "()V" } : Jvm.MethodName) prog_6_method_1_code (1 : Nat) (Option.none : Option Jvm.ClassFile.FieldType)) ∈ x_G := x_g1 (List.mem_of_getElem? (i := 197) rfl) rfl
set_option maxRecDepth 20000 in
theorem mk1_198 : (Jvm.Cond.methodLink "CardTerminal$Reversals" (3 : Nat) ({ cls := "java/lang/Object", name := "<init>", desc := "()V" } : Jvm.MethodName)) ∈ x_G := x_g1 (List.mem_of_getElem? (i := 198) rfl) rfl
set_option maxRecDepth 20000 in
theorem mk1_199 : (Jvm.Cond.fieldLink "CardTerminal$Reversals" (9 : Nat) "CardTerminal$Reversals" "count" "I") ∈ x_G := x_g1 (List.mem_of_getElem? (i := 199) rfl) rfl
set_option maxRecDepth 20000 in
theorem mk1_200 : (Jvm.Cond.fieldLink "CardTerminal" (207 : Nat) "CardTerminal$Reversals" "count" "I") ∈ x_G := x_g1 (List.mem_of_getElem? (i := 200) rfl) rfl
set_option maxRecDepth 20000 in
theorem mk1_201 : (Jvm.Cond.fieldLink "CardTerminal$Reversals" (15 : Nat) "CardTerminal$Reversals" "numbers" "[I") ∈ x_G := x_g1 (List.mem_of_getElem? (i := 201) rfl) rfl
set_option maxRecDepth 20000 in
theorem mk1_202 : (Jvm.Cond.lays "CardTerminal$Reversals" "CardTerminal$Reversals" "count" "I") ∈ x_G := x_g1 (List.mem_of_getElem? (i := 202) rfl) rfl
set_option maxRecDepth 20000 in
theorem mk1_204 : (Jvm.Cond.laysFinal "CardTerminal$Reversals" "CardTerminal$Reversals" "numbers" "[I") ∈ x_G := x_g1 (List.mem_of_getElem? (i := 204) rfl) rfl
set_option maxRecDepth 20000 in
theorem mk1_207 : (Jvm.Cond.fieldLink "CardTerminal" (10 : Nat) "CardTerminal" "buffer" "LCardTerminal$Bytes;") ∈ x_G := x_g1 (List.mem_of_getElem? (i := 207) rfl) rfl
set_option maxRecDepth 20000 in
theorem mk1_208 : (Jvm.Cond.fieldLink "CardTerminal" (19 : Nat) "CardTerminal" "objects" "LCardTerminal$DataObjects;") ∈ x_G := x_g1 (List.mem_of_getElem? (i := 208) rfl) rfl
set_option maxRecDepth 20000 in
theorem mk1_209 : (Jvm.Cond.fieldLink "CardTerminal" (26 : Nat) "CardTerminal" "card" "LCardTerminal$Card;") ∈ x_G := x_g1 (List.mem_of_getElem? (i := 209) rfl) rfl
set_option maxRecDepth 20000 in
theorem mk1_210 : (Jvm.Cond.fieldLink "CardTerminal" (33 : Nat) "CardTerminal" "terminal" "LCardTerminal$Terminal;") ∈ x_G := x_g1 (List.mem_of_getElem? (i := 210) rfl) rfl
set_option maxRecDepth 20000 in
theorem mk1_211 : (Jvm.Cond.fieldLink "CardTerminal" (40 : Nat) "CardTerminal" "transactions" "LCardTerminal$Transactions;") ∈ x_G := x_g1 (List.mem_of_getElem? (i := 211) rfl) rfl
set_option maxRecDepth 20000 in
theorem mk1_212 : (Jvm.Cond.fieldLink "CardTerminal" (47 : Nat) "CardTerminal" "reversals" "LCardTerminal$Reversals;") ∈ x_G := x_g1 (List.mem_of_getElem? (i := 212) rfl) rfl
set_option maxRecDepth 20000 in
theorem mk1_213 : (Jvm.Cond.laysFinal "CardTerminal" "CardTerminal" "buffer" "LCardTerminal$Bytes;") ∈ x_G := x_g1 (List.mem_of_getElem? (i := 213) rfl) rfl
set_option maxRecDepth 20000 in
theorem mk1_215 : (Jvm.Cond.laysFinal "CardTerminal" "CardTerminal" "objects" "LCardTerminal$DataObjects;") ∈ x_G := x_g1 (List.mem_of_getElem? (i := 215) rfl) rfl
set_option maxRecDepth 20000 in
theorem mk1_217 : (Jvm.Cond.laysFinal "CardTerminal" "CardTerminal" "card" "LCardTerminal$Card;") ∈ x_G := x_g1 (List.mem_of_getElem? (i := 217) rfl) rfl
set_option maxRecDepth 20000 in
theorem mk1_219 : (Jvm.Cond.laysFinal "CardTerminal" "CardTerminal" "terminal" "LCardTerminal$Terminal;") ∈ x_G := x_g1 (List.mem_of_getElem? (i := 219) rfl) rfl
set_option maxRecDepth 20000 in
theorem mk1_221 : (Jvm.Cond.laysFinal "CardTerminal" "CardTerminal" "transactions" "LCardTerminal$Transactions;") ∈ x_G := x_g1 (List.mem_of_getElem? (i := 221) rfl) rfl
set_option maxRecDepth 20000 in
theorem mk1_223 : (Jvm.Cond.laysFinal "CardTerminal" "CardTerminal" "reversals" "LCardTerminal$Reversals;") ∈ x_G := x_g1 (List.mem_of_getElem? (i := 223) rfl) rfl
set_option maxRecDepth 20000 in
theorem mk1_226 : (Jvm.Cond.methodLink "CardTerminalLaw" (13 : Nat) ({ cls := "CardTerminal", name := "appendByte", desc := "(I)I" } : Jvm.MethodName)) ∈ x_G := x_g1 (List.mem_of_getElem? (i := 226) rfl) rfl
set_option maxRecDepth 20000 in
theorem mk1_227 : (Jvm.Cond.instanceMethod ({ cls := "CardTerminal", name := "appendByte", desc := "(I)I" } : Jvm.MethodName)) ∈ x_G := x_g1 (List.mem_of_getElem? (i := 227) rfl) rfl
set_option maxRecDepth 20000 in
theorem mk1_228 : (Jvm.Cond.selects "CardTerminal" ({ cls := "CardTerminal", name := "appendByte", desc := "(I)I" } : Jvm.MethodName) ({ cls := "CardTerminal", name := "appendByte", desc := "(I)I" } : Jvm.MethodName)) ∈ x_G := x_g1 (List.mem_of_getElem? (i := 228) rfl) rfl
set_option maxRecDepth 20000 in
theorem mk1_229 : (Jvm.Cond.code ({ cls := "CardTerminal", name := "appendByte", desc := "(I)I" } : Jvm.MethodName) prog_1_method_2_code (2 : Nat) (Option.some Jvm.ClassFile.FieldType.int)) ∈ x_G := x_g1 (List.mem_of_getElem? (i := 229) rfl) rfl
set_option maxRecDepth 20000 in
theorem mk1_230 : (Jvm.Cond.methodLink "CardTerminal" (55 : Nat) ({ cls := "CardTerminal$Bytes", name := "add", desc := "(I)V" } : Jvm.MethodName)) ∈ x_G := x_g1 (List.mem_of_getElem? (i := 230) rfl) rfl
set_option maxRecDepth 20000 in
theorem mk1_231 : (Jvm.Cond.instanceMethod ({ cls := "CardTerminal$Bytes", name := "add", desc := "(I)V" } : Jvm.MethodName)) ∈ x_G := x_g1 (List.mem_of_getElem? (i := 231) rfl) rfl
set_option maxRecDepth 20000 in
theorem mk1_232 : (Jvm.Cond.selects "CardTerminal$Bytes" ({ cls := "CardTerminal$Bytes", name := "add", desc := "(I)V" } : Jvm.MethodName) ({ cls := "CardTerminal$Bytes", name := "add", desc := "(I)V" } : Jvm.MethodName)) ∈ x_G := x_g1 (List.mem_of_getElem? (i := 232) rfl) rfl
set_option maxRecDepth 20000 in
theorem mk1_233 : (Jvm.Cond.code ({ cls := "CardTerminal$Bytes", name := "add", desc := "(I)V" } : Jvm.MethodName) prog_2_method_2_code (2 : Nat) (Option.none : Option Jvm.ClassFile.FieldType)) ∈ x_G := x_g1 (List.mem_of_getElem? (i := 233) rfl) rfl
set_option maxRecDepth 20000 in
theorem mk1_235 : (Jvm.Cond.static ({ cls := "CardTerminal", name := "put", desc := "([III)V" } : Jvm.MethodName)) ∈ x_G := x_g1 (List.mem_of_getElem? (i := 235) rfl) rfl
set_option maxRecDepth 20000 in
theorem mk1_236 : (Jvm.Cond.code ({ cls := "CardTerminal", name := "put", desc := "([III)V" } : Jvm.MethodName) prog_1_method_42_code (3 : Nat) (Option.none : Option Jvm.ClassFile.FieldType)) ∈ x_G := x_g1 (List.mem_of_getElem? (i := 236) rfl) rfl
set_option maxRecDepth 20000 in
theorem mk1_237 : (Jvm.Cond.methodLink "CardTerminalLaw" (18 : Nat) ({ cls := "CardTerminal", name := "clearBytes", desc := "()I" } : Jvm.MethodName)) ∈ x_G := x_g1 (List.mem_of_getElem? (i := 237) rfl) rfl
set_option maxRecDepth 20000 in
theorem mk1_238 : (Jvm.Cond.instanceMethod ({ cls := "CardTerminal", name := "clearBytes", desc := "()I" } : Jvm.MethodName)) ∈ x_G := x_g1 (List.mem_of_getElem? (i := 238) rfl) rfl
set_option maxRecDepth 20000 in
theorem mk1_239 : (Jvm.Cond.selects "CardTerminal" ({ cls := "CardTerminal", name := "clearBytes", desc := "()I" } : Jvm.MethodName) ({ cls := "CardTerminal", name := "clearBytes", desc := "()I" } : Jvm.MethodName)) ∈ x_G := x_g1 (List.mem_of_getElem? (i := 239) rfl) rfl
