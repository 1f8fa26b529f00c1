set_option maxRecDepth 20000 in
theorem nk_0 : (Jvm.Cond.methodLinkNest "CardTerminal" (9 : Nat) ({ cls := "CardTerminal$Bytes", name := "<init>", desc := "()V" } : Jvm.MethodName) "CardTerminal") ∈ lw_tbl := List.mem_append_right _ (List.mem_append_left _ (List.mem_of_getElem? (i := 20) rfl))
set_option maxRecDepth 20000 in
theorem nk_1 : (Jvm.Cond.methodLinkNest "CardTerminal" (18 : Nat) ({ cls := "CardTerminal$DataObjects", name := "<init>", desc := "()V" } : Jvm.MethodName) "CardTerminal") ∈ lw_tbl := List.mem_append_right _ (List.mem_append_left _ (List.mem_of_getElem? (i := 40) rfl))
set_option maxRecDepth 20000 in
theorem nk_2 : (Jvm.Cond.methodLinkNest "CardTerminal" (25 : Nat) ({ cls := "CardTerminal$Card", name := "<init>", desc := "()V" } : Jvm.MethodName) "CardTerminal") ∈ lw_tbl := List.mem_append_right _ (List.mem_append_left _ (List.mem_of_getElem? (i := 79) rfl))
set_option maxRecDepth 20000 in
theorem nk_3 : (Jvm.Cond.methodLinkNest "CardTerminal$Card" (11 : Nat) ({ cls := "CardTerminal$Identifiers", name := "<init>", desc := "()V" } : Jvm.MethodName) "CardTerminal") ∈ lw_tbl := List.mem_append_right _ (List.mem_append_left _ (List.mem_of_getElem? (i := 85) rfl))
set_option maxRecDepth 20000 in
theorem nk_4 : (Jvm.Cond.methodLinkNest "CardTerminal" (32 : Nat) ({ cls := "CardTerminal$Terminal", name := "<init>", desc := "()V" } : Jvm.MethodName) "CardTerminal") ∈ lw_tbl := List.mem_append_right _ (List.mem_append_left _ (List.mem_of_getElem? (i := 129) rfl))
set_option maxRecDepth 20000 in
theorem nk_5 : (Jvm.Cond.methodLinkNest "CardTerminal$Terminal" (11 : Nat) ({ cls := "CardTerminal$Identifiers", name := "<init>", desc := "()V" } : Jvm.MethodName) "CardTerminal") ∈ lw_tbl := List.mem_append_right _ (List.mem_append_left _ (List.mem_of_getElem? (i := 134) rfl))
set_option maxRecDepth 20000 in
theorem nk_6 : (Jvm.Cond.methodLinkNest "CardTerminal" (39 : Nat) ({ cls := "CardTerminal$Transactions", name := "<init>", desc := "()V" } : Jvm.MethodName) "CardTerminal") ∈ lw_tbl := List.mem_append_right _ (List.mem_append_left _ (List.mem_of_getElem? (i := 169) rfl))
set_option maxRecDepth 20000 in
theorem nk_7 : (Jvm.Cond.methodLinkNest "CardTerminal" (46 : Nat) ({ cls := "CardTerminal$Reversals", name := "<init>", desc := "()V" } : Jvm.MethodName) "CardTerminal") ∈ lw_tbl := List.mem_append_right _ (List.mem_append_left _ (List.mem_of_getElem? (i := 195) rfl))
set_option maxRecDepth 20000 in
theorem nk_8 : (Jvm.Cond.methodLinkNest "CardTerminal$Bytes" (19 : Nat) ({ cls := "CardTerminal", name := "put", desc := "([III)V" } : Jvm.MethodName) "CardTerminal") ∈ lw_tbl := List.mem_append_right _ (List.mem_append_left _ (List.mem_of_getElem? (i := 234) rfl))
set_option maxRecDepth 20000 in
theorem nk_9 : (Jvm.Cond.methodLinkNest "CardTerminal$DataObjects" (52 : Nat) ({ cls := "CardTerminal", name := "at", desc := "([II)I" } : Jvm.MethodName) "CardTerminal") ∈ lw_tbl := List.mem_append_right _ (List.mem_append_right _ (List.mem_append_left _ (List.mem_of_getElem? (i := 17) rfl)))
set_option maxRecDepth 20000 in
theorem nk_10 : (Jvm.Cond.methodLinkNest "CardTerminal$DataObjects" (63 : Nat) ({ cls := "CardTerminal", name := "put", desc := "([III)V" } : Jvm.MethodName) "CardTerminal") ∈ lw_tbl := List.mem_append_right _ (List.mem_append_right _ (List.mem_append_left _ (List.mem_of_getElem? (i := 28) rfl)))
set_option maxRecDepth 20000 in
theorem nk_11 : (Jvm.Cond.methodLinkNest "CardTerminal$Transactions" (28 : Nat) ({ cls := "CardTerminal", name := "at", desc := "([II)I" } : Jvm.MethodName) "CardTerminal") ∈ lw_tbl := List.mem_append_right _ (List.mem_append_right _ (List.mem_append_left _ (List.mem_of_getElem? (i := 74) rfl)))
set_option maxRecDepth 20000 in
theorem nk_12 : (Jvm.Cond.methodLinkNest "CardTerminal$Card" (39 : Nat) ({ cls := "CardTerminal", name := "put", desc := "([III)V" } : Jvm.MethodName) "CardTerminal") ∈ lw_tbl := List.mem_append_right _ (List.mem_append_right _ (List.mem_append_left _ (List.mem_of_getElem? (i := 91) rfl)))
set_option maxRecDepth 20000 in
theorem nk_13 : (Jvm.Cond.methodLinkNest "CardTerminal$Card" (57 : Nat) ({ cls := "CardTerminal", name := "at", desc := "([II)I" } : Jvm.MethodName) "CardTerminal") ∈ lw_tbl := List.mem_append_right _ (List.mem_append_right _ (List.mem_append_left _ (List.mem_of_getElem? (i := 105) rfl)))
set_option maxRecDepth 20000 in
theorem nk_14 : (Jvm.Cond.methodLinkNest "CardTerminal$Identifiers" (25 : Nat) ({ cls := "CardTerminal", name := "at", desc := "([II)I" } : Jvm.MethodName) "CardTerminal") ∈ lw_tbl := List.mem_append_right _ (List.mem_append_right _ (List.mem_append_left _ (List.mem_of_getElem? (i := 110) rfl)))
set_option maxRecDepth 20000 in
theorem nk_15 : (Jvm.Cond.methodLinkNest "CardTerminal$Identifiers" (29 : Nat) ({ cls := "CardTerminal", name := "put", desc := "([III)V" } : Jvm.MethodName) "CardTerminal") ∈ lw_tbl := List.mem_append_right _ (List.mem_append_right _ (List.mem_append_left _ (List.mem_of_getElem? (i := 111) rfl)))
set_option maxRecDepth 20000 in
theorem nk_16 : (Jvm.Cond.methodLinkNest "CardTerminal$Terminal" (45 : Nat) ({ cls := "CardTerminal", name := "put", desc := "([III)V" } : Jvm.MethodName) "CardTerminal") ∈ lw_tbl := List.mem_append_right _ (List.mem_append_right _ (List.mem_append_left _ (List.mem_of_getElem? (i := 140) rfl)))
set_option maxRecDepth 20000 in
theorem nk_17 : (Jvm.Cond.methodLinkNest "CardTerminal$Terminal" (58 : Nat) ({ cls := "CardTerminal", name := "at", desc := "([II)I" } : Jvm.MethodName) "CardTerminal") ∈ lw_tbl := List.mem_append_right _ (List.mem_append_right _ (List.mem_append_left _ (List.mem_of_getElem? (i := 150) rfl)))
set_option maxRecDepth 20000 in
theorem nk_18 : (Jvm.Cond.methodLinkNest "CardTerminal$Transactions" (36 : Nat) ({ cls := "CardTerminal", name := "put", desc := "([III)V" } : Jvm.MethodName) "CardTerminal") ∈ lw_tbl := List.mem_append_right _ (List.mem_append_right _ (List.mem_append_right _ (List.mem_append_left _ (List.mem_of_getElem? (i := 17) rfl))))
set_option maxRecDepth 20000 in
theorem nk_19 : (Jvm.Cond.methodLinkNest "CardTerminal$Reversals" (19 : Nat) ({ cls := "CardTerminal", name := "put", desc := "([III)V" } : Jvm.MethodName) "CardTerminal") ∈ lw_tbl := List.mem_append_right _ (List.mem_append_right _ (List.mem_append_right _ (List.mem_append_left _ (List.mem_of_getElem? (i := 38) rfl))))
set_option maxRecDepth 20000 in
theorem nk_20 : (Jvm.Cond.methodLinkNest "CardTerminal$Reversals" (23 : Nat) ({ cls := "CardTerminal", name := "at", desc := "([II)I" } : Jvm.MethodName) "CardTerminal") ∈ lw_tbl := List.mem_append_right _ (List.mem_append_right _ (List.mem_append_right _ (List.mem_append_left _ (List.mem_of_getElem? (i := 51) rfl))))
theorem x_NW_law {a : Array Value} {s : State} (hts : ∀ w ∈ lw_tbl, w.before a s = true) : x_NW s := show ∀ q ∈ x_nest, va_Nw (.methodLinkNest q.1 q.2.1 q.2.2.1 q.2.2.2) s from (List.forall_mem_cons.mpr ⟨va_Nw.of rfl (hts _ nk_0), (List.forall_mem_cons.mpr ⟨va_Nw.of rfl (hts _ nk_1), (List.forall_mem_cons.mpr ⟨va_Nw.of rfl (hts _ nk_2), (List.forall_mem_cons.mpr ⟨va_Nw.of rfl (hts _ nk_3), (List.forall_mem_cons.mpr ⟨va_Nw.of rfl (hts _ nk_4), (List.forall_mem_cons.mpr ⟨va_Nw.of rfl (hts _ nk_5), (List.forall_mem_cons.mpr ⟨va_Nw.of rfl (hts _ nk_6), (List.forall_mem_cons.mpr ⟨va_Nw.of rfl (hts _ nk_7), (List.forall_mem_cons.mpr ⟨va_Nw.of rfl (hts _ nk_8), (List.forall_mem_cons.mpr ⟨va_Nw.of rfl (hts _ nk_9), (List.forall_mem_cons.mpr ⟨va_Nw.of rfl (hts _ nk_10), (List.forall_mem_cons.mpr ⟨va_Nw.of rfl (hts _ nk_11), (List.forall_mem_cons.mpr ⟨va_Nw.of rfl (hts _ nk_12), (List.forall_mem_cons.mpr ⟨va_Nw.of rfl (hts _ nk_13), (List.forall_mem_cons.mpr ⟨va_Nw.of rfl (hts _ nk_14), (List.forall_mem_cons.mpr ⟨va_Nw.of rfl (hts _ nk_15), (List.forall_mem_cons.mpr ⟨va_Nw.of rfl (hts _ nk_16), (List.forall_mem_cons.mpr ⟨va_Nw.of rfl (hts _ nk_17), (List.forall_mem_cons.mpr ⟨va_Nw.of rfl (hts _ nk_18), (List.forall_mem_cons.mpr ⟨va_Nw.of rfl (hts _ nk_19), (List.forall_mem_cons.mpr ⟨va_Nw.of rfl (hts _ nk_20), (fun _ h => absurd h List.not_mem_nil)⟩)⟩)⟩)⟩)⟩)⟩)⟩)⟩)⟩)⟩)⟩)⟩)⟩)⟩)⟩)⟩)⟩)⟩)⟩)⟩)⟩)
def R_law : String := "CardTerminalLaw"
abbrev x_A0 (s : State) : Nat → Prop := fun q => s.heap.size ≤ q
def lw_P (b : Addr) (xs : List Int32) (args : Array Value) (s : State) : Prop := args = #[.ref b] ∧ s.IntsAt b xs ∧ xs.length ≤ 1536 ∧ (Jvm.Cond.and given_1 narrow_1).before args s = true
def lw_Q (_ : Array Value) (s : State) (o : Outcome) (t : State) : Prop := o = .returned (some (.int 1)) ∧ Framed s o t [] 46 1021
def lw_Z (below : List Frame) (a : Array Value) (s : State) : State → Prop := fun t => ∃ o, t.status = .running ∧ Ended t below o ∧ lw_Q a s o t
theorem va_Pl {D : va_G} {cl : List vw_C} {a b : va_W} {H : Heap} (h : va_P D cl (a ++ b) H) : va_P D cl a H := fun k q hk => h k q (by rw [List.getElem?_append_left (List.getElem?_eq_some_iff.mp hk).1]; exact hk)
theorem va_Pr {D : va_G} {cl : List vw_C} {a b : va_W} {H : Heap} (h : va_P D cl (a ++ b) H) : va_P D cl b H := fun k q hk => h (a.length + k) q (by rw [List.getElem?_append_right (Nat.le_add_right _ _), Nat.add_sub_cancel_left]; exact hk)
/-- the two sides' cells: apart, and the law's own -/
def x_Dis (s : State) (ax am : Nat → Nat) : Prop := x_inj 26 ax ∧ x_inj 20 am ∧ (∀ i j, i < 26 → j < 20 → ax i ≠ am j) ∧ (∀ i, i < 26 → s.heap.size ≤ ax i) ∧ ∀ i, i < 20 → s.heap.size ≤ am i
theorem x_addr {n : Nat} {ad : Nat → Nat} {ws : va_W} (hw : ws.map (fun q => q.1) = (List.range n).map ad) {k : Nat} {q : Nat × va_E} (hk : ws[k]? = some q) : k < n ∧ q.1 = ad k := by
  have h1 : (ws.map (fun q => q.1))[k]? = some q.1 := by rw [List.getElem?_map, hk]; rfl
  rw [hw, List.getElem?_map] at h1
  by_cases hn : k < n
  · rw [List.getElem?_range hn] at h1
    exact ⟨hn, (Option.some.inj h1).symm⟩
  · rw [List.getElem?_eq_none (by rw [List.length_range]; omega)] at h1
    cases h1
theorem x_joinX {D : va_G} {cA : ClassId} {s : State} {ax am : Nat → Nat} (hd : x_Dis s ax am) {σ σ' τ : x_M} : ∀ H H1 : Heap, va_P D vwCl (wX ax cA σ ++ wM am cA τ) H → va_P D vwCl (wX ax cA σ') H1 → (∀ q, q < H.size → ¬ x_A 26 ax q → H1[q]? = H[q]?) → va_P D vwCl (wX ax cA σ' ++ wM am cA τ) H1 := by
  intro H H1 hP hP1 hk
  refine va_P.app hP1 (fun k q hq => ?_)
  have h1 := va_Pr hP k q hq
  obtain ⟨h2, h3⟩ := x_addr (n := 20) (ad := am) rfl hq
  refine h1.kept (hk _ h1.lt ?_)
  rintro ⟨j, hj, he⟩
  exact hd.2.2.1 j k hj h2 (by rw [← he, h3])
theorem x_joinM {D : va_G} {cA : ClassId} {s : State} {ax am : Nat → Nat} (hd : x_Dis s ax am) {σ τ τ' : x_M} : ∀ H H1 : Heap, va_P D vwCl (wX ax cA σ ++ wM am cA τ) H → va_P D vwCl (wM am cA τ') H1 → (∀ q, q < H.size → ¬ x_A 20 am q → H1[q]? = H[q]?) → va_P D vwCl (wX ax cA σ ++ wM am cA τ') H1 := by
  intro H H1 hP hP1 hk
  refine va_P.app (fun k q hq => ?_) hP1
  have h1 := va_Pl hP k q hq
  obtain ⟨h2, h3⟩ := x_addr (n := 26) (ad := ax) rfl hq
  refine h1.kept (hk _ h1.lt ?_)
  rintro ⟨j, hj, he⟩
  exact hd.2.2.1 k j h2 hj (by rw [← he, h3])
theorem x_hAX {s : State} {ax am : Nat → Nat} (hd : x_Dis s ax am) : ∀ q, x_A 26 ax q → x_A0 s q := fun q h => by
  obtain ⟨k, hk, rfl⟩ := h
  exact hd.2.2.2.1 k hk
theorem x_hAM {s : State} {ax am : Nat → Nat} (hd : x_Dis s ax am) : ∀ q, x_A 20 am q → x_A0 s q := fun q h => by
  obtain ⟨k, hk, rfl⟩ := h
  exact hd.2.2.2.2 k hk
section LAW
variable {p : Program} {l : Launch} {e : Env} {s : State} {m : MethodId} {below : List Frame} {meth : Method} {c : Code} {D : va_G} {cA : ClassId} {b L : Nat} {xs : Nat → Int32} {ax am : Nat → Nat}
/-- the law's judgement: at pc, with i ints read, the two sides' memories σ and τ -/
def x_LJ (p : Program) (l : Launch) (e : Env) (s : State) (m : MethodId) (below : List Frame) (meth : Method) (c : Code) (D : va_G) (cA : ClassId) (b : Nat) (ax am : Nat → Nat) (σ τ : x_M) (i pc : Nat) (st : List Value) : Prop :=
  x_J 4 p l e room_1 s m #[Value.ref b] below meth c 46 1021 (x_IW D s (x_A0 s) (wX ax cA σ ++ wM am cA τ)) (lw_Z below #[Value.ref b] s) pc [(0, .ref b), (1, .ref (ax 0)), (2, .ref (am 0)), (3, .int (nI i))] st
theorem xl_sld {nL cells slots pc : Nat} {Q : State → Prop} {R : Room} {args : Array Value} {lv : List (Nat × Value)} {st : List Value} {ws : va_W} {cc : ByteArray} {own : String} (X : x_C D cA cc nL own p s m args meth c) (hX : va_X b L xs s s.heap) (hbl : b < s.heap.size) {i : Int32} (hin : vp_in i L) (x : Int32) (hx : xs i.toNatClampNeg = x) (hdg : decode cc pc = .ok (.iaload, 1)) (kk : x_J nL p l e R s m args below meth c cells slots (x_IW D s (x_A0 s) ws) Q (pc + 1) lv (.int x :: st)) : x_J nL p l e R s m args below meth c cells slots (x_IW D s (x_A0 s) ws) Q pc lv (.int i :: .ref b :: st) := fun H locs ls hi hl => va_sld X.1 X.2.1 hX hbl (Nat.not_le.mpr hbl) hi.2 hin hdg (by rw [hx]; exact kk H locs ls hi hl)
theorem xl_slen {nL cells slots pc : Nat} {Q : State → Prop} {R : Room} {args : Array Value} {lv : List (Nat × Value)} {st : List Value} {ws : va_W} {cc : ByteArray} {own : String} (X : x_C D cA cc nL own p s m args meth c) (hX : va_X b L xs s s.heap) (hbl : b < s.heap.size) (hdg : decode cc pc = .ok (.arraylength, 1)) (kk : x_J nL p l e R s m args below meth c cells slots (x_IW D s (x_A0 s) ws) Q (pc + 1) lv (.int (nI L) :: st)) : x_J nL p l e R s m args below meth c cells slots (x_IW D s (x_A0 s) ws) Q pc lv (.ref b :: st) := fun H locs ls hi hl => va_slen X.1 X.2.1 hX hbl (Nat.not_le.mpr hbl) hi.2 hdg (kk H locs ls hi hl)
set_option maxHeartbeats 4000000 in
set_option maxRecDepth 100000 in
theorem law_case_0 (X : x_C D cA code 4 R_law p s m #[Value.ref b] meth c) (hd : x_Dis s ax am) (hX : va_X b L xs s s.heap) (hbl : b < s.heap.size) (hL : L ≤ 1536) {i : Nat} (hi : i + 3 ≤ L) {σ τ : x_M} (h : Sim σ τ) (K : ∀ σ' τ' : x_M, Sim σ' τ' → x_LJ p l e s m below meth c D cA b ax am σ' τ' i 875 []) : x_LJ p l e s m below meth c D cA b ax am σ τ i 164 [] := by
  have v1 : vp_in (nI i + 1) L := by rw [nI_succ1]; exact vp_in_nI (by omega) (by omega)
  have e1 : xs (nI i + 1).toNatClampNeg = xs (i + 1) := by rw [nI_succ1, nI_clamp (by omega)]
  obtain ⟨r, σ', τ', hx, hm, hs⟩ := o_appendByte h (xs (i + 1))
  refine xj_aload_n X 1 dL_law_164 rfl rfl ?_
  refine xj_aload_n X 0 dL_law_165 rfl rfl ?_
  refine xj_iload_n X 3 dL_law_166 rfl rfl ?_
  refine xj_iconst (x := (1 : Int32)) X dL_law_167 rfl ?_
  refine xj_iadd X dL_law_168 ?_
  refine xl_sld X hX hbl v1 (xs (i + 1)) e1 dL_law_169 ?_
  refine xj_wrI (r := r) (rest := []) (x_runV X (ctX7_appendByte l D cA hd.1 σ (xs (i + 1)) r σ' hx) (x_cwV X kwX7_appendByte mk1_226 rfl rfl ⟨Nat.le_of_ble_eq_true rfl, Nat.le_of_ble_eq_true rfl⟩) (fun _ _ h => va_Pl h.1) 0 (wX_at0 ax cA σ) rfl rfl rfl (Nat.le_of_ble_eq_true rfl) dL_law_170 ⟨Nat.le_of_ble_eq_true rfl, Nat.le_of_ble_eq_true rfl⟩) (x_joinX hd) (x_hAX hd) ?_
  refine xj_aload_n X 2 dL_law_173 rfl rfl ?_
  refine xj_aload_n X 0 dL_law_174 rfl rfl ?_
  refine xj_iload_n X 3 dL_law_175 rfl rfl ?_
  refine xj_iconst (x := (1 : Int32)) X dL_law_176 rfl ?_
  refine xj_iadd X dL_law_177 ?_
  refine xl_sld X hX hbl v1 (xs (i + 1)) e1 dL_law_178 ?_
  refine xj_wrI (r := r) (rest := [.int (r)]) (x_runV X (ctX8_appendByte l D cA hd.2.1 τ (xs (i + 1)) r τ' hm) (x_cwV X kwX8_appendByte mk3_197 rfl rfl ⟨Nat.le_of_ble_eq_true rfl, Nat.le_of_ble_eq_true rfl⟩) (fun _ _ h => va_Pr h.1) 0 (wM_at0 am cA τ) rfl rfl rfl (Nat.le_of_ble_eq_true rfl) dL_law_179 ⟨Nat.le_of_ble_eq_true rfl, Nat.le_of_ble_eq_true rfl⟩) (x_joinM hd) (x_hAM hd) ?_
  refine xj_icmp_eq (P := true) (N := false) (r := true) (tgt := 875) X dL_law_182 rfl (if_pos rfl) (fun _ => ?_) (fun h9 => by cases h9)
  exact K σ' τ' hs
set_option maxHeartbeats 4000000 in
set_option maxRecDepth 100000 in
theorem law_case_1 (X : x_C D cA code 4 R_law p s m #[Value.ref b] meth c) (hd : x_Dis s ax am) (hX : va_X b L xs s s.heap) (hbl : b < s.heap.size) (hL : L ≤ 1536) {i : Nat} (hi : i + 3 ≤ L) {σ τ : x_M} (h : Sim σ τ) (K : ∀ σ' τ' : x_M, Sim σ' τ' → x_LJ p l e s m below meth c D cA b ax am σ' τ' i 875 []) : x_LJ p l e s m below meth c D cA b ax am σ τ i 187 [] := by
  obtain ⟨r, σ', τ', hx, hm, hs⟩ := o_clearBytes h
  refine xj_aload_n X 1 dL_law_187 rfl rfl ?_
  refine xj_wrI (r := r) (rest := []) (x_runV X (ctX7_clearBytes l D cA hd.1 σ r σ' hx) (x_cwV X kwX7_clearBytes mk1_237 rfl rfl ⟨Nat.le_of_ble_eq_true rfl, Nat.le_of_ble_eq_true rfl⟩) (fun _ _ h => va_Pl h.1) 0 (wX_at0 ax cA σ) rfl rfl rfl (Nat.le_of_ble_eq_true rfl) dL_law_188 ⟨Nat.le_of_ble_eq_true rfl, Nat.le_of_ble_eq_true rfl⟩) (x_joinX hd) (x_hAX hd) ?_
  refine xj_aload_n X 2 dL_law_191 rfl rfl ?_
  refine xj_wrI (r := r) (rest := [.int (r)]) (x_runV X (ctX8_clearBytes l D cA hd.2.1 τ r τ' hm) (x_cwV X kwX8_clearBytes mk3_204 rfl rfl ⟨Nat.le_of_ble_eq_true rfl, Nat.le_of_ble_eq_true rfl⟩) (fun _ _ h => va_Pr h.1) 0 (wM_at0 am cA τ) rfl rfl rfl (Nat.le_of_ble_eq_true rfl) dL_law_192 ⟨Nat.le_of_ble_eq_true rfl, Nat.le_of_ble_eq_true rfl⟩) (x_joinM hd) (x_hAM hd) ?_
  refine xj_icmp_eq (P := true) (N := false) (r := true) (tgt := 875) X dL_law_195 rfl (if_pos rfl) (fun _ => ?_) (fun h9 => by cases h9)
  exact K σ' τ' hs
set_option maxHeartbeats 4000000 in
set_option maxRecDepth 100000 in
theorem law_case_2 (X : x_C D cA code 4 R_law p s m #[Value.ref b] meth c) (hd : x_Dis s ax am) (hX : va_X b L xs s s.heap) (hbl : b < s.heap.size) (hL : L ≤ 1536) {i : Nat} (hi : i + 3 ≤ L) {σ τ : x_M} (h : Sim σ τ) (K : ∀ σ' τ' : x_M, Sim σ' τ' → x_LJ p l e s m below meth c D cA b ax am σ' τ' i 875 []) : x_LJ p l e s m below meth c D cA b ax am σ τ i 200 [] := by
  obtain ⟨r, σ', τ', hx, hm, hs⟩ := o_errorOffset h
  refine xj_aload_n X 1 dL_law_200 rfl rfl ?_
  refine xj_wrI (r := r) (rest := []) (x_runV X (ctX7_errorOffset l D cA hd.1 σ r σ' hx) (x_cwV X kwX7_errorOffset mk2_1 rfl rfl ⟨Nat.le_of_ble_eq_true rfl, Nat.le_of_ble_eq_true rfl⟩) (fun _ _ h => va_Pl h.1) 0 (wX_at0 ax cA σ) rfl rfl rfl (Nat.le_of_ble_eq_true rfl) dL_law_201 ⟨Nat.le_of_ble_eq_true rfl, Nat.le_of_ble_eq_true rfl⟩) (x_joinX hd) (x_hAX hd) ?_
  refine xj_aload_n X 2 dL_law_204 rfl rfl ?_
  refine xj_wrI (r := r) (rest := [.int (r)]) (x_runV X (ctX8_errorOffset l D cA hd.2.1 τ r τ' hm) (x_cwV X kwX8_errorOffset mk3_208 rfl rfl ⟨Nat.le_of_ble_eq_true rfl, Nat.le_of_ble_eq_true rfl⟩) (fun _ _ h => va_Pr h.1) 0 (wM_at0 am cA τ) rfl rfl rfl (Nat.le_of_ble_eq_true rfl) dL_law_205 ⟨Nat.le_of_ble_eq_true rfl, Nat.le_of_ble_eq_true rfl⟩) (x_joinM hd) (x_hAM hd) ?_
  refine xj_icmp_eq (P := true) (N := false) (r := true) (tgt := 875) X dL_law_208 rfl (if_pos rfl) (fun _ => ?_) (fun h9 => by cases h9)
  exact K σ' τ' hs
set_option maxHeartbeats 4000000 in
set_option maxRecDepth 100000 in
theorem law_case_3 (X : x_C D cA code 4 R_law p s m #[Value.ref b] meth c) (hd : x_Dis s ax am) (hX : va_X b L xs s s.heap) (hbl : b < s.heap.size) (hL : L ≤ 1536) {i : Nat} (hi : i + 3 ≤ L) {σ τ : x_M} (h : Sim σ τ) (K : ∀ σ' τ' : x_M, Sim σ' τ' → x_LJ p l e s m below meth c D cA b ax am σ' τ' i 875 []) : x_LJ p l e s m below meth c D cA b ax am σ τ i 213 [] := by
  obtain ⟨r, σ', τ', hx, hm, hs⟩ := o_objectCount h
  refine xj_aload_n X 1 dL_law_213 rfl rfl ?_
  refine xj_wrI (r := r) (rest := []) (x_runV X (ctX7_objectCount l D cA hd.1 σ r σ' hx) (x_cwV X kwX7_objectCount mk2_37 rfl rfl ⟨Nat.le_of_ble_eq_true rfl, Nat.le_of_ble_eq_true rfl⟩) (fun _ _ h => va_Pl h.1) 0 (wX_at0 ax cA σ) rfl rfl rfl (Nat.le_of_ble_eq_true rfl) dL_law_214 ⟨Nat.le_of_ble_eq_true rfl, Nat.le_of_ble_eq_true rfl⟩) (x_joinX hd) (x_hAX hd) ?_
  refine xj_aload_n X 2 dL_law_217 rfl rfl ?_
  refine xj_wrI (r := r) (rest := [.int (r)]) (x_runV X (ctX8_objectCount l D cA hd.2.1 τ r τ' hm) (x_cwV X kwX8_objectCount mk3_216 rfl rfl ⟨Nat.le_of_ble_eq_true rfl, Nat.le_of_ble_eq_true rfl⟩) (fun _ _ h => va_Pr h.1) 0 (wM_at0 am cA τ) rfl rfl rfl (Nat.le_of_ble_eq_true rfl) dL_law_218 ⟨Nat.le_of_ble_eq_true rfl, Nat.le_of_ble_eq_true rfl⟩) (x_joinM hd) (x_hAM hd) ?_
  refine xj_icmp_eq (P := true) (N := false) (r := true) (tgt := 875) X dL_law_221 rfl (if_pos rfl) (fun _ => ?_) (fun h9 => by cases h9)
  exact K σ' τ' hs
set_option maxHeartbeats 4000000 in
set_option maxRecDepth 100000 in
theorem law_case_4 (X : x_C D cA code 4 R_law p s m #[Value.ref b] meth c) (hd : x_Dis s ax am) (hX : va_X b L xs s s.heap) (hbl : b < s.heap.size) (hL : L ≤ 1536) {i : Nat} (hi : i + 3 ≤ L) {σ τ : x_M} (h : Sim σ τ) (K : ∀ σ' τ' : x_M, Sim σ' τ' → x_LJ p l e s m below meth c D cA b ax am σ' τ' i 875 []) : x_LJ p l e s m below meth c D cA b ax am σ τ i 226 [] := by
  have v1 : vp_in (nI i + 1) L := by rw [nI_succ1]; exact vp_in_nI (by omega) (by omega)
  have e1 : xs (nI i + 1).toNatClampNeg = xs (i + 1) := by rw [nI_succ1, nI_clamp (by omega)]
  obtain ⟨r, σ', τ', hx, hm, hs⟩ := o_objectTag h (xs (i + 1))
  refine xj_aload_n X 1 dL_law_226 rfl rfl ?_
  refine xj_aload_n X 0 dL_law_227 rfl rfl ?_
  refine xj_iload_n X 3 dL_law_228 rfl rfl ?_
  refine xj_iconst (x := (1 : Int32)) X dL_law_229 rfl ?_
  refine xj_iadd X dL_law_230 ?_
  refine xl_sld X hX hbl v1 (xs (i + 1)) e1 dL_law_231 ?_
  refine xj_wrI (r := r) (rest := []) (x_runV X (ctX7_objectTag l D cA hd.1 σ (xs (i + 1)) r σ' hx) (x_cwV X kwX7_objectTag mk2_41 rfl rfl ⟨Nat.le_of_ble_eq_true rfl, Nat.le_of_ble_eq_true rfl⟩) (fun _ _ h => va_Pl h.1) 0 (wX_at0 ax cA σ) rfl rfl rfl (Nat.le_of_ble_eq_true rfl) dL_law_232 ⟨Nat.le_of_ble_eq_true rfl, Nat.le_of_ble_eq_true rfl⟩) (x_joinX hd) (x_hAX hd) ?_
  refine xj_aload_n X 2 dL_law_235 rfl rfl ?_
  refine xj_aload_n X 0 dL_law_236 rfl rfl ?_
  refine xj_iload_n X 3 dL_law_237 rfl rfl ?_
  refine xj_iconst (x := (1 : Int32)) X dL_law_238 rfl ?_
  refine xj_iadd X dL_law_239 ?_
  refine xl_sld X hX hbl v1 (xs (i + 1)) e1 dL_law_240 ?_
  refine xj_wrI (r := r) (rest := [.int (r)]) (x_runV X (ctX8_objectTag l D cA hd.2.1 τ (xs (i + 1)) r τ' hm) (x_cwV X kwX8_objectTag mk3_220 rfl rfl ⟨Nat.le_of_ble_eq_true rfl, Nat.le_of_ble_eq_true rfl⟩) (fun _ _ h => va_Pr h.1) 0 (wM_at0 am cA τ) rfl rfl rfl (Nat.le_of_ble_eq_true rfl) dL_law_241 ⟨Nat.le_of_ble_eq_true rfl, Nat.le_of_ble_eq_true rfl⟩) (x_joinM hd) (x_hAM hd) ?_
  refine xj_icmp_eq (P := true) (N := false) (r := true) (tgt := 875) X dL_law_244 rfl (if_pos rfl) (fun _ => ?_) (fun h9 => by cases h9)
  exact K σ' τ' hs
set_option maxHeartbeats 4000000 in
set_option maxRecDepth 100000 in
theorem law_case_5 (X : x_C D cA code 4 R_law p s m #[Value.ref b] meth c) (hd : x_Dis s ax am) (hX : va_X b L xs s s.heap) (hbl : b < s.heap.size) (hL : L ≤ 1536) {i : Nat} (hi : i + 3 ≤ L) {σ τ : x_M} (h : Sim σ τ) (K : ∀ σ' τ' : x_M, Sim σ' τ' → x_LJ p l e s m below meth c D cA b ax am σ' τ' i 875 []) : x_LJ p l e s m below meth c D cA b ax am σ τ i 249 [] := by
  have v1 : vp_in (nI i + 1) L := by rw [nI_succ1]; exact vp_in_nI (by omega) (by omega)
  have e1 : xs (nI i + 1).toNatClampNeg = xs (i + 1) := by rw [nI_succ1, nI_clamp (by omega)]
  obtain ⟨r, σ', τ', hx, hm, hs⟩ := o_objectDepth h (xs (i + 1))
  refine xj_aload_n X 1 dL_law_249 rfl rfl ?_
  refine xj_aload_n X 0 dL_law_250 rfl rfl ?_
  refine xj_iload_n X 3 dL_law_251 rfl rfl ?_
  refine xj_iconst (x := (1 : Int32)) X dL_law_252 rfl ?_
  refine xj_iadd X dL_law_253 ?_
  refine xl_sld X hX hbl v1 (xs (i + 1)) e1 dL_law_254 ?_
  refine xj_wrI (r := r) (rest := []) (x_runV X (ctX7_objectDepth l D cA hd.1 σ (xs (i + 1)) r σ' hx) (x_cwV X kwX7_objectDepth mk2_50 rfl rfl ⟨Nat.le_of_ble_eq_true rfl, Nat.le_of_ble_eq_true rfl⟩) (fun _ _ h => va_Pl h.1) 0 (wX_at0 ax cA σ) rfl rfl rfl (Nat.le_of_ble_eq_true rfl) dL_law_255 ⟨Nat.le_of_ble_eq_true rfl, Nat.le_of_ble_eq_true rfl⟩) (x_joinX hd) (x_hAX hd) ?_
  refine xj_aload_n X 2 dL_law_258 rfl rfl ?_
  refine xj_aload_n X 0 dL_law_259 rfl rfl ?_
  refine xj_iload_n X 3 dL_law_260 rfl rfl ?_
  refine xj_iconst (x := (1 : Int32)) X dL_law_261 rfl ?_
  refine xj_iadd X dL_law_262 ?_
  refine xl_sld X hX hbl v1 (xs (i + 1)) e1 dL_law_263 ?_
  refine xj_wrI (r := r) (rest := [.int (r)]) (x_runV X (ctX8_objectDepth l D cA hd.2.1 τ (xs (i + 1)) r τ' hm) (x_cwV X kwX8_objectDepth mk3_228 rfl rfl ⟨Nat.le_of_ble_eq_true rfl, Nat.le_of_ble_eq_true rfl⟩) (fun _ _ h => va_Pr h.1) 0 (wM_at0 am cA τ) rfl rfl rfl (Nat.le_of_ble_eq_true rfl) dL_law_264 ⟨Nat.le_of_ble_eq_true rfl, Nat.le_of_ble_eq_true rfl⟩) (x_joinM hd) (x_hAM hd) ?_
  refine xj_icmp_eq (P := true) (N := false) (r := true) (tgt := 875) X dL_law_267 rfl (if_pos rfl) (fun _ => ?_) (fun h9 => by cases h9)
  exact K σ' τ' hs
set_option maxHeartbeats 4000000 in
set_option maxRecDepth 100000 in
theorem law_case_6 (X : x_C D cA code 4 R_law p s m #[Value.ref b] meth c) (hd : x_Dis s ax am) (hX : va_X b L xs s s.heap) (hbl : b < s.heap.size) (hL : L ≤ 1536) {i : Nat} (hi : i + 3 ≤ L) {σ τ : x_M} (h : Sim σ τ) (K : ∀ σ' τ' : x_M, Sim σ' τ' → x_LJ p l e s m below meth c D cA b ax am σ' τ' i 875 []) : x_LJ p l e s m below meth c D cA b ax am σ τ i 272 [] := by
  have v1 : vp_in (nI i + 1) L := by rw [nI_succ1]; exact vp_in_nI (by omega) (by omega)
  have e1 : xs (nI i + 1).toNatClampNeg = xs (i + 1) := by rw [nI_succ1, nI_clamp (by omega)]
  obtain ⟨r, σ', τ', hx, hm, hs⟩ := o_objectLength h (xs (i + 1))
  refine xj_aload_n X 1 dL_law_272 rfl rfl ?_
  refine xj_aload_n X 0 dL_law_273 rfl rfl ?_
  refine xj_iload_n X 3 dL_law_274 rfl rfl ?_
  refine xj_iconst (x := (1 : Int32)) X dL_law_275 rfl ?_
  refine xj_iadd X dL_law_276 ?_
  refine xl_sld X hX hbl v1 (xs (i + 1)) e1 dL_law_277 ?_
  refine xj_wrI (r := r) (rest := []) (x_runV X (ctX7_objectLength l D cA hd.1 σ (xs (i + 1)) r σ' hx) (x_cwV X kwX7_objectLength mk2_54 rfl rfl ⟨Nat.le_of_ble_eq_true rfl, Nat.le_of_ble_eq_true rfl⟩) (fun _ _ h => va_Pl h.1) 0 (wX_at0 ax cA σ) rfl rfl rfl (Nat.le_of_ble_eq_true rfl) dL_law_278 ⟨Nat.le_of_ble_eq_true rfl, Nat.le_of_ble_eq_true rfl⟩) (x_joinX hd) (x_hAX hd) ?_
  refine xj_aload_n X 2 dL_law_281 rfl rfl ?_
  refine xj_aload_n X 0 dL_law_282 rfl rfl ?_
  refine xj_iload_n X 3 dL_law_283 rfl rfl ?_
  refine xj_iconst (x := (1 : Int32)) X dL_law_284 rfl ?_
  refine xj_iadd X dL_law_285 ?_
  refine xl_sld X hX hbl v1 (xs (i + 1)) e1 dL_law_286 ?_
  refine xj_wrI (r := r) (rest := [.int (r)]) (x_runV X (ctX8_objectLength l D cA hd.2.1 τ (xs (i + 1)) r τ' hm) (x_cwV X kwX8_objectLength mk3_232 rfl rfl ⟨Nat.le_of_ble_eq_true rfl, Nat.le_of_ble_eq_true rfl⟩) (fun _ _ h => va_Pr h.1) 0 (wM_at0 am cA τ) rfl rfl rfl (Nat.le_of_ble_eq_true rfl) dL_law_287 ⟨Nat.le_of_ble_eq_true rfl, Nat.le_of_ble_eq_true rfl⟩) (x_joinM hd) (x_hAM hd) ?_
  refine xj_icmp_eq (P := true) (N := false) (r := true) (tgt := 875) X dL_law_290 rfl (if_pos rfl) (fun _ => ?_) (fun h9 => by cases h9)
  exact K σ' τ' hs
set_option maxHeartbeats 4000000 in
set_option maxRecDepth 100000 in
theorem law_case_7 (X : x_C D cA code 4 R_law p s m #[Value.ref b] meth c) (hd : x_Dis s ax am) (hX : va_X b L xs s s.heap) (hbl : b < s.heap.size) (hL : L ≤ 1536) {i : Nat} (hi : i + 3 ≤ L) {σ τ : x_M} (h : Sim σ τ) (K : ∀ σ' τ' : x_M, Sim σ' τ' → x_LJ p l e s m below meth c D cA b ax am σ' τ' i 875 []) : x_LJ p l e s m below meth c D cA b ax am σ τ i 295 [] := by
  have v1 : vp_in (nI i + 1) L := by rw [nI_succ1]; exact vp_in_nI (by omega) (by omega)
  have e1 : xs (nI i + 1).toNatClampNeg = xs (i + 1) := by rw [nI_succ1, nI_clamp (by omega)]
  have v2 : vp_in (nI i + 2) L := by rw [show (2 : Int32) = nI 2 from rfl, nI_add]; exact vp_in_nI (by omega) (by omega)
  have e2 : xs (nI i + 2).toNatClampNeg = xs (i + 2) := by rw [show (2 : Int32) = nI 2 from rfl, nI_add, nI_clamp (by omega)]
  obtain ⟨r, σ', τ', hx, hm, hs⟩ := o_findObject h (xs (i + 1)) (xs (i + 2))
  refine xj_aload_n X 1 dL_law_295 rfl rfl ?_
  refine xj_aload_n X 0 dL_law_296 rfl rfl ?_
  refine xj_iload_n X 3 dL_law_297 rfl rfl ?_
  refine xj_iconst (x := (1 : Int32)) X dL_law_298 rfl ?_
  refine xj_iadd X dL_law_299 ?_
  refine xl_sld X hX hbl v1 (xs (i + 1)) e1 dL_law_300 ?_
  refine xj_aload_n X 0 dL_law_301 rfl rfl ?_
  refine xj_iload_n X 3 dL_law_302 rfl rfl ?_
  refine xj_iconst (x := (2 : Int32)) X dL_law_303 rfl ?_
  refine xj_iadd X dL_law_304 ?_
  refine xl_sld X hX hbl v2 (xs (i + 2)) e2 dL_law_305 ?_
  refine xj_wrI (r := r) (rest := []) (x_runV X (ctX7_findObject l D cA hd.1 σ (xs (i + 1)) (xs (i + 2)) r σ' hx) (x_cwV X kwX7_findObject mk2_58 rfl rfl ⟨Nat.le_of_ble_eq_true rfl, Nat.le_of_ble_eq_true rfl⟩) (fun _ _ h => va_Pl h.1) 0 (wX_at0 ax cA σ) rfl rfl rfl (Nat.le_of_ble_eq_true rfl) dL_law_306 ⟨Nat.le_of_ble_eq_true rfl, Nat.le_of_ble_eq_true rfl⟩) (x_joinX hd) (x_hAX hd) ?_
  refine xj_aload_n X 2 dL_law_309 rfl rfl ?_
  refine xj_aload_n X 0 dL_law_310 rfl rfl ?_
  refine xj_iload_n X 3 dL_law_311 rfl rfl ?_
  refine xj_iconst (x := (1 : Int32)) X dL_law_312 rfl ?_
  refine xj_iadd X dL_law_313 ?_
  refine xl_sld X hX hbl v1 (xs (i + 1)) e1 dL_law_314 ?_
  refine xj_aload_n X 0 dL_law_315 rfl rfl ?_
  refine xj_iload_n X 3 dL_law_316 rfl rfl ?_
  refine xj_iconst (x := (2 : Int32)) X dL_law_317 rfl ?_
  refine xj_iadd X dL_law_318 ?_
  refine xl_sld X hX hbl v2 (xs (i + 2)) e2 dL_law_319 ?_
  refine xj_wrI (r := r) (rest := [.int (r)]) (x_runV X (ctX8_findObject l D cA hd.2.1 τ (xs (i + 1)) (xs (i + 2)) r τ' hm) (x_cwV X kwX8_findObject mk3_236 rfl rfl ⟨Nat.le_of_ble_eq_true rfl, Nat.le_of_ble_eq_true rfl⟩) (fun _ _ h => va_Pr h.1) 0 (wM_at0 am cA τ) rfl rfl rfl (Nat.le_of_ble_eq_true rfl) dL_law_320 ⟨Nat.le_of_ble_eq_true rfl, Nat.le_of_ble_eq_true rfl⟩) (x_joinM hd) (x_hAM hd) ?_
  refine xj_icmp_eq (P := true) (N := false) (r := true) (tgt := 875) X dL_law_323 rfl (if_pos rfl) (fun _ => ?_) (fun h9 => by cases h9)
  exact K σ' τ' hs
set_option maxHeartbeats 4000000 in
set_option maxRecDepth 100000 in
theorem law_case_8 (X : x_C D cA code 4 R_law p s m #[Value.ref b] meth c) (hd : x_Dis s ax am) (hX : va_X b L xs s s.heap) (hbl : b < s.heap.size) (hL : L ≤ 1536) {i : Nat} (hi : i + 3 ≤ L) {σ τ : x_M} (h : Sim σ τ) (K : ∀ σ' τ' : x_M, Sim σ' τ' → x_LJ p l e s m below meth c D cA b ax am σ' τ' i 875 []) : x_LJ p l e s m below meth c D cA b ax am σ τ i 328 [] := by
  obtain ⟨r, σ', τ', hx, hm, hs⟩ := o_insertCard h
  refine xj_aload_n X 1 dL_law_328 rfl rfl ?_
  refine xj_wrI (r := r) (rest := []) (x_runV X (ctX7_insertCard l D cA hd.1 σ r σ' hx) (x_cwV X kwX7_insertCard mk2_66 rfl rfl ⟨Nat.le_of_ble_eq_true rfl, Nat.le_of_ble_eq_true rfl⟩) (fun _ _ h => va_Pl h.1) 0 (wX_at0 ax cA σ) rfl rfl rfl (Nat.le_of_ble_eq_true rfl) dL_law_329 ⟨Nat.le_of_ble_eq_true rfl, Nat.le_of_ble_eq_true rfl⟩) (x_joinX hd) (x_hAX hd) ?_
  refine xj_aload_n X 2 dL_law_332 rfl rfl ?_
  refine xj_wrI (r := r) (rest := [.int (r)]) (x_runV X (ctX8_insertCard l D cA hd.2.1 τ r τ' hm) (x_cwV X kwX8_insertCard mk4_0 rfl rfl ⟨Nat.le_of_ble_eq_true rfl, Nat.le_of_ble_eq_true rfl⟩) (fun _ _ h => va_Pr h.1) 0 (wM_at0 am cA τ) rfl rfl rfl (Nat.le_of_ble_eq_true rfl) dL_law_333 ⟨Nat.le_of_ble_eq_true rfl, Nat.le_of_ble_eq_true rfl⟩) (x_joinM hd) (x_hAM hd) ?_
  refine xj_icmp_eq (P := true) (N := false) (r := true) (tgt := 875) X dL_law_336 rfl (if_pos rfl) (fun _ => ?_) (fun h9 => by cases h9)
  exact K σ' τ' hs
set_option maxHeartbeats 4000000 in
set_option maxRecDepth 100000 in
theorem law_case_9 (X : x_C D cA code 4 R_law p s m #[Value.ref b] meth c) (hd : x_Dis s ax am) (hX : va_X b L xs s s.heap) (hbl : b < s.heap.size) (hL : L ≤ 1536) {i : Nat} (hi : i + 3 ≤ L) {σ τ : x_M} (h : Sim σ τ) (K : ∀ σ' τ' : x_M, Sim σ' τ' → x_LJ p l e s m below meth c D cA b ax am σ' τ' i 875 []) : x_LJ p l e s m below meth c D cA b ax am σ τ i 341 [] := by
  have v1 : vp_in (nI i + 1) L := by rw [nI_succ1]; exact vp_in_nI (by omega) (by omega)
  have e1 : xs (nI i + 1).toNatClampNeg = xs (i + 1) := by rw [nI_succ1, nI_clamp (by omega)]
  have hm := o_priorityOf h (xs (i + 1))
  refine xj_aload_n X 1 dL_law_341 rfl rfl ?_
  refine xj_aload_n X 0 dL_law_342 rfl rfl ?_
  refine xj_iload_n X 3 dL_law_343 rfl rfl ?_
  refine xj_iconst (x := (1 : Int32)) X dL_law_344 rfl ?_
  refine xj_iadd X dL_law_345 ?_
  refine xl_sld X hX hbl v1 (xs (i + 1)) e1 dL_law_346 ?_
  refine xj_roI (r := fX7_priorityOf σ (xs (i + 1))) (rest := []) (fun _ h => h) (x_runV X (ctX7_priorityOf l D cA ax σ (xs (i + 1)) _ rfl) (x_cwV X kwX7_priorityOf mk2_112 rfl rfl ⟨Nat.le_of_ble_eq_true rfl, Nat.le_of_ble_eq_true rfl⟩) (fun _ _ h => va_Pl h.1) 0 (wX_at0 ax cA σ) rfl rfl rfl (Nat.le_of_ble_eq_true rfl) dL_law_347 ⟨Nat.le_of_ble_eq_true rfl, Nat.le_of_ble_eq_true rfl⟩) ?_
  refine xj_aload_n X 2 dL_law_350 rfl rfl ?_
  refine xj_aload_n X 0 dL_law_351 rfl rfl ?_
  refine xj_iload_n X 3 dL_law_352 rfl rfl ?_
  refine xj_iconst (x := (1 : Int32)) X dL_law_353 rfl ?_
  refine xj_iadd X dL_law_354 ?_
  refine xl_sld X hX hbl v1 (xs (i + 1)) e1 dL_law_355 ?_
  refine xj_roI (r := fX7_priorityOf σ (xs (i + 1))) (rest := [.int (fX7_priorityOf σ (xs (i + 1)))]) (fun _ h => h) (x_runV X (ctX8_priorityOf l D cA am τ (xs (i + 1)) _ hm) (x_cwV X kwX8_priorityOf mk4_12 rfl rfl ⟨Nat.le_of_ble_eq_true rfl, Nat.le_of_ble_eq_true rfl⟩) (fun _ _ h => va_Pr h.1) 0 (wM_at0 am cA τ) rfl rfl rfl (Nat.le_of_ble_eq_true rfl) dL_law_356 ⟨Nat.le_of_ble_eq_true rfl, Nat.le_of_ble_eq_true rfl⟩) ?_
  refine xj_icmp_eq (P := true) (N := false) (r := true) (tgt := 875) X dL_law_359 rfl (if_pos rfl) (fun _ => ?_) (fun h9 => by cases h9)
  exact K σ τ h
set_option maxHeartbeats 4000000 in
set_option maxRecDepth 100000 in
theorem law_case_10 (X : x_C D cA code 4 R_law p s m #[Value.ref b] meth c) (hd : x_Dis s ax am) (hX : va_X b L xs s s.heap) (hbl : b < s.heap.size) (hL : L ≤ 1536) {i : Nat} (hi : i + 3 ≤ L) {σ τ : x_M} (h : Sim σ τ) (K : ∀ σ' τ' : x_M, Sim σ' τ' → x_LJ p l e s m below meth c D cA b ax am σ' τ' i 875 []) : x_LJ p l e s m below meth c D cA b ax am σ τ i 364 [] := by
  have v1 : vp_in (nI i + 1) L := by rw [nI_succ1]; exact vp_in_nI (by omega) (by omega)
  have e1 : xs (nI i + 1).toNatClampNeg = xs (i + 1) := by rw [nI_succ1, nI_clamp (by omega)]
  have v2 : vp_in (nI i + 2) L := by rw [show (2 : Int32) = nI 2 from rfl, nI_add]; exact vp_in_nI (by omega) (by omega)
  have e2 : xs (nI i + 2).toNatClampNeg = xs (i + 2) := by rw [show (2 : Int32) = nI 2 from rfl, nI_add, nI_clamp (by omega)]
  obtain ⟨r, σ', τ', hx, hm, hs⟩ := o_setIssuerCode h (xs (i + 1)) (xs (i + 2))
  refine xj_aload_n X 1 dL_law_364 rfl rfl ?_
  refine xj_aload_n X 0 dL_law_365 rfl rfl ?_
  refine xj_iload_n X 3 dL_law_366 rfl rfl ?_
  refine xj_iconst (x := (1 : Int32)) X dL_law_367 rfl ?_
  refine xj_iadd X dL_law_368 ?_
  refine xl_sld X hX hbl v1 (xs (i + 1)) e1 dL_law_369 ?_
  refine xj_aload_n X 0 dL_law_370 rfl rfl ?_
  refine xj_iload_n X 3 dL_law_371 rfl rfl ?_
  refine xj_iconst (x := (2 : Int32)) X dL_law_372 rfl ?_
  refine xj_iadd X dL_law_373 ?_
  refine xl_sld X hX hbl v2 (xs (i + 2)) e2 dL_law_374 ?_
  refine xj_wrI (r := r) (rest := []) (x_runV X (ctX7_setIssuerCode l D cA hd.1 σ (xs (i + 1)) (xs (i + 2)) r σ' hx) (x_cwV X kwX7_setIssuerCode mk2_124 rfl rfl ⟨Nat.le_of_ble_eq_true rfl, Nat.le_of_ble_eq_true rfl⟩) (fun _ _ h => va_Pl h.1) 0 (wX_at0 ax cA σ) rfl rfl rfl (Nat.le_of_ble_eq_true rfl) dL_law_375 ⟨Nat.le_of_ble_eq_true rfl, Nat.le_of_ble_eq_true rfl⟩) (x_joinX hd) (x_hAX hd) ?_
  refine xj_aload_n X 2 dL_law_378 rfl rfl ?_
  refine xj_aload_n X 0 dL_law_379 rfl rfl ?_
  refine xj_iload_n X 3 dL_law_380 rfl rfl ?_
  refine xj_iconst (x := (1 : Int32)) X dL_law_381 rfl ?_
  refine xj_iadd X dL_law_382 ?_
  refine xl_sld X hX hbl v1 (xs (i + 1)) e1 dL_law_383 ?_
  refine xj_aload_n X 0 dL_law_384 rfl rfl ?_
  refine xj_iload_n X 3 dL_law_385 rfl rfl ?_
  refine xj_iconst (x := (2 : Int32)) X dL_law_386 rfl ?_
  refine xj_iadd X dL_law_387 ?_
  refine xl_sld X hX hbl v2 (xs (i + 2)) e2 dL_law_388 ?_
  refine xj_wrI (r := r) (rest := [.int (r)]) (x_runV X (ctX8_setIssuerCode l D cA hd.2.1 τ (xs (i + 1)) (xs (i + 2)) r τ' hm) (x_cwV X kwX8_setIssuerCode mk4_20 rfl rfl ⟨Nat.le_of_ble_eq_true rfl, Nat.le_of_ble_eq_true rfl⟩) (fun _ _ h => va_Pr h.1) 0 (wM_at0 am cA τ) rfl rfl rfl (Nat.le_of_ble_eq_true rfl) dL_law_389 ⟨Nat.le_of_ble_eq_true rfl, Nat.le_of_ble_eq_true rfl⟩) (x_joinM hd) (x_hAM hd) ?_
  refine xj_icmp_eq (P := true) (N := false) (r := true) (tgt := 875) X dL_law_392 rfl (if_pos rfl) (fun _ => ?_) (fun h9 => by cases h9)
  exact K σ' τ' hs
set_option maxHeartbeats 4000000 in
set_option maxRecDepth 100000 in
theorem law_case_11 (X : x_C D cA code 4 R_law p s m #[Value.ref b] meth c) (hd : x_Dis s ax am) (hX : va_X b L xs s s.heap) (hbl : b < s.heap.size) (hL : L ≤ 1536) {i : Nat} (hi : i + 3 ≤ L) {σ τ : x_M} (h : Sim σ τ) (K : ∀ σ' τ' : x_M, Sim σ' τ' → x_LJ p l e s m below meth c D cA b ax am σ' τ' i 875 []) : x_LJ p l e s m below meth c D cA b ax am σ τ i 397 [] := by
  have v1 : vp_in (nI i + 1) L := by rw [nI_succ1]; exact vp_in_nI (by omega) (by omega)
  have e1 : xs (nI i + 1).toNatClampNeg = xs (i + 1) := by rw [nI_succ1, nI_clamp (by omega)]
  by_cases z : xs (i + 1) = 0
  · obtain ⟨r, σ', τ', hx, hm, hs⟩ := o_addIdentifier h false
    refine xj_aload_n X 1 dL_law_397 rfl rfl ?_
    refine xj_aload_n X 0 dL_law_398 rfl rfl ?_
    refine xj_iload_n X 3 dL_law_399 rfl rfl ?_
    refine xj_iconst (x := (1 : Int32)) X dL_law_400 rfl ?_
    refine xj_iadd X dL_law_401 ?_
    refine xl_sld X hX hbl v1 (xs (i + 1)) e1 dL_law_402 ?_
    refine xj_if_eq (P := true) (N := false) (r := true) (tgt := 410) X dL_law_403 rfl (if_pos z) (fun _ => ?_) (fun h9 => by cases h9)
    refine xj_iconst (x := (0 : Int32)) X dL_law_410 rfl ?_
    refine xj_wrI (r := r) (rest := []) (x_runV X (ctX7_addIdentifier l D cA hd.1 σ false r σ' hx) (x_cwV X kwX7_addIdentifier mk2_132 rfl rfl ⟨Nat.le_of_ble_eq_true rfl, Nat.le_of_ble_eq_true rfl⟩) (fun _ _ h => va_Pl h.1) 0 (wX_at0 ax cA σ) rfl rfl rfl (Nat.le_of_ble_eq_true rfl) dL_law_411 ⟨Nat.le_of_ble_eq_true rfl, Nat.le_of_ble_eq_true rfl⟩) (x_joinX hd) (x_hAX hd) ?_
    refine xj_aload_n X 2 dL_law_414 rfl rfl ?_
    refine xj_aload_n X 0 dL_law_415 rfl rfl ?_
    refine xj_iload_n X 3 dL_law_416 rfl rfl ?_
    refine xj_iconst (x := (1 : Int32)) X dL_law_417 rfl ?_
    refine xj_iadd X dL_law_418 ?_
    refine xl_sld X hX hbl v1 (xs (i + 1)) e1 dL_law_419 ?_
    refine xj_if_eq (P := true) (N := false) (r := true) (tgt := 427) X dL_law_420 rfl (if_pos z) (fun _ => ?_) (fun h9 => by cases h9)
    refine xj_iconst (x := (0 : Int32)) X dL_law_427 rfl ?_
    refine xj_wrI (r := r) (rest := [.int (r)]) (x_runV X (ctX8_addIdentifier l D cA hd.2.1 τ false r τ' hm) (x_cwV X kwX8_addIdentifier mk4_24 rfl rfl ⟨Nat.le_of_ble_eq_true rfl, Nat.le_of_ble_eq_true rfl⟩) (fun _ _ h => va_Pr h.1) 0 (wM_at0 am cA τ) rfl rfl rfl (Nat.le_of_ble_eq_true rfl) dL_law_428 ⟨Nat.le_of_ble_eq_true rfl, Nat.le_of_ble_eq_true rfl⟩) (x_joinM hd) (x_hAM hd) ?_
    refine xj_icmp_eq (P := true) (N := false) (r := true) (tgt := 875) X dL_law_431 rfl (if_pos rfl) (fun _ => ?_) (fun h9 => by cases h9)
    exact K σ' τ' hs
  · obtain ⟨r, σ', τ', hx, hm, hs⟩ := o_addIdentifier h true
    refine xj_aload_n X 1 dL_law_397 rfl rfl ?_
    refine xj_aload_n X 0 dL_law_398 rfl rfl ?_
    refine xj_iload_n X 3 dL_law_399 rfl rfl ?_
    refine xj_iconst (x := (1 : Int32)) X dL_law_400 rfl ?_
    refine xj_iadd X dL_law_401 ?_
    refine xl_sld X hX hbl v1 (xs (i + 1)) e1 dL_law_402 ?_
    refine xj_if_eq (P := true) (N := false) (r := false) (tgt := 410) X dL_law_403 rfl (if_neg z) (fun h9 => by cases h9) (fun _ => ?_)
    refine xj_iconst (x := (1 : Int32)) X dL_law_406 rfl ?_
    refine xj_goto (tgt := 411) X dL_law_407 rfl ?_
    refine xj_wrI (r := r) (rest := []) (x_runV X (ctX7_addIdentifier l D cA hd.1 σ true r σ' hx) (x_cwV X kwX7_addIdentifier mk2_132 rfl rfl ⟨Nat.le_of_ble_eq_true rfl, Nat.le_of_ble_eq_true rfl⟩) (fun _ _ h => va_Pl h.1) 0 (wX_at0 ax cA σ) rfl rfl rfl (Nat.le_of_ble_eq_true rfl) dL_law_411 ⟨Nat.le_of_ble_eq_true rfl, Nat.le_of_ble_eq_true rfl⟩) (x_joinX hd) (x_hAX hd) ?_
    refine xj_aload_n X 2 dL_law_414 rfl rfl ?_
    refine xj_aload_n X 0 dL_law_415 rfl rfl ?_
    refine xj_iload_n X 3 dL_law_416 rfl rfl ?_
    refine xj_iconst (x := (1 : Int32)) X dL_law_417 rfl ?_
    refine xj_iadd X dL_law_418 ?_
    refine xl_sld X hX hbl v1 (xs (i + 1)) e1 dL_law_419 ?_
    refine xj_if_eq (P := true) (N := false) (r := false) (tgt := 427) X dL_law_420 rfl (if_neg z) (fun h9 => by cases h9) (fun _ => ?_)
    refine xj_iconst (x := (1 : Int32)) X dL_law_423 rfl ?_
    refine xj_goto (tgt := 428) X dL_law_424 rfl ?_
    refine xj_wrI (r := r) (rest := [.int (r)]) (x_runV X (ctX8_addIdentifier l D cA hd.2.1 τ true r τ' hm) (x_cwV X kwX8_addIdentifier mk4_24 rfl rfl ⟨Nat.le_of_ble_eq_true rfl, Nat.le_of_ble_eq_true rfl⟩) (fun _ _ h => va_Pr h.1) 0 (wM_at0 am cA τ) rfl rfl rfl (Nat.le_of_ble_eq_true rfl) dL_law_428 ⟨Nat.le_of_ble_eq_true rfl, Nat.le_of_ble_eq_true rfl⟩) (x_joinM hd) (x_hAM hd) ?_
    refine xj_icmp_eq (P := true) (N := false) (r := true) (tgt := 875) X dL_law_431 rfl (if_pos rfl) (fun _ => ?_) (fun h9 => by cases h9)
    exact K σ' τ' hs
set_option maxHeartbeats 4000000 in
set_option maxRecDepth 100000 in
theorem law_case_12 (X : x_C D cA code 4 R_law p s m #[Value.ref b] meth c) (hd : x_Dis s ax am) (hX : va_X b L xs s s.heap) (hbl : b < s.heap.size) (hL : L ≤ 1536) {i : Nat} (hi : i + 3 ≤ L) {σ τ : x_M} (h : Sim σ τ) (K : ∀ σ' τ' : x_M, Sim σ' τ' → x_LJ p l e s m below meth c D cA b ax am σ' τ' i 875 []) : x_LJ p l e s m below meth c D cA b ax am σ τ i 436 [] := by
  have v1 : vp_in (nI i + 1) L := by rw [nI_succ1]; exact vp_in_nI (by omega) (by omega)
  have e1 : xs (nI i + 1).toNatClampNeg = xs (i + 1) := by rw [nI_succ1, nI_clamp (by omega)]
  obtain ⟨r, σ', τ', hx, hm, hs⟩ := o_removeIdentifier h (xs (i + 1))
  refine xj_aload_n X 1 dL_law_436 rfl rfl ?_
  refine xj_aload_n X 0 dL_law_437 rfl rfl ?_
  refine xj_iload_n X 3 dL_law_438 rfl rfl ?_
  refine xj_iconst (x := (1 : Int32)) X dL_law_439 rfl ?_
  refine xj_iadd X dL_law_440 ?_
  refine xl_sld X hX hbl v1 (xs (i + 1)) e1 dL_law_441 ?_
  refine xj_wrI (r := r) (rest := []) (x_runV X (ctX7_removeIdentifier l D cA hd.1 σ (xs (i + 1)) r σ' hx) (x_cwV X kwX7_removeIdentifier mk2_142 rfl rfl ⟨Nat.le_of_ble_eq_true rfl, Nat.le_of_ble_eq_true rfl⟩) (fun _ _ h => va_Pl h.1) 0 (wX_at0 ax cA σ) rfl rfl rfl (Nat.le_of_ble_eq_true rfl) dL_law_442 ⟨Nat.le_of_ble_eq_true rfl, Nat.le_of_ble_eq_true rfl⟩) (x_joinX hd) (x_hAX hd) ?_
  refine xj_aload_n X 2 dL_law_445 rfl rfl ?_
  refine xj_aload_n X 0 dL_law_446 rfl rfl ?_
  refine xj_iload_n X 3 dL_law_447 rfl rfl ?_
  refine xj_iconst (x := (1 : Int32)) X dL_law_448 rfl ?_
  refine xj_iadd X dL_law_449 ?_
  refine xl_sld X hX hbl v1 (xs (i + 1)) e1 dL_law_450 ?_
  refine xj_wrI (r := r) (rest := [.int (r)]) (x_runV X (ctX8_removeIdentifier l D cA hd.2.1 τ (xs (i + 1)) r τ' hm) (x_cwV X kwX8_removeIdentifier mk4_28 rfl rfl ⟨Nat.le_of_ble_eq_true rfl, Nat.le_of_ble_eq_true rfl⟩) (fun _ _ h => va_Pr h.1) 0 (wM_at0 am cA τ) rfl rfl rfl (Nat.le_of_ble_eq_true rfl) dL_law_451 ⟨Nat.le_of_ble_eq_true rfl, Nat.le_of_ble_eq_true rfl⟩) (x_joinM hd) (x_hAM hd) ?_
  refine xj_icmp_eq (P := true) (N := false) (r := true) (tgt := 875) X dL_law_454 rfl (if_pos rfl) (fun _ => ?_) (fun h9 => by cases h9)
  exact K σ' τ' hs
set_option maxHeartbeats 4000000 in
set_option maxRecDepth 100000 in
theorem law_case_13 (X : x_C D cA code 4 R_law p s m #[Value.ref b] meth c) (hd : x_Dis s ax am) (hX : va_X b L xs s s.heap) (hbl : b < s.heap.size) (hL : L ≤ 1536) {i : Nat} (hi : i + 3 ≤ L) {σ τ : x_M} (h : Sim σ τ) (K : ∀ σ' τ' : x_M, Sim σ' τ' → x_LJ p l e s m below meth c D cA b ax am σ' τ' i 875 []) : x_LJ p l e s m below meth c D cA b ax am σ τ i 459 [] := by
  have v1 : vp_in (nI i + 1) L := by rw [nI_succ1]; exact vp_in_nI (by omega) (by omega)
  have e1 : xs (nI i + 1).toNatClampNeg = xs (i + 1) := by rw [nI_succ1, nI_clamp (by omega)]
  have v2 : vp_in (nI i + 2) L := by rw [show (2 : Int32) = nI 2 from rfl, nI_add]; exact vp_in_nI (by omega) (by omega)
  have e2 : xs (nI i + 2).toNatClampNeg = xs (i + 2) := by rw [show (2 : Int32) = nI 2 from rfl, nI_add, nI_clamp (by omega)]
  obtain ⟨r, σ', τ', hx, hm, hs⟩ := o_setTerminalCode h (xs (i + 1)) (xs (i + 2))
  refine xj_aload_n X 1 dL_law_459 rfl rfl ?_
  refine xj_aload_n X 0 dL_law_460 rfl rfl ?_
  refine xj_iload_n X 3 dL_law_461 rfl rfl ?_
  refine xj_iconst (x := (1 : Int32)) X dL_law_462 rfl ?_
  refine xj_iadd X dL_law_463 ?_
  refine xl_sld X hX hbl v1 (xs (i + 1)) e1 dL_law_464 ?_
  refine xj_aload_n X 0 dL_law_465 rfl rfl ?_
  refine xj_iload_n X 3 dL_law_466 rfl rfl ?_
  refine xj_iconst (x := (2 : Int32)) X dL_law_467 rfl ?_
  refine xj_iadd X dL_law_468 ?_
  refine xl_sld X hX hbl v2 (xs (i + 2)) e2 dL_law_469 ?_
  refine xj_wrI (r := r) (rest := []) (x_runV X (ctX7_setTerminalCode l D cA hd.1 σ (xs (i + 1)) (xs (i + 2)) r σ' hx) (x_cwV X kwX7_setTerminalCode mk2_163 rfl rfl ⟨Nat.le_of_ble_eq_true rfl, Nat.le_of_ble_eq_true rfl⟩) (fun _ _ h => va_Pl h.1) 0 (wX_at0 ax cA σ) rfl rfl rfl (Nat.le_of_ble_eq_true rfl) dL_law_470 ⟨Nat.le_of_ble_eq_true rfl, Nat.le_of_ble_eq_true rfl⟩) (x_joinX hd) (x_hAX hd) ?_
  refine xj_aload_n X 2 dL_law_473 rfl rfl ?_
  refine xj_aload_n X 0 dL_law_474 rfl rfl ?_
  refine xj_iload_n X 3 dL_law_475 rfl rfl ?_
  refine xj_iconst (x := (1 : Int32)) X dL_law_476 rfl ?_
  refine xj_iadd X dL_law_477 ?_
  refine xl_sld X hX hbl v1 (xs (i + 1)) e1 dL_law_478 ?_
  refine xj_aload_n X 0 dL_law_479 rfl rfl ?_
  refine xj_iload_n X 3 dL_law_480 rfl rfl ?_
  refine xj_iconst (x := (2 : Int32)) X dL_law_481 rfl ?_
  refine xj_iadd X dL_law_482 ?_
  refine xl_sld X hX hbl v2 (xs (i + 2)) e2 dL_law_483 ?_
  refine xj_wrI (r := r) (rest := [.int (r)]) (x_runV X (ctX8_setTerminalCode l D cA hd.2.1 τ (xs (i + 1)) (xs (i + 2)) r τ' hm) (x_cwV X kwX8_setTerminalCode mk4_32 rfl rfl ⟨Nat.le_of_ble_eq_true rfl, Nat.le_of_ble_eq_true rfl⟩) (fun _ _ h => va_Pr h.1) 0 (wM_at0 am cA τ) rfl rfl rfl (Nat.le_of_ble_eq_true rfl) dL_law_484 ⟨Nat.le_of_ble_eq_true rfl, Nat.le_of_ble_eq_true rfl⟩) (x_joinM hd) (x_hAM hd) ?_
  refine xj_icmp_eq (P := true) (N := false) (r := true) (tgt := 875) X dL_law_487 rfl (if_pos rfl) (fun _ => ?_) (fun h9 => by cases h9)
  exact K σ' τ' hs
set_option maxHeartbeats 4000000 in
set_option maxRecDepth 100000 in
theorem law_case_14 (X : x_C D cA code 4 R_law p s m #[Value.ref b] meth c) (hd : x_Dis s ax am) (hX : va_X b L xs s s.heap) (hbl : b < s.heap.size) (hL : L ≤ 1536) {i : Nat} (hi : i + 3 ≤ L) {σ τ : x_M} (h : Sim σ τ) (K : ∀ σ' τ' : x_M, Sim σ' τ' → x_LJ p l e s m below meth c D cA b ax am σ' τ' i 875 []) : x_LJ p l e s m below meth c D cA b ax am σ τ i 492 [] := by
  have v1 : vp_in (nI i + 1) L := by rw [nI_succ1]; exact vp_in_nI (by omega) (by omega)
  have e1 : xs (nI i + 1).toNatClampNeg = xs (i + 1) := by rw [nI_succ1, nI_clamp (by omega)]
  obtain ⟨r, σ', τ', hx, hm, hs⟩ := o_setFloorLimit h (xs (i + 1))
  refine xj_aload_n X 1 dL_law_492 rfl rfl ?_
  refine xj_aload_n X 0 dL_law_493 rfl rfl ?_
  refine xj_iload_n X 3 dL_law_494 rfl rfl ?_
  refine xj_iconst (x := (1 : Int32)) X dL_law_495 rfl ?_
  refine xj_iadd X dL_law_496 ?_
  refine xl_sld X hX hbl v1 (xs (i + 1)) e1 dL_law_497 ?_
  refine xj_wrI (r := r) (rest := []) (x_runV X (ctX7_setFloorLimit l D cA hd.1 σ (xs (i + 1)) r σ' hx) (x_cwV X kwX7_setFloorLimit mk2_167 rfl rfl ⟨Nat.le_of_ble_eq_true rfl, Nat.le_of_ble_eq_true rfl⟩) (fun _ _ h => va_Pl h.1) 0 (wX_at0 ax cA σ) rfl rfl rfl (Nat.le_of_ble_eq_true rfl) dL_law_498 ⟨Nat.le_of_ble_eq_true rfl, Nat.le_of_ble_eq_true rfl⟩) (x_joinX hd) (x_hAX hd) ?_
  refine xj_aload_n X 2 dL_law_501 rfl rfl ?_
  refine xj_aload_n X 0 dL_law_502 rfl rfl ?_
  refine xj_iload_n X 3 dL_law_503 rfl rfl ?_
  refine xj_iconst (x := (1 : Int32)) X dL_law_504 rfl ?_
  refine xj_iadd X dL_law_505 ?_
  refine xl_sld X hX hbl v1 (xs (i + 1)) e1 dL_law_506 ?_
  refine xj_wrI (r := r) (rest := [.int (r)]) (x_runV X (ctX8_setFloorLimit l D cA hd.2.1 τ (xs (i + 1)) r τ' hm) (x_cwV X kwX8_setFloorLimit mk4_36 rfl rfl ⟨Nat.le_of_ble_eq_true rfl, Nat.le_of_ble_eq_true rfl⟩) (fun _ _ h => va_Pr h.1) 0 (wM_at0 am cA τ) rfl rfl rfl (Nat.le_of_ble_eq_true rfl) dL_law_507 ⟨Nat.le_of_ble_eq_true rfl, Nat.le_of_ble_eq_true rfl⟩) (x_joinM hd) (x_hAM hd) ?_
  refine xj_icmp_eq (P := true) (N := false) (r := true) (tgt := 875) X dL_law_510 rfl (if_pos rfl) (fun _ => ?_) (fun h9 => by cases h9)
  exact K σ' τ' hs
set_option maxHeartbeats 4000000 in
set_option maxRecDepth 100000 in
theorem law_case_15 (X : x_C D cA code 4 R_law p s m #[Value.ref b] meth c) (hd : x_Dis s ax am) (hX : va_X b L xs s s.heap) (hbl : b < s.heap.size) (hL : L ≤ 1536) {i : Nat} (hi : i + 3 ≤ L) {σ τ : x_M} (h : Sim σ τ) (K : ∀ σ' τ' : x_M, Sim σ' τ' → x_LJ p l e s m below meth c D cA b ax am σ' τ' i 875 []) : x_LJ p l e s m below meth c D cA b ax am σ τ i 515 [] := by
  have v1 : vp_in (nI i + 1) L := by rw [nI_succ1]; exact vp_in_nI (by omega) (by omega)
  have e1 : xs (nI i + 1).toNatClampNeg = xs (i + 1) := by rw [nI_succ1, nI_clamp (by omega)]
  have v2 : vp_in (nI i + 2) L := by rw [show (2 : Int32) = nI 2 from rfl, nI_add]; exact vp_in_nI (by omega) (by omega)
  have e2 : xs (nI i + 2).toNatClampNeg = xs (i + 2) := by rw [show (2 : Int32) = nI 2 from rfl, nI_add, nI_clamp (by omega)]
  obtain ⟨r, σ', τ', hx, hm, hs⟩ := o_setOfflineLimits h (xs (i + 1)) (xs (i + 2))
  refine xj_aload_n X 1 dL_law_515 rfl rfl ?_
  refine xj_aload_n X 0 dL_law_516 rfl rfl ?_
  refine xj_iload_n X 3 dL_law_517 rfl rfl ?_
  refine xj_iconst (x := (1 : Int32)) X dL_law_518 rfl ?_
  refine xj_iadd X dL_law_519 ?_
  refine xl_sld X hX hbl v1 (xs (i + 1)) e1 dL_law_520 ?_
  refine xj_aload_n X 0 dL_law_521 rfl rfl ?_
  refine xj_iload_n X 3 dL_law_522 rfl rfl ?_
  refine xj_iconst (x := (2 : Int32)) X dL_law_523 rfl ?_
  refine xj_iadd X dL_law_524 ?_
  refine xl_sld X hX hbl v2 (xs (i + 2)) e2 dL_law_525 ?_
  refine xj_wrI (r := r) (rest := []) (x_runV X (ctX7_setOfflineLimits l D cA hd.1 σ (xs (i + 1)) (xs (i + 2)) r σ' hx) (x_cwV X kwX7_setOfflineLimits mk2_172 rfl rfl ⟨Nat.le_of_ble_eq_true rfl, Nat.le_of_ble_eq_true rfl⟩) (fun _ _ h => va_Pl h.1) 0 (wX_at0 ax cA σ) rfl rfl rfl (Nat.le_of_ble_eq_true rfl) dL_law_526 ⟨Nat.le_of_ble_eq_true rfl, Nat.le_of_ble_eq_true rfl⟩) (x_joinX hd) (x_hAX hd) ?_
  refine xj_aload_n X 2 dL_law_529 rfl rfl ?_
  refine xj_aload_n X 0 dL_law_530 rfl rfl ?_
  refine xj_iload_n X 3 dL_law_531 rfl rfl ?_
  refine xj_iconst (x := (1 : Int32)) X dL_law_532 rfl ?_
  refine xj_iadd X dL_law_533 ?_
  refine xl_sld X hX hbl v1 (xs (i + 1)) e1 dL_law_534 ?_
  refine xj_aload_n X 0 dL_law_535 rfl rfl ?_
  refine xj_iload_n X 3 dL_law_536 rfl rfl ?_
  refine xj_iconst (x := (2 : Int32)) X dL_law_537 rfl ?_
  refine xj_iadd X dL_law_538 ?_
  refine xl_sld X hX hbl v2 (xs (i + 2)) e2 dL_law_539 ?_
  refine xj_wrI (r := r) (rest := [.int (r)]) (x_runV X (ctX8_setOfflineLimits l D cA hd.2.1 τ (xs (i + 1)) (xs (i + 2)) r τ' hm) (x_cwV X kwX8_setOfflineLimits mk4_41 rfl rfl ⟨Nat.le_of_ble_eq_true rfl, Nat.le_of_ble_eq_true rfl⟩) (fun _ _ h => va_Pr h.1) 0 (wM_at0 am cA τ) rfl rfl rfl (Nat.le_of_ble_eq_true rfl) dL_law_540 ⟨Nat.le_of_ble_eq_true rfl, Nat.le_of_ble_eq_true rfl⟩) (x_joinM hd) (x_hAM hd) ?_
  refine xj_icmp_eq (P := true) (N := false) (r := true) (tgt := 875) X dL_law_543 rfl (if_pos rfl) (fun _ => ?_) (fun h9 => by cases h9)
  exact K σ' τ' hs
set_option maxHeartbeats 4000000 in
set_option maxRecDepth 100000 in
theorem law_case_16 (X : x_C D cA code 4 R_law p s m #[Value.ref b] meth c) (hd : x_Dis s ax am) (hX : va_X b L xs s s.heap) (hbl : b < s.heap.size) (hL : L ≤ 1536) {i : Nat} (hi : i + 3 ≤ L) {σ τ : x_M} (h : Sim σ τ) (K : ∀ σ' τ' : x_M, Sim σ' τ' → x_LJ p l e s m below meth c D cA b ax am σ' τ' i 875 []) : x_LJ p l e s m below meth c D cA b ax am σ τ i 548 [] := by
  have v1 : vp_in (nI i + 1) L := by rw [nI_succ1]; exact vp_in_nI (by omega) (by omega)
  have e1 : xs (nI i + 1).toNatClampNeg = xs (i + 1) := by rw [nI_succ1, nI_clamp (by omega)]
  obtain ⟨r, σ', τ', hx, hm, hs⟩ := o_setRandomTarget h (xs (i + 1))
  refine xj_aload_n X 1 dL_law_548 rfl rfl ?_
  refine xj_aload_n X 0 dL_law_549 rfl rfl ?_
  refine xj_iload_n X 3 dL_law_550 rfl rfl ?_
  refine xj_iconst (x := (1 : Int32)) X dL_law_551 rfl ?_
  refine xj_iadd X dL_law_552 ?_
  refine xl_sld X hX hbl v1 (xs (i + 1)) e1 dL_law_553 ?_
  refine xj_wrI (r := r) (rest := []) (x_runV X (ctX7_setRandomTarget l D cA hd.1 σ (xs (i + 1)) r σ' hx) (x_cwV X kwX7_setRandomTarget mk2_176 rfl rfl ⟨Nat.le_of_ble_eq_true rfl, Nat.le_of_ble_eq_true rfl⟩) (fun _ _ h => va_Pl h.1) 0 (wX_at0 ax cA σ) rfl rfl rfl (Nat.le_of_ble_eq_true rfl) dL_law_554 ⟨Nat.le_of_ble_eq_true rfl, Nat.le_of_ble_eq_true rfl⟩) (x_joinX hd) (x_hAX hd) ?_
  refine xj_aload_n X 2 dL_law_557 rfl rfl ?_
  refine xj_aload_n X 0 dL_law_558 rfl rfl ?_
  refine xj_iload_n X 3 dL_law_559 rfl rfl ?_
  refine xj_iconst (x := (1 : Int32)) X dL_law_560 rfl ?_
  refine xj_iadd X dL_law_561 ?_
  refine xl_sld X hX hbl v1 (xs (i + 1)) e1 dL_law_562 ?_
  refine xj_wrI (r := r) (rest := [.int (r)]) (x_runV X (ctX8_setRandomTarget l D cA hd.2.1 τ (xs (i + 1)) r τ' hm) (x_cwV X kwX8_setRandomTarget mk4_45 rfl rfl ⟨Nat.le_of_ble_eq_true rfl, Nat.le_of_ble_eq_true rfl⟩) (fun _ _ h => va_Pr h.1) 0 (wM_at0 am cA τ) rfl rfl rfl (Nat.le_of_ble_eq_true rfl) dL_law_563 ⟨Nat.le_of_ble_eq_true rfl, Nat.le_of_ble_eq_true rfl⟩) (x_joinM hd) (x_hAM hd) ?_
  refine xj_icmp_eq (P := true) (N := false) (r := true) (tgt := 875) X dL_law_566 rfl (if_pos rfl) (fun _ => ?_) (fun h9 => by cases h9)
  exact K σ' τ' hs
set_option maxHeartbeats 4000000 in
set_option maxRecDepth 100000 in
theorem law_case_17 (X : x_C D cA code 4 R_law p s m #[Value.ref b] meth c) (hd : x_Dis s ax am) (hX : va_X b L xs s s.heap) (hbl : b < s.heap.size) (hL : L ≤ 1536) {i : Nat} (hi : i + 3 ≤ L) {σ τ : x_M} (h : Sim σ τ) (K : ∀ σ' τ' : x_M, Sim σ' τ' → x_LJ p l e s m below meth c D cA b ax am σ' τ' i 875 []) : x_LJ p l e s m below meth c D cA b ax am σ τ i 571 [] := by
  have v1 : vp_in (nI i + 1) L := by rw [nI_succ1]; exact vp_in_nI (by omega) (by omega)
  have e1 : xs (nI i + 1).toNatClampNeg = xs (i + 1) := by rw [nI_succ1, nI_clamp (by omega)]
  by_cases z : xs (i + 1) = 0
  · obtain ⟨r, σ', τ', hx, hm, hs⟩ := o_setOnline h false
    refine xj_aload_n X 1 dL_law_571 rfl rfl ?_
    refine xj_aload_n X 0 dL_law_572 rfl rfl ?_
    refine xj_iload_n X 3 dL_law_573 rfl rfl ?_
    refine xj_iconst (x := (1 : Int32)) X dL_law_574 rfl ?_
    refine xj_iadd X dL_law_575 ?_
    refine xl_sld X hX hbl v1 (xs (i + 1)) e1 dL_law_576 ?_
    refine xj_if_eq (P := true) (N := false) (r := true) (tgt := 584) X dL_law_577 rfl (if_pos z) (fun _ => ?_) (fun h9 => by cases h9)
    refine xj_iconst (x := (0 : Int32)) X dL_law_584 rfl ?_
    refine xj_wrI (r := r) (rest := []) (x_runV X (ctX7_setOnline l D cA hd.1 σ false r σ' hx) (x_cwV X kwX7_setOnline mk2_180 rfl rfl ⟨Nat.le_of_ble_eq_true rfl, Nat.le_of_ble_eq_true rfl⟩) (fun _ _ h => va_Pl h.1) 0 (wX_at0 ax cA σ) rfl rfl rfl (Nat.le_of_ble_eq_true rfl) dL_law_585 ⟨Nat.le_of_ble_eq_true rfl, Nat.le_of_ble_eq_true rfl⟩) (x_joinX hd) (x_hAX hd) ?_
    refine xj_aload_n X 2 dL_law_588 rfl rfl ?_
    refine xj_aload_n X 0 dL_law_589 rfl rfl ?_
    refine xj_iload_n X 3 dL_law_590 rfl rfl ?_
    refine xj_iconst (x := (1 : Int32)) X dL_law_591 rfl ?_
    refine xj_iadd X dL_law_592 ?_
    refine xl_sld X hX hbl v1 (xs (i + 1)) e1 dL_law_593 ?_
    refine xj_if_eq (P := true) (N := false) (r := true) (tgt := 601) X dL_law_594 rfl (if_pos z) (fun _ => ?_) (fun h9 => by cases h9)
    refine xj_iconst (x := (0 : Int32)) X dL_law_601 rfl ?_
    refine xj_wrI (r := r) (rest := [.int (r)]) (x_runV X (ctX8_setOnline l D cA hd.2.1 τ false r τ' hm) (x_cwV X kwX8_setOnline mk4_49 rfl rfl ⟨Nat.le_of_ble_eq_true rfl, Nat.le_of_ble_eq_true rfl⟩) (fun _ _ h => va_Pr h.1) 0 (wM_at0 am cA τ) rfl rfl rfl (Nat.le_of_ble_eq_true rfl) dL_law_602 ⟨Nat.le_of_ble_eq_true rfl, Nat.le_of_ble_eq_true rfl⟩) (x_joinM hd) (x_hAM hd) ?_
    refine xj_icmp_eq (P := true) (N := false) (r := true) (tgt := 875) X dL_law_605 rfl (if_pos rfl) (fun _ => ?_) (fun h9 => by cases h9)
    exact K σ' τ' hs
  · obtain ⟨r, σ', τ', hx, hm, hs⟩ := o_setOnline h true
    refine xj_aload_n X 1 dL_law_571 rfl rfl ?_
    refine xj_aload_n X 0 dL_law_572 rfl rfl ?_
    refine xj_iload_n X 3 dL_law_573 rfl rfl ?_
    refine xj_iconst (x := (1 : Int32)) X dL_law_574 rfl ?_
    refine xj_iadd X dL_law_575 ?_
    refine xl_sld X hX hbl v1 (xs (i + 1)) e1 dL_law_576 ?_
    refine xj_if_eq (P := true) (N := false) (r := false) (tgt := 584) X dL_law_577 rfl (if_neg z) (fun h9 => by cases h9) (fun _ => ?_)
    refine xj_iconst (x := (1 : Int32)) X dL_law_580 rfl ?_
    refine xj_goto (tgt := 585) X dL_law_581 rfl ?_
    refine xj_wrI (r := r) (rest := []) (x_runV X (ctX7_setOnline l D cA hd.1 σ true r σ' hx) (x_cwV X kwX7_setOnline mk2_180 rfl rfl ⟨Nat.le_of_ble_eq_true rfl, Nat.le_of_ble_eq_true rfl⟩) (fun _ _ h => va_Pl h.1) 0 (wX_at0 ax cA σ) rfl rfl rfl (Nat.le_of_ble_eq_true rfl) dL_law_585 ⟨Nat.le_of_ble_eq_true rfl, Nat.le_of_ble_eq_true rfl⟩) (x_joinX hd) (x_hAX hd) ?_
    refine xj_aload_n X 2 dL_law_588 rfl rfl ?_
    refine xj_aload_n X 0 dL_law_589 rfl rfl ?_
    refine xj_iload_n X 3 dL_law_590 rfl rfl ?_
    refine xj_iconst (x := (1 : Int32)) X dL_law_591 rfl ?_
    refine xj_iadd X dL_law_592 ?_
    refine xl_sld X hX hbl v1 (xs (i + 1)) e1 dL_law_593 ?_
    refine xj_if_eq (P := true) (N := false) (r := false) (tgt := 601) X dL_law_594 rfl (if_neg z) (fun h9 => by cases h9) (fun _ => ?_)
    refine xj_iconst (x := (1 : Int32)) X dL_law_597 rfl ?_
    refine xj_goto (tgt := 602) X dL_law_598 rfl ?_
    refine xj_wrI (r := r) (rest := [.int (r)]) (x_runV X (ctX8_setOnline l D cA hd.2.1 τ true r τ' hm) (x_cwV X kwX8_setOnline mk4_49 rfl rfl ⟨Nat.le_of_ble_eq_true rfl, Nat.le_of_ble_eq_true rfl⟩) (fun _ _ h => va_Pr h.1) 0 (wM_at0 am cA τ) rfl rfl rfl (Nat.le_of_ble_eq_true rfl) dL_law_602 ⟨Nat.le_of_ble_eq_true rfl, Nat.le_of_ble_eq_true rfl⟩) (x_joinM hd) (x_hAM hd) ?_
    refine xj_icmp_eq (P := true) (N := false) (r := true) (tgt := 875) X dL_law_605 rfl (if_pos rfl) (fun _ => ?_) (fun h9 => by cases h9)
    exact K σ' τ' hs
set_option maxHeartbeats 4000000 in
set_option maxRecDepth 100000 in
theorem law_case_18 (X : x_C D cA code 4 R_law p s m #[Value.ref b] meth c) (hd : x_Dis s ax am) (hX : va_X b L xs s s.heap) (hbl : b < s.heap.size) (hL : L ≤ 1536) {i : Nat} (hi : i + 3 ≤ L) {σ τ : x_M} (h : Sim σ τ) (K : ∀ σ' τ' : x_M, Sim σ' τ' → x_LJ p l e s m below meth c D cA b ax am σ' τ' i 875 []) : x_LJ p l e s m below meth c D cA b ax am σ τ i 610 [] := by
  obtain ⟨r, τ', hx, hm, hs⟩ := o_candidateCount h
  refine xj_aload_n X 1 dL_law_610 rfl rfl ?_
  refine xj_roI (r := r) (rest := []) (fun _ h => h) (x_runV X (ctX7_candidateCount l D cA ax σ _ hx) (x_cwV X kwX7_candidateCount mk2_184 rfl rfl ⟨Nat.le_of_ble_eq_true rfl, Nat.le_of_ble_eq_true rfl⟩) (fun _ _ h => va_Pl h.1) 0 (wX_at0 ax cA σ) rfl rfl rfl (Nat.le_of_ble_eq_true rfl) dL_law_611 ⟨Nat.le_of_ble_eq_true rfl, Nat.le_of_ble_eq_true rfl⟩) ?_
  refine xj_aload_n X 2 dL_law_614 rfl rfl ?_
  refine xj_wrI (r := r) (rest := [.int (r)]) (x_runV X (ctX8_candidateCount l D cA hd.2.1 τ r τ' hm) (x_cwV X kwX8_candidateCount mk4_53 rfl rfl ⟨Nat.le_of_ble_eq_true rfl, Nat.le_of_ble_eq_true rfl⟩) (fun _ _ h => va_Pr h.1) 0 (wM_at0 am cA τ) rfl rfl rfl (Nat.le_of_ble_eq_true rfl) dL_law_615 ⟨Nat.le_of_ble_eq_true rfl, Nat.le_of_ble_eq_true rfl⟩) (x_joinM hd) (x_hAM hd) ?_
  refine xj_icmp_eq (P := true) (N := false) (r := true) (tgt := 875) X dL_law_618 rfl (if_pos rfl) (fun _ => ?_) (fun h9 => by cases h9)
  exact K σ τ' hs
set_option maxHeartbeats 4000000 in
set_option maxRecDepth 100000 in
theorem law_case_19 (X : x_C D cA code 4 R_law p s m #[Value.ref b] meth c) (hd : x_Dis s ax am) (hX : va_X b L xs s s.heap) (hbl : b < s.heap.size) (hL : L ≤ 1536) {i : Nat} (hi : i + 3 ≤ L) {σ τ : x_M} (h : Sim σ τ) (K : ∀ σ' τ' : x_M, Sim σ' τ' → x_LJ p l e s m below meth c D cA b ax am σ' τ' i 875 []) : x_LJ p l e s m below meth c D cA b ax am σ τ i 623 [] := by
  have v1 : vp_in (nI i + 1) L := by rw [nI_succ1]; exact vp_in_nI (by omega) (by omega)
  have e1 : xs (nI i + 1).toNatClampNeg = xs (i + 1) := by rw [nI_succ1, nI_clamp (by omega)]
  obtain ⟨r, τ', hx, hm, hs⟩ := o_candidateAt h (xs (i + 1))
  refine xj_aload_n X 1 dL_law_623 rfl rfl ?_
  refine xj_aload_n X 0 dL_law_624 rfl rfl ?_
  refine xj_iload_n X 3 dL_law_625 rfl rfl ?_
  refine xj_iconst (x := (1 : Int32)) X dL_law_626 rfl ?_
  refine xj_iadd X dL_law_627 ?_
  refine xl_sld X hX hbl v1 (xs (i + 1)) e1 dL_law_628 ?_
  refine xj_roI (r := r) (rest := []) (fun _ h => h) (x_runV X (ctX7_candidateAt l D cA ax σ (xs (i + 1)) _ hx) (x_cwV X kwX7_candidateAt mk2_204 rfl rfl ⟨Nat.le_of_ble_eq_true rfl, Nat.le_of_ble_eq_true rfl⟩) (fun _ _ h => va_Pl h.1) 0 (wX_at0 ax cA σ) rfl rfl rfl (Nat.le_of_ble_eq_true rfl) dL_law_629 ⟨Nat.le_of_ble_eq_true rfl, Nat.le_of_ble_eq_true rfl⟩) ?_
  refine xj_aload_n X 2 dL_law_632 rfl rfl ?_
  refine xj_aload_n X 0 dL_law_633 rfl rfl ?_
  refine xj_iload_n X 3 dL_law_634 rfl rfl ?_
  refine xj_iconst (x := (1 : Int32)) X dL_law_635 rfl ?_
  refine xj_iadd X dL_law_636 ?_
  refine xl_sld X hX hbl v1 (xs (i + 1)) e1 dL_law_637 ?_
  refine xj_wrI (r := r) (rest := [.int (r)]) (x_runV X (ctX8_candidateAt l D cA hd.2.1 τ (xs (i + 1)) r τ' hm) (x_cwV X kwX8_candidateAt mk4_65 rfl rfl ⟨Nat.le_of_ble_eq_true rfl, Nat.le_of_ble_eq_true rfl⟩) (fun _ _ h => va_Pr h.1) 0 (wM_at0 am cA τ) rfl rfl rfl (Nat.le_of_ble_eq_true rfl) dL_law_638 ⟨Nat.le_of_ble_eq_true rfl, Nat.le_of_ble_eq_true rfl⟩) (x_joinM hd) (x_hAM hd) ?_
  refine xj_icmp_eq (P := true) (N := false) (r := true) (tgt := 875) X dL_law_641 rfl (if_pos rfl) (fun _ => ?_) (fun h9 => by cases h9)
  exact K σ τ' hs
set_option maxHeartbeats 4000000 in
set_option maxRecDepth 100000 in
theorem law_case_20 (X : x_C D cA code 4 R_law p s m #[Value.ref b] meth c) (hd : x_Dis s ax am) (hX : va_X b L xs s s.heap) (hbl : b < s.heap.size) (hL : L ≤ 1536) {i : Nat} (hi : i + 3 ≤ L) {σ τ : x_M} (h : Sim σ τ) (K : ∀ σ' τ' : x_M, Sim σ' τ' → x_LJ p l e s m below meth c D cA b ax am σ' τ' i 875 []) : x_LJ p l e s m below meth c D cA b ax am σ τ i 646 [] := by
  have v1 : vp_in (nI i + 1) L := by rw [nI_succ1]; exact vp_in_nI (by omega) (by omega)
  have e1 : xs (nI i + 1).toNatClampNeg = xs (i + 1) := by rw [nI_succ1, nI_clamp (by omega)]
  have v2 : vp_in (nI i + 2) L := by rw [show (2 : Int32) = nI 2 from rfl, nI_add]; exact vp_in_nI (by omega) (by omega)
  have e2 : xs (nI i + 2).toNatClampNeg = xs (i + 2) := by rw [show (2 : Int32) = nI 2 from rfl, nI_add, nI_clamp (by omega)]
  by_cases z : xs (i + 2) = 0
  · obtain ⟨r, σ', τ', hx, hm, hs⟩ := o_select h (xs (i + 1)) false
    refine xj_aload_n X 1 dL_law_646 rfl rfl ?_
    refine xj_aload_n X 0 dL_law_647 rfl rfl ?_
    refine xj_iload_n X 3 dL_law_648 rfl rfl ?_
    refine xj_iconst (x := (1 : Int32)) X dL_law_649 rfl ?_
    refine xj_iadd X dL_law_650 ?_
    refine xl_sld X hX hbl v1 (xs (i + 1)) e1 dL_law_651 ?_
    refine xj_aload_n X 0 dL_law_652 rfl rfl ?_
    refine xj_iload_n X 3 dL_law_653 rfl rfl ?_
    refine xj_iconst (x := (2 : Int32)) X dL_law_654 rfl ?_
    refine xj_iadd X dL_law_655 ?_
    refine xl_sld X hX hbl v2 (xs (i + 2)) e2 dL_law_656 ?_
    refine xj_if_eq (P := true) (N := false) (r := true) (tgt := 664) X dL_law_657 rfl (if_pos z) (fun _ => ?_) (fun h9 => by cases h9)
    refine xj_iconst (x := (0 : Int32)) X dL_law_664 rfl ?_
    refine xj_wrI (r := r) (rest := []) (x_runV X (ctX7_select l D cA hd.1 σ (xs (i + 1)) false r σ' hx) (x_cwV X kwX7_select mk2_221 rfl rfl ⟨Nat.le_of_ble_eq_true rfl, Nat.le_of_ble_eq_true rfl⟩) (fun _ _ h => va_Pl h.1) 0 (wX_at0 ax cA σ) rfl rfl rfl (Nat.le_of_ble_eq_true rfl) dL_law_665 ⟨Nat.le_of_ble_eq_true rfl, Nat.le_of_ble_eq_true rfl⟩) (x_joinX hd) (x_hAX hd) ?_
    refine xj_aload_n X 2 dL_law_668 rfl rfl ?_
    refine xj_aload_n X 0 dL_law_669 rfl rfl ?_
    refine xj_iload_n X 3 dL_law_670 rfl rfl ?_
    refine xj_iconst (x := (1 : Int32)) X dL_law_671 rfl ?_
    refine xj_iadd X dL_law_672 ?_
    refine xl_sld X hX hbl v1 (xs (i + 1)) e1 dL_law_673 ?_
    refine xj_aload_n X 0 dL_law_674 rfl rfl ?_
    refine xj_iload_n X 3 dL_law_675 rfl rfl ?_
    refine xj_iconst (x := (2 : Int32)) X dL_law_676 rfl ?_
    refine xj_iadd X dL_law_677 ?_
    refine xl_sld X hX hbl v2 (xs (i + 2)) e2 dL_law_678 ?_
    refine xj_if_eq (P := true) (N := false) (r := true) (tgt := 686) X dL_law_679 rfl (if_pos z) (fun _ => ?_) (fun h9 => by cases h9)
    refine xj_iconst (x := (0 : Int32)) X dL_law_686 rfl ?_
    refine xj_wrI (r := r) (rest := [.int (r)]) (x_runV X (ctX8_select l D cA hd.2.1 τ (xs (i + 1)) false r τ' hm) (x_cwV X kwX8_select mk4_69 rfl rfl ⟨Nat.le_of_ble_eq_true rfl, Nat.le_of_ble_eq_true rfl⟩) (fun _ _ h => va_Pr h.1) 0 (wM_at0 am cA τ) rfl rfl rfl (Nat.le_of_ble_eq_true rfl) dL_law_687 ⟨Nat.le_of_ble_eq_true rfl, Nat.le_of_ble_eq_true rfl⟩) (x_joinM hd) (x_hAM hd) ?_
    refine xj_icmp_eq (P := true) (N := false) (r := true) (tgt := 875) X dL_law_690 rfl (if_pos rfl) (fun _ => ?_) (fun h9 => by cases h9)
    exact K σ' τ' hs
  · obtain ⟨r, σ', τ', hx, hm, hs⟩ := o_select h (xs (i + 1)) true
    refine xj_aload_n X 1 dL_law_646 rfl rfl ?_
    refine xj_aload_n X 0 dL_law_647 rfl rfl ?_
    refine xj_iload_n X 3 dL_law_648 rfl rfl ?_
    refine xj_iconst (x := (1 : Int32)) X dL_law_649 rfl ?_
    refine xj_iadd X dL_law_650 ?_
    refine xl_sld X hX hbl v1 (xs (i + 1)) e1 dL_law_651 ?_
    refine xj_aload_n X 0 dL_law_652 rfl rfl ?_
    refine xj_iload_n X 3 dL_law_653 rfl rfl ?_
    refine xj_iconst (x := (2 : Int32)) X dL_law_654 rfl ?_
    refine xj_iadd X dL_law_655 ?_
    refine xl_sld X hX hbl v2 (xs (i + 2)) e2 dL_law_656 ?_
    refine xj_if_eq (P := true) (N := false) (r := false) (tgt := 664) X dL_law_657 rfl (if_neg z) (fun h9 => by cases h9) (fun _ => ?_)
    refine xj_iconst (x := (1 : Int32)) X dL_law_660 rfl ?_
    refine xj_goto (tgt := 665) X dL_law_661 rfl ?_
    refine xj_wrI (r := r) (rest := []) (x_runV X (ctX7_select l D cA hd.1 σ (xs (i + 1)) true r σ' hx) (x_cwV X kwX7_select mk2_221 rfl rfl ⟨Nat.le_of_ble_eq_true rfl, Nat.le_of_ble_eq_true rfl⟩) (fun _ _ h => va_Pl h.1) 0 (wX_at0 ax cA σ) rfl rfl rfl (Nat.le_of_ble_eq_true rfl) dL_law_665 ⟨Nat.le_of_ble_eq_true rfl, Nat.le_of_ble_eq_true rfl⟩) (x_joinX hd) (x_hAX hd) ?_
    refine xj_aload_n X 2 dL_law_668 rfl rfl ?_
    refine xj_aload_n X 0 dL_law_669 rfl rfl ?_
    refine xj_iload_n X 3 dL_law_670 rfl rfl ?_
    refine xj_iconst (x := (1 : Int32)) X dL_law_671 rfl ?_
    refine xj_iadd X dL_law_672 ?_
    refine xl_sld X hX hbl v1 (xs (i + 1)) e1 dL_law_673 ?_
    refine xj_aload_n X 0 dL_law_674 rfl rfl ?_
    refine xj_iload_n X 3 dL_law_675 rfl rfl ?_
    refine xj_iconst (x := (2 : Int32)) X dL_law_676 rfl ?_
    refine xj_iadd X dL_law_677 ?_
    refine xl_sld X hX hbl v2 (xs (i + 2)) e2 dL_law_678 ?_
    refine xj_if_eq (P := true) (N := false) (r := false) (tgt := 686) X dL_law_679 rfl (if_neg z) (fun h9 => by cases h9) (fun _ => ?_)
    refine xj_iconst (x := (1 : Int32)) X dL_law_682 rfl ?_
    refine xj_goto (tgt := 687) X dL_law_683 rfl ?_
    refine xj_wrI (r := r) (rest := [.int (r)]) (x_runV X (ctX8_select l D cA hd.2.1 τ (xs (i + 1)) true r τ' hm) (x_cwV X kwX8_select mk4_69 rfl rfl ⟨Nat.le_of_ble_eq_true rfl, Nat.le_of_ble_eq_true rfl⟩) (fun _ _ h => va_Pr h.1) 0 (wM_at0 am cA τ) rfl rfl rfl (Nat.le_of_ble_eq_true rfl) dL_law_687 ⟨Nat.le_of_ble_eq_true rfl, Nat.le_of_ble_eq_true rfl⟩) (x_joinM hd) (x_hAM hd) ?_
    refine xj_icmp_eq (P := true) (N := false) (r := true) (tgt := 875) X dL_law_690 rfl (if_pos rfl) (fun _ => ?_) (fun h9 => by cases h9)
    exact K σ' τ' hs
set_option maxHeartbeats 4000000 in
set_option maxRecDepth 100000 in
theorem law_case_21 (X : x_C D cA code 4 R_law p s m #[Value.ref b] meth c) (hd : x_Dis s ax am) (hX : va_X b L xs s s.heap) (hbl : b < s.heap.size) (hL : L ≤ 1536) {i : Nat} (hi : i + 3 ≤ L) {σ τ : x_M} (h : Sim σ τ) (K : ∀ σ' τ' : x_M, Sim σ' τ' → x_LJ p l e s m below meth c D cA b ax am σ' τ' i 875 []) : x_LJ p l e s m below meth c D cA b ax am σ τ i 695 [] := by
  have v1 : vp_in (nI i + 1) L := by rw [nI_succ1]; exact vp_in_nI (by omega) (by omega)
  have e1 : xs (nI i + 1).toNatClampNeg = xs (i + 1) := by rw [nI_succ1, nI_clamp (by omega)]
  have v2 : vp_in (nI i + 2) L := by rw [show (2 : Int32) = nI 2 from rfl, nI_add]; exact vp_in_nI (by omega) (by omega)
  have e2 : xs (nI i + 2).toNatClampNeg = xs (i + 2) := by rw [show (2 : Int32) = nI 2 from rfl, nI_add, nI_clamp (by omega)]
  obtain ⟨r, σ', τ', hx, hm, hs⟩ := o_start h (xs (i + 1)) (xs (i + 2))
  refine xj_aload_n X 1 dL_law_695 rfl rfl ?_
  refine xj_aload_n X 0 dL_law_696 rfl rfl ?_
  refine xj_iload_n X 3 dL_law_697 rfl rfl ?_
  refine xj_iconst (x := (1 : Int32)) X dL_law_698 rfl ?_
  refine xj_iadd X dL_law_699 ?_
  refine xl_sld X hX hbl v1 (xs (i + 1)) e1 dL_law_700 ?_
  refine xj_aload_n X 0 dL_law_701 rfl rfl ?_
  refine xj_iload_n X 3 dL_law_702 rfl rfl ?_
  refine xj_iconst (x := (2 : Int32)) X dL_law_703 rfl ?_
  refine xj_iadd X dL_law_704 ?_
  refine xl_sld X hX hbl v2 (xs (i + 2)) e2 dL_law_705 ?_
  refine xj_wrI (r := r) (rest := []) (x_runV X (ctX7_start l D cA hd.1 σ (xs (i + 1)) (xs (i + 2)) r σ' hx) (x_cwV X kwX7_start mk2_229 rfl rfl ⟨Nat.le_of_ble_eq_true rfl, Nat.le_of_ble_eq_true rfl⟩) (fun _ _ h => va_Pl h.1) 0 (wX_at0 ax cA σ) rfl rfl rfl (Nat.le_of_ble_eq_true rfl) dL_law_706 ⟨Nat.le_of_ble_eq_true rfl, Nat.le_of_ble_eq_true rfl⟩) (x_joinX hd) (x_hAX hd) ?_
  refine xj_aload_n X 2 dL_law_709 rfl rfl ?_
  refine xj_aload_n X 0 dL_law_710 rfl rfl ?_
  refine xj_iload_n X 3 dL_law_711 rfl rfl ?_
  refine xj_iconst (x := (1 : Int32)) X dL_law_712 rfl ?_
  refine xj_iadd X dL_law_713 ?_
  refine xl_sld X hX hbl v1 (xs (i + 1)) e1 dL_law_714 ?_
  refine xj_aload_n X 0 dL_law_715 rfl rfl ?_
  refine xj_iload_n X 3 dL_law_716 rfl rfl ?_
  refine xj_iconst (x := (2 : Int32)) X dL_law_717 rfl ?_
  refine xj_iadd X dL_law_718 ?_
  refine xl_sld X hX hbl v2 (xs (i + 2)) e2 dL_law_719 ?_
  refine xj_wrI (r := r) (rest := [.int (r)]) (x_runV X (ctX8_start l D cA hd.2.1 τ (xs (i + 1)) (xs (i + 2)) r τ' hm) (x_cwV X kwX8_start mk4_73 rfl rfl ⟨Nat.le_of_ble_eq_true rfl, Nat.le_of_ble_eq_true rfl⟩) (fun _ _ h => va_Pr h.1) 0 (wM_at0 am cA τ) rfl rfl rfl (Nat.le_of_ble_eq_true rfl) dL_law_720 ⟨Nat.le_of_ble_eq_true rfl, Nat.le_of_ble_eq_true rfl⟩) (x_joinM hd) (x_hAM hd) ?_
  refine xj_icmp_eq (P := true) (N := false) (r := true) (tgt := 875) X dL_law_723 rfl (if_pos rfl) (fun _ => ?_) (fun h9 => by cases h9)
  exact K σ' τ' hs
set_option maxHeartbeats 4000000 in
set_option maxRecDepth 100000 in
theorem law_case_22 (X : x_C D cA code 4 R_law p s m #[Value.ref b] meth c) (hd : x_Dis s ax am) (hX : va_X b L xs s s.heap) (hbl : b < s.heap.size) (hL : L ≤ 1536) {i : Nat} (hi : i + 3 ≤ L) {σ τ : x_M} (h : Sim σ τ) (K : ∀ σ' τ' : x_M, Sim σ' τ' → x_LJ p l e s m below meth c D cA b ax am σ' τ' i 875 []) : x_LJ p l e s m below meth c D cA b ax am σ τ i 728 [] := by
  have v1 : vp_in (nI i + 1) L := by rw [nI_succ1]; exact vp_in_nI (by omega) (by omega)
  have e1 : xs (nI i + 1).toNatClampNeg = xs (i + 1) := by rw [nI_succ1, nI_clamp (by omega)]
  obtain ⟨r, σ', τ', hx, hm, hs⟩ := o_answer h (xs (i + 1))
  refine xj_aload_n X 1 dL_law_728 rfl rfl ?_
  refine xj_aload_n X 0 dL_law_729 rfl rfl ?_
  refine xj_iload_n X 3 dL_law_730 rfl rfl ?_
  refine xj_iconst (x := (1 : Int32)) X dL_law_731 rfl ?_
  refine xj_iadd X dL_law_732 ?_
  refine xl_sld X hX hbl v1 (xs (i + 1)) e1 dL_law_733 ?_
  refine xj_wrI (r := r) (rest := []) (x_runV X (ctX7_answer l D cA hd.1 σ (xs (i + 1)) r σ' hx) (x_cwV X kwX7_answer mk3_26 rfl rfl ⟨Nat.le_of_ble_eq_true rfl, Nat.le_of_ble_eq_true rfl⟩) (fun _ _ h => va_Pl h.1) 0 (wX_at0 ax cA σ) rfl rfl rfl (Nat.le_of_ble_eq_true rfl) dL_law_734 ⟨Nat.le_of_ble_eq_true rfl, Nat.le_of_ble_eq_true rfl⟩) (x_joinX hd) (x_hAX hd) ?_
  refine xj_aload_n X 2 dL_law_737 rfl rfl ?_
  refine xj_aload_n X 0 dL_law_738 rfl rfl ?_
  refine xj_iload_n X 3 dL_law_739 rfl rfl ?_
  refine xj_iconst (x := (1 : Int32)) X dL_law_740 rfl ?_
  refine xj_iadd X dL_law_741 ?_
  refine xl_sld X hX hbl v1 (xs (i + 1)) e1 dL_law_742 ?_
  refine xj_wrI (r := r) (rest := [.int (r)]) (x_runV X (ctX8_answer l D cA hd.2.1 τ (xs (i + 1)) r τ' hm) (x_cwV X kwX8_answer mk4_85 rfl rfl ⟨Nat.le_of_ble_eq_true rfl, Nat.le_of_ble_eq_true rfl⟩) (fun _ _ h => va_Pr h.1) 0 (wM_at0 am cA τ) rfl rfl rfl (Nat.le_of_ble_eq_true rfl) dL_law_743 ⟨Nat.le_of_ble_eq_true rfl, Nat.le_of_ble_eq_true rfl⟩) (x_joinM hd) (x_hAM hd) ?_
  refine xj_icmp_eq (P := true) (N := false) (r := true) (tgt := 875) X dL_law_746 rfl (if_pos rfl) (fun _ => ?_) (fun h9 => by cases h9)
  exact K σ' τ' hs
set_option maxHeartbeats 4000000 in
set_option maxRecDepth 100000 in
theorem law_case_23 (X : x_C D cA code 4 R_law p s m #[Value.ref b] meth c) (hd : x_Dis s ax am) (hX : va_X b L xs s s.heap) (hbl : b < s.heap.size) (hL : L ≤ 1536) {i : Nat} (hi : i + 3 ≤ L) {σ τ : x_M} (h : Sim σ τ) (K : ∀ σ' τ' : x_M, Sim σ' τ' → x_LJ p l e s m below meth c D cA b ax am σ' τ' i 875 []) : x_LJ p l e s m below meth c D cA b ax am σ τ i 751 [] := by
  have v1 : vp_in (nI i + 1) L := by rw [nI_succ1]; exact vp_in_nI (by omega) (by omega)
  have e1 : xs (nI i + 1).toNatClampNeg = xs (i + 1) := by rw [nI_succ1, nI_clamp (by omega)]
  by_cases z : xs (i + 1) = 0
  · obtain ⟨r, σ', τ', hx, hm, hs⟩ := o_sendReversal h false
    refine xj_aload_n X 1 dL_law_751 rfl rfl ?_
    refine xj_aload_n X 0 dL_law_752 rfl rfl ?_
    refine xj_iload_n X 3 dL_law_753 rfl rfl ?_
    refine xj_iconst (x := (1 : Int32)) X dL_law_754 rfl ?_
    refine xj_iadd X dL_law_755 ?_
    refine xl_sld X hX hbl v1 (xs (i + 1)) e1 dL_law_756 ?_
    refine xj_if_eq (P := true) (N := false) (r := true) (tgt := 764) X dL_law_757 rfl (if_pos z) (fun _ => ?_) (fun h9 => by cases h9)
    refine xj_iconst (x := (0 : Int32)) X dL_law_764 rfl ?_
    refine xj_wrI (r := r) (rest := []) (x_runV X (ctX7_sendReversal l D cA hd.1 σ false r σ' hx) (x_cwV X kwX7_sendReversal mk3_43 rfl rfl ⟨Nat.le_of_ble_eq_true rfl, Nat.le_of_ble_eq_true rfl⟩) (fun _ _ h => va_Pl h.1) 0 (wX_at0 ax cA σ) rfl rfl rfl (Nat.le_of_ble_eq_true rfl) dL_law_765 ⟨Nat.le_of_ble_eq_true rfl, Nat.le_of_ble_eq_true rfl⟩) (x_joinX hd) (x_hAX hd) ?_
    refine xj_aload_n X 2 dL_law_768 rfl rfl ?_
    refine xj_aload_n X 0 dL_law_769 rfl rfl ?_
    refine xj_iload_n X 3 dL_law_770 rfl rfl ?_
    refine xj_iconst (x := (1 : Int32)) X dL_law_771 rfl ?_
    refine xj_iadd X dL_law_772 ?_
    refine xl_sld X hX hbl v1 (xs (i + 1)) e1 dL_law_773 ?_
    refine xj_if_eq (P := true) (N := false) (r := true) (tgt := 781) X dL_law_774 rfl (if_pos z) (fun _ => ?_) (fun h9 => by cases h9)
    refine xj_iconst (x := (0 : Int32)) X dL_law_781 rfl ?_
    refine xj_wrI (r := r) (rest := [.int (r)]) (x_runV X (ctX8_sendReversal l D cA hd.2.1 τ false r τ' hm) (x_cwV X kwX8_sendReversal mk4_89 rfl rfl ⟨Nat.le_of_ble_eq_true rfl, Nat.le_of_ble_eq_true rfl⟩) (fun _ _ h => va_Pr h.1) 0 (wM_at0 am cA τ) rfl rfl rfl (Nat.le_of_ble_eq_true rfl) dL_law_782 ⟨Nat.le_of_ble_eq_true rfl, Nat.le_of_ble_eq_true rfl⟩) (x_joinM hd) (x_hAM hd) ?_
    refine xj_icmp_eq (P := true) (N := false) (r := true) (tgt := 875) X dL_law_785 rfl (if_pos rfl) (fun _ => ?_) (fun h9 => by cases h9)
    exact K σ' τ' hs
  · obtain ⟨r, σ', τ', hx, hm, hs⟩ := o_sendReversal h true
    refine xj_aload_n X 1 dL_law_751 rfl rfl ?_
    refine xj_aload_n X 0 dL_law_752 rfl rfl ?_
    refine xj_iload_n X 3 dL_law_753 rfl rfl ?_
    refine xj_iconst (x := (1 : Int32)) X dL_law_754 rfl ?_
    refine xj_iadd X dL_law_755 ?_
    refine xl_sld X hX hbl v1 (xs (i + 1)) e1 dL_law_756 ?_
    refine xj_if_eq (P := true) (N := false) (r := false) (tgt := 764) X dL_law_757 rfl (if_neg z) (fun h9 => by cases h9) (fun _ => ?_)
    refine xj_iconst (x := (1 : Int32)) X dL_law_760 rfl ?_
    refine xj_goto (tgt := 765) X dL_law_761 rfl ?_
    refine xj_wrI (r := r) (rest := []) (x_runV X (ctX7_sendReversal l D cA hd.1 σ true r σ' hx) (x_cwV X kwX7_sendReversal mk3_43 rfl rfl ⟨Nat.le_of_ble_eq_true rfl, Nat.le_of_ble_eq_true rfl⟩) (fun _ _ h => va_Pl h.1) 0 (wX_at0 ax cA σ) rfl rfl rfl (Nat.le_of_ble_eq_true rfl) dL_law_765 ⟨Nat.le_of_ble_eq_true rfl, Nat.le_of_ble_eq_true rfl⟩) (x_joinX hd) (x_hAX hd) ?_
    refine xj_aload_n X 2 dL_law_768 rfl rfl ?_
    refine xj_aload_n X 0 dL_law_769 rfl rfl ?_
    refine xj_iload_n X 3 dL_law_770 rfl rfl ?_
    refine xj_iconst (x := (1 : Int32)) X dL_law_771 rfl ?_
    refine xj_iadd X dL_law_772 ?_
    refine xl_sld X hX hbl v1 (xs (i + 1)) e1 dL_law_773 ?_
    refine xj_if_eq (P := true) (N := false) (r := false) (tgt := 781) X dL_law_774 rfl (if_neg z) (fun h9 => by cases h9) (fun _ => ?_)
    refine xj_iconst (x := (1 : Int32)) X dL_law_777 rfl ?_
    refine xj_goto (tgt := 782) X dL_law_778 rfl ?_
    refine xj_wrI (r := r) (rest := [.int (r)]) (x_runV X (ctX8_sendReversal l D cA hd.2.1 τ true r τ' hm) (x_cwV X kwX8_sendReversal mk4_89 rfl rfl ⟨Nat.le_of_ble_eq_true rfl, Nat.le_of_ble_eq_true rfl⟩) (fun _ _ h => va_Pr h.1) 0 (wM_at0 am cA τ) rfl rfl rfl (Nat.le_of_ble_eq_true rfl) dL_law_782 ⟨Nat.le_of_ble_eq_true rfl, Nat.le_of_ble_eq_true rfl⟩) (x_joinM hd) (x_hAM hd) ?_
    refine xj_icmp_eq (P := true) (N := false) (r := true) (tgt := 875) X dL_law_785 rfl (if_pos rfl) (fun _ => ?_) (fun h9 => by cases h9)
    exact K σ' τ' hs
set_option maxHeartbeats 4000000 in
set_option maxRecDepth 100000 in
theorem law_case_24 (X : x_C D cA code 4 R_law p s m #[Value.ref b] meth c) (hd : x_Dis s ax am) (hX : va_X b L xs s s.heap) (hbl : b < s.heap.size) (hL : L ≤ 1536) {i : Nat} (hi : i + 3 ≤ L) {σ τ : x_M} (h : Sim σ τ) (K : ∀ σ' τ' : x_M, Sim σ' τ' → x_LJ p l e s m below meth c D cA b ax am σ' τ' i 875 []) : x_LJ p l e s m below meth c D cA b ax am σ τ i 790 [] := by
  have hm := o_reversalCount h
  refine xj_aload_n X 1 dL_law_790 rfl rfl ?_
  refine xj_roI (r := fX7_reversalCount σ) (rest := []) (fun _ h => h) (x_runV X (ctX7_reversalCount l D cA ax σ _ rfl) (x_cwV X kwX7_reversalCount mk3_56 rfl rfl ⟨Nat.le_of_ble_eq_true rfl, Nat.le_of_ble_eq_true rfl⟩) (fun _ _ h => va_Pl h.1) 0 (wX_at0 ax cA σ) rfl rfl rfl (Nat.le_of_ble_eq_true rfl) dL_law_791 ⟨Nat.le_of_ble_eq_true rfl, Nat.le_of_ble_eq_true rfl⟩) ?_
  refine xj_aload_n X 2 dL_law_794 rfl rfl ?_
  refine xj_roI (r := fX8_reversalCount τ) (rest := [.int (fX7_reversalCount σ)]) (fun _ h => h) (x_runV X (ctX8_reversalCount l D cA am τ _ rfl) (x_cwV X kwX8_reversalCount mk4_93 rfl rfl ⟨Nat.le_of_ble_eq_true rfl, Nat.le_of_ble_eq_true rfl⟩) (fun _ _ h => va_Pr h.1) 0 (wM_at0 am cA τ) rfl rfl rfl (Nat.le_of_ble_eq_true rfl) dL_law_795 ⟨Nat.le_of_ble_eq_true rfl, Nat.le_of_ble_eq_true rfl⟩) ?_
  refine xj_icmp_eq (P := true) (N := false) (r := true) (tgt := 875) X dL_law_798 rfl (if_pos hm) (fun _ => ?_) (fun h9 => by cases h9)
  exact K σ τ h
set_option maxHeartbeats 4000000 in
set_option maxRecDepth 100000 in
theorem law_case_25 (X : x_C D cA code 4 R_law p s m #[Value.ref b] meth c) (hd : x_Dis s ax am) (hX : va_X b L xs s s.heap) (hbl : b < s.heap.size) (hL : L ≤ 1536) {i : Nat} (hi : i + 3 ≤ L) {σ τ : x_M} (h : Sim σ τ) (K : ∀ σ' τ' : x_M, Sim σ' τ' → x_LJ p l e s m below meth c D cA b ax am σ' τ' i 875 []) : x_LJ p l e s m below meth c D cA b ax am σ τ i 803 [] := by
  have hm := o_verificationResults h
  refine xj_aload_n X 1 dL_law_803 rfl rfl ?_
  refine xj_roI (r := fX7_verificationResults σ) (rest := []) (fun _ h => h) (x_runV X (ctX7_verificationResults l D cA ax σ _ rfl) (x_cwV X kwX7_verificationResults mk3_60 rfl rfl ⟨Nat.le_of_ble_eq_true rfl, Nat.le_of_ble_eq_true rfl⟩) (fun _ _ h => va_Pl h.1) 0 (wX_at0 ax cA σ) rfl rfl rfl (Nat.le_of_ble_eq_true rfl) dL_law_804 ⟨Nat.le_of_ble_eq_true rfl, Nat.le_of_ble_eq_true rfl⟩) ?_
  refine xj_aload_n X 2 dL_law_807 rfl rfl ?_
  refine xj_roI (r := fX8_verificationResults τ) (rest := [.int (fX7_verificationResults σ)]) (fun _ h => h) (x_runV X (ctX8_verificationResults l D cA am τ _ rfl) (x_cwV X kwX8_verificationResults mk4_97 rfl rfl ⟨Nat.le_of_ble_eq_true rfl, Nat.le_of_ble_eq_true rfl⟩) (fun _ _ h => va_Pr h.1) 0 (wM_at0 am cA τ) rfl rfl rfl (Nat.le_of_ble_eq_true rfl) dL_law_808 ⟨Nat.le_of_ble_eq_true rfl, Nat.le_of_ble_eq_true rfl⟩) ?_
  refine xj_icmp_eq (P := true) (N := false) (r := true) (tgt := 875) X dL_law_811 rfl (if_pos hm) (fun _ => ?_) (fun h9 => by cases h9)
  exact K σ τ h
set_option maxHeartbeats 4000000 in
set_option maxRecDepth 100000 in
theorem law_case_26 (X : x_C D cA code 4 R_law p s m #[Value.ref b] meth c) (hd : x_Dis s ax am) (hX : va_X b L xs s s.heap) (hbl : b < s.heap.size) (hL : L ≤ 1536) {i : Nat} (hi : i + 3 ≤ L) {σ τ : x_M} (h : Sim σ τ) (K : ∀ σ' τ' : x_M, Sim σ' τ' → x_LJ p l e s m below meth c D cA b ax am σ' τ' i 875 []) : x_LJ p l e s m below meth c D cA b ax am σ τ i 816 [] := by
  have v1 : vp_in (nI i + 1) L := by rw [nI_succ1]; exact vp_in_nI (by omega) (by omega)
  have e1 : xs (nI i + 1).toNatClampNeg = xs (i + 1) := by rw [nI_succ1, nI_clamp (by omega)]
  have hm := o_outcomeCount h (xs (i + 1))
  refine xj_aload_n X 1 dL_law_816 rfl rfl ?_
  refine xj_aload_n X 0 dL_law_817 rfl rfl ?_
  refine xj_iload_n X 3 dL_law_818 rfl rfl ?_
  refine xj_iconst (x := (1 : Int32)) X dL_law_819 rfl ?_
  refine xj_iadd X dL_law_820 ?_
  refine xl_sld X hX hbl v1 (xs (i + 1)) e1 dL_law_821 ?_
  refine xj_roI (r := fX7_outcomeCount σ (xs (i + 1))) (rest := []) (fun _ h => h) (x_runV X (ctX7_outcomeCount l D cA ax σ (xs (i + 1)) _ rfl) (x_cwV X kwX7_outcomeCount mk3_64 rfl rfl ⟨Nat.le_of_ble_eq_true rfl, Nat.le_of_ble_eq_true rfl⟩) (fun _ _ h => va_Pl h.1) 0 (wX_at0 ax cA σ) rfl rfl rfl (Nat.le_of_ble_eq_true rfl) dL_law_822 ⟨Nat.le_of_ble_eq_true rfl, Nat.le_of_ble_eq_true rfl⟩) ?_
  refine xj_aload_n X 2 dL_law_825 rfl rfl ?_
  refine xj_aload_n X 0 dL_law_826 rfl rfl ?_
  refine xj_iload_n X 3 dL_law_827 rfl rfl ?_
  refine xj_iconst (x := (1 : Int32)) X dL_law_828 rfl ?_
  refine xj_iadd X dL_law_829 ?_
  refine xl_sld X hX hbl v1 (xs (i + 1)) e1 dL_law_830 ?_
  refine xj_roI (r := fX7_outcomeCount σ (xs (i + 1))) (rest := [.int (fX7_outcomeCount σ (xs (i + 1)))]) (fun _ h => h) (x_runV X (ctX8_outcomeCount l D cA am τ (xs (i + 1)) _ hm) (x_cwV X kwX8_outcomeCount mk4_101 rfl rfl ⟨Nat.le_of_ble_eq_true rfl, Nat.le_of_ble_eq_true rfl⟩) (fun _ _ h => va_Pr h.1) 0 (wM_at0 am cA τ) rfl rfl rfl (Nat.le_of_ble_eq_true rfl) dL_law_831 ⟨Nat.le_of_ble_eq_true rfl, Nat.le_of_ble_eq_true rfl⟩) ?_
  refine xj_icmp_eq (P := true) (N := false) (r := true) (tgt := 875) X dL_law_834 rfl (if_pos rfl) (fun _ => ?_) (fun h9 => by cases h9)
  exact K σ τ h
set_option maxHeartbeats 4000000 in
set_option maxRecDepth 100000 in
theorem law_case_27 (X : x_C D cA code 4 R_law p s m #[Value.ref b] meth c) (hd : x_Dis s ax am) (hX : va_X b L xs s s.heap) (hbl : b < s.heap.size) (hL : L ≤ 1536) {i : Nat} (hi : i + 3 ≤ L) {σ τ : x_M} (h : Sim σ τ) (K : ∀ σ' τ' : x_M, Sim σ' τ' → x_LJ p l e s m below meth c D cA b ax am σ' τ' i 875 []) : x_LJ p l e s m below meth c D cA b ax am σ τ i 839 [] := by
  have v1 : vp_in (nI i + 1) L := by rw [nI_succ1]; exact vp_in_nI (by omega) (by omega)
  have e1 : xs (nI i + 1).toNatClampNeg = xs (i + 1) := by rw [nI_succ1, nI_clamp (by omega)]
  have hm := o_outcomeAmount h (xs (i + 1))
  refine xj_aload_n X 1 dL_law_839 rfl rfl ?_
  refine xj_aload_n X 0 dL_law_840 rfl rfl ?_
  refine xj_iload_n X 3 dL_law_841 rfl rfl ?_
  refine xj_iconst (x := (1 : Int32)) X dL_law_842 rfl ?_
  refine xj_iadd X dL_law_843 ?_
  refine xl_sld X hX hbl v1 (xs (i + 1)) e1 dL_law_844 ?_
  refine xj_roI (r := fX7_outcomeAmount σ (xs (i + 1))) (rest := []) (fun _ h => h) (x_runV X (ctX7_outcomeAmount l D cA ax σ (xs (i + 1)) _ rfl) (x_cwV X kwX7_outcomeAmount mk3_71 rfl rfl ⟨Nat.le_of_ble_eq_true rfl, Nat.le_of_ble_eq_true rfl⟩) (fun _ _ h => va_Pl h.1) 0 (wX_at0 ax cA σ) rfl rfl rfl (Nat.le_of_ble_eq_true rfl) dL_law_845 ⟨Nat.le_of_ble_eq_true rfl, Nat.le_of_ble_eq_true rfl⟩) ?_
  refine xj_aload_n X 2 dL_law_848 rfl rfl ?_
  refine xj_aload_n X 0 dL_law_849 rfl rfl ?_
  refine xj_iload_n X 3 dL_law_850 rfl rfl ?_
  refine xj_iconst (x := (1 : Int32)) X dL_law_851 rfl ?_
  refine xj_iadd X dL_law_852 ?_
  refine xl_sld X hX hbl v1 (xs (i + 1)) e1 dL_law_853 ?_
  refine xj_roI (r := fX7_outcomeAmount σ (xs (i + 1))) (rest := [.int (fX7_outcomeAmount σ (xs (i + 1)))]) (fun _ h => h) (x_runV X (ctX8_outcomeAmount l D cA am τ (xs (i + 1)) _ hm) (x_cwV X kwX8_outcomeAmount mk4_105 rfl rfl ⟨Nat.le_of_ble_eq_true rfl, Nat.le_of_ble_eq_true rfl⟩) (fun _ _ h => va_Pr h.1) 0 (wM_at0 am cA τ) rfl rfl rfl (Nat.le_of_ble_eq_true rfl) dL_law_854 ⟨Nat.le_of_ble_eq_true rfl, Nat.le_of_ble_eq_true rfl⟩) ?_
  refine xj_icmp_eq (P := true) (N := false) (r := true) (tgt := 875) X dL_law_857 rfl (if_pos rfl) (fun _ => ?_) (fun h9 => by cases h9)
  exact K σ τ h
set_option maxHeartbeats 4000000 in
set_option maxRecDepth 100000 in
theorem law_case_28 (X : x_C D cA code 4 R_law p s m #[Value.ref b] meth c) (hd : x_Dis s ax am) (hX : va_X b L xs s s.heap) (hbl : b < s.heap.size) (hL : L ≤ 1536) {i : Nat} (hi : i + 3 ≤ L) {σ τ : x_M} (h : Sim σ τ) (K : ∀ σ' τ' : x_M, Sim σ' τ' → x_LJ p l e s m below meth c D cA b ax am σ' τ' i 875 []) : x_LJ p l e s m below meth c D cA b ax am σ τ i 862 [] := by
  have hm := o_offlineCounter h
  refine xj_aload_n X 1 dL_law_862 rfl rfl ?_
  refine xj_roI (r := fX7_offlineCounter σ) (rest := []) (fun _ h => h) (x_runV X (ctX7_offlineCounter l D cA ax σ _ rfl) (x_cwV X kwX7_offlineCounter mk3_75 rfl rfl ⟨Nat.le_of_ble_eq_true rfl, Nat.le_of_ble_eq_true rfl⟩) (fun _ _ h => va_Pl h.1) 0 (wX_at0 ax cA σ) rfl rfl rfl (Nat.le_of_ble_eq_true rfl) dL_law_863 ⟨Nat.le_of_ble_eq_true rfl, Nat.le_of_ble_eq_true rfl⟩) ?_
  refine xj_aload_n X 2 dL_law_866 rfl rfl ?_
  refine xj_roI (r := fX8_offlineCounter τ) (rest := [.int (fX7_offlineCounter σ)]) (fun _ h => h) (x_runV X (ctX8_offlineCounter l D cA am τ _ rfl) (x_cwV X kwX8_offlineCounter mk4_109 rfl rfl ⟨Nat.le_of_ble_eq_true rfl, Nat.le_of_ble_eq_true rfl⟩) (fun _ _ h => va_Pr h.1) 0 (wM_at0 am cA τ) rfl rfl rfl (Nat.le_of_ble_eq_true rfl) dL_law_867 ⟨Nat.le_of_ble_eq_true rfl, Nat.le_of_ble_eq_true rfl⟩) ?_
  refine xj_icmp_eq (P := true) (N := false) (r := true) (tgt := 875) X dL_law_870 rfl (if_pos hm) (fun _ => ?_) (fun h9 => by cases h9)
  exact K σ τ h
set_option maxHeartbeats 4000000 in
set_option maxRecDepth 100000 in
/-- the law's own end, with 1 on the stack -/
theorem lw_ret {p : Program} {l : Launch} {e : Env} {s : State} {m : MethodId} {below : List Frame} {meth : Method} {c : Code} {b : Nat} (hx : p.tables.exec = Jvm.exec) (hb : c.code = code) (hr : meth.sig.returnType = ret) (hlocks : meth.locks = false) {pc : Nat} {H : Heap} {ls : Array Slot} (hdg : decode code pc = .ok (.ireturn, 1)) : W p l e room_1 s m #[Value.ref b] below meth c H [] 46 1021 (lw_Z below #[Value.ref b] s) (F0 m pc ls [.int 1]) := by
  intro T hT X
  obtain ⟨fs, hret, hrun, hended, hW, hframe⟩ := X.leave (v := some (.int 1)) (hlocks := hlocks) (fun h => by rw [hr] at h; cases h)
  have hmeth' : T.vm.method? m = some meth := X.method'
  refine ⟨T.setFrames fs, ?_, .returned (some (.int 1)), hrun, hended, rfl, ⟨_, rfl⟩, hW, hframe⟩
  jvm_step X.here [X.here.top, hx, hb, hdg, hmeth', hr, ret, narrow_b1]
  (try refine ⟨rfl, ?_⟩); (try refine ⟨rfl, ?_⟩)
  first | (intro acts; rw [hret _ acts rfl rfl rfl]) | rw [hret _ _ rfl rfl rfl]
  exact Steps.refl _
set_option maxHeartbeats 4000000 in
set_option maxRecDepth 100000 in
theorem law_loop (hr : meth.sig.returnType = ret) (X : x_C D cA code 4 R_law p s m #[Value.ref b] meth c) (hd : x_Dis s ax am) (hX : va_X b L xs s s.heap) (hbl : b < s.heap.size) (hL : L ≤ 1536) : ∀ (n i : Nat) (σ τ : x_M), Sim σ τ → i ≤ L → L - i < n → x_LJ p l e s m below meth c D cA b ax am σ τ i 18 [] := by
  intro n
  induction n with
  | zero => intro i σ τ h h1 h2; omega
  | succ n ih =>
    intro i σ τ h h1 h2
    have hcmp : nI L - 3 < nI i ↔ L < i + 3 := by
      rw [i_lt, show (3 : Int32) = nI 3 from rfl, pk_sub_toInt (by omega) (by decide), nI_toInt (by omega)]; omega
    refine xj_iload_n X 3 dL_law_18 rfl rfl ?_
    refine xj_aload_n X 0 dL_law_19 rfl rfl ?_
    refine xl_slen X hX hbl dL_law_20 ?_
    refine xj_iconst (x := (3 : Int32)) X dL_law_21 rfl ?_
    refine xj_isub X dL_law_22 ?_
    rcases Nat.lt_or_ge L (i + 3) with hi | hi
    · refine xj_icmp_gt (P := true) (N := false) (r := true) (tgt := 881) X dL_law_23 rfl (if_pos (hcmp.mpr hi)) (fun _ => ?_) (fun h9 => by cases h9)
      refine xj_iconst (x := (1 : Int32)) X dL_law_881 rfl ?_
      intro H locs ls hI hl
      refine va_forget (fun q hq => hI.2.2.2 q hq) ?_
      exact lw_ret X.1 X.2.1 hr X.2.2.2.2.2.1 dL_law_882
    · refine xj_icmp_gt (P := true) (N := false) (r := false) (tgt := 881) X dL_law_23 rfl (if_neg (fun z => by have := hcmp.mp z; omega)) (fun h9 => by cases h9) (fun _ => ?_)
      have K : ∀ σ' τ' : x_M, Sim σ' τ' → x_LJ p l e s m below meth c D cA b ax am σ' τ' i 875 [] := by
        intro σ' τ' h'
        refine xj_iinc (y := nI i + 3) (lv' := [(3, .int (nI i + 3)), (0, .ref b), (1, .ref (ax 0)), (2, .ref (am 0))]) X 3 dL_law_875 rfl rfl (by decide) rfl ?_
        refine xj_goto (tgt := 18) X dL_law_878 rfl ?_
        rw [show (3 : Int32) = nI 3 from rfl, nI_add]
        refine xj_sub [1, 2, 3, 0] rfl ?_
        exact ih (i + 3) σ' τ' h' hi (by omega)
      have v0 : vp_in (nI i) L := vp_in_nI (by omega) (by omega)
      refine xj_aload_n X 0 dL_law_26 rfl rfl ?_
      refine xj_iload_n X 3 dL_law_27 rfl rfl ?_
      refine xl_sld X hX hbl v0 (xs (nI i).toNatClampNeg) rfl dL_law_28 ?_
      refine xj_bipush (x := (31 : Int32)) X dL_law_29 rfl ?_
      refine xj_iand X dL_law_31 ?_
      obtain ⟨j, hj, ej⟩ := pk_andE (xs (nI i).toNatClampNeg) (m := 31) 5 rfl
      rw [ej]
      have hj32 : j < 32 := hj
      clear ej hj
      rcases (show j = 0 ∨ j = 1 ∨ j = 2 ∨ j = 3 ∨ j = 4 ∨ j = 5 ∨ j = 6 ∨ j = 7 ∨ j = 8 ∨ j = 9 ∨ j = 10 ∨ j = 11 ∨ j = 12 ∨ j = 13 ∨ j = 14 ∨ j = 15 ∨ j = 16 ∨ j = 17 ∨ j = 18 ∨ j = 19 ∨ j = 20 ∨ j = 21 ∨ j = 22 ∨ j = 23 ∨ j = 24 ∨ j = 25 ∨ j = 26 ∨ j = 27 ∨ j = 28 ∨ j = 29 ∨ j = 30 ∨ j = 31 by omega) with rfl | rfl | rfl | rfl | rfl | rfl | rfl | rfl | rfl | rfl | rfl | rfl | rfl | rfl | rfl | rfl | rfl | rfl | rfl | rfl | rfl | rfl | rfl | rfl | rfl | rfl | rfl | rfl | rfl | rfl | rfl | rfl
      · intro H locs ls hI hl
        refine lv_tableIn (off := 132) (tgt := 164) X.1 X.2.1 dL_law_32 (by decide) (by decide) rfl rfl ?_
        exact law_case_0 X hd hX hbl hL hi h K H locs ls hI hl
      · intro H locs ls hI hl
        refine lv_tableIn (off := 155) (tgt := 187) X.1 X.2.1 dL_law_32 (by decide) (by decide) rfl rfl ?_
        exact law_case_1 X hd hX hbl hL hi h K H locs ls hI hl
      · intro H locs ls hI hl
        refine lv_tableIn (off := 168) (tgt := 200) X.1 X.2.1 dL_law_32 (by decide) (by decide) rfl rfl ?_
        exact law_case_2 X hd hX hbl hL hi h K H locs ls hI hl
      · intro H locs ls hI hl
        refine lv_tableIn (off := 181) (tgt := 213) X.1 X.2.1 dL_law_32 (by decide) (by decide) rfl rfl ?_
        exact law_case_3 X hd hX hbl hL hi h K H locs ls hI hl
      · intro H locs ls hI hl
        refine lv_tableIn (off := 194) (tgt := 226) X.1 X.2.1 dL_law_32 (by decide) (by decide) rfl rfl ?_
        exact law_case_4 X hd hX hbl hL hi h K H locs ls hI hl
      · intro H locs ls hI hl
        refine lv_tableIn (off := 217) (tgt := 249) X.1 X.2.1 dL_law_32 (by decide) (by decide) rfl rfl ?_
        exact law_case_5 X hd hX hbl hL hi h K H locs ls hI hl
      · intro H locs ls hI hl
        refine lv_tableIn (off := 240) (tgt := 272) X.1 X.2.1 dL_law_32 (by decide) (by decide) rfl rfl ?_
        exact law_case_6 X hd hX hbl hL hi h K H locs ls hI hl
      · intro H locs ls hI hl
        refine lv_tableIn (off := 263) (tgt := 295) X.1 X.2.1 dL_law_32 (by decide) (by decide) rfl rfl ?_
        exact law_case_7 X hd hX hbl hL hi h K H locs ls hI hl
      · intro H locs ls hI hl
        refine lv_tableIn (off := 296) (tgt := 328) X.1 X.2.1 dL_law_32 (by decide) (by decide) rfl rfl ?_
        exact law_case_8 X hd hX hbl hL hi h K H locs ls hI hl
      · intro H locs ls hI hl
        refine lv_tableIn (off := 309) (tgt := 341) X.1 X.2.1 dL_law_32 (by decide) (by decide) rfl rfl ?_
        exact law_case_9 X hd hX hbl hL hi h K H locs ls hI hl
      · intro H locs ls hI hl
        refine lv_tableIn (off := 332) (tgt := 364) X.1 X.2.1 dL_law_32 (by decide) (by decide) rfl rfl ?_
        exact law_case_10 X hd hX hbl hL hi h K H locs ls hI hl
      · intro H locs ls hI hl
        refine lv_tableIn (off := 365) (tgt := 397) X.1 X.2.1 dL_law_32 (by decide) (by decide) rfl rfl ?_
        exact law_case_11 X hd hX hbl hL hi h K H locs ls hI hl
      · intro H locs ls hI hl
        refine lv_tableIn (off := 404) (tgt := 436) X.1 X.2.1 dL_law_32 (by decide) (by decide) rfl rfl ?_
        exact law_case_12 X hd hX hbl hL hi h K H locs ls hI hl
      · intro H locs ls hI hl
        refine lv_tableIn (off := 427) (tgt := 459) X.1 X.2.1 dL_law_32 (by decide) (by decide) rfl rfl ?_
        exact law_case_13 X hd hX hbl hL hi h K H locs ls hI hl
      · intro H locs ls hI hl
        refine lv_tableIn (off := 460) (tgt := 492) X.1 X.2.1 dL_law_32 (by decide) (by decide) rfl rfl ?_
        exact law_case_14 X hd hX hbl hL hi h K H locs ls hI hl
      · intro H locs ls hI hl
        refine lv_tableIn (off := 483) (tgt := 515) X.1 X.2.1 dL_law_32 (by decide) (by decide) rfl rfl ?_
        exact law_case_15 X hd hX hbl hL hi h K H locs ls hI hl
      · intro H locs ls hI hl
        refine lv_tableIn (off := 516) (tgt := 548) X.1 X.2.1 dL_law_32 (by decide) (by decide) rfl rfl ?_
        exact law_case_16 X hd hX hbl hL hi h K H locs ls hI hl
      · intro H locs ls hI hl
        refine lv_tableIn (off := 539) (tgt := 571) X.1 X.2.1 dL_law_32 (by decide) (by decide) rfl rfl ?_
        exact law_case_17 X hd hX hbl hL hi h K H locs ls hI hl
      · intro H locs ls hI hl
        refine lv_tableIn (off := 578) (tgt := 610) X.1 X.2.1 dL_law_32 (by decide) (by decide) rfl rfl ?_
        exact law_case_18 X hd hX hbl hL hi h K H locs ls hI hl
      · intro H locs ls hI hl
        refine lv_tableIn (off := 591) (tgt := 623) X.1 X.2.1 dL_law_32 (by decide) (by decide) rfl rfl ?_
        exact law_case_19 X hd hX hbl hL hi h K H locs ls hI hl
      · intro H locs ls hI hl
        refine lv_tableIn (off := 614) (tgt := 646) X.1 X.2.1 dL_law_32 (by decide) (by decide) rfl rfl ?_
        exact law_case_20 X hd hX hbl hL hi h K H locs ls hI hl
      · intro H locs ls hI hl
        refine lv_tableIn (off := 663) (tgt := 695) X.1 X.2.1 dL_law_32 (by decide) (by decide) rfl rfl ?_
        exact law_case_21 X hd hX hbl hL hi h K H locs ls hI hl
      · intro H locs ls hI hl
        refine lv_tableIn (off := 696) (tgt := 728) X.1 X.2.1 dL_law_32 (by decide) (by decide) rfl rfl ?_
        exact law_case_22 X hd hX hbl hL hi h K H locs ls hI hl
      · intro H locs ls hI hl
        refine lv_tableIn (off := 719) (tgt := 751) X.1 X.2.1 dL_law_32 (by decide) (by decide) rfl rfl ?_
        exact law_case_23 X hd hX hbl hL hi h K H locs ls hI hl
      · intro H locs ls hI hl
        refine lv_tableIn (off := 758) (tgt := 790) X.1 X.2.1 dL_law_32 (by decide) (by decide) rfl rfl ?_
        exact law_case_24 X hd hX hbl hL hi h K H locs ls hI hl
      · intro H locs ls hI hl
        refine lv_tableIn (off := 771) (tgt := 803) X.1 X.2.1 dL_law_32 (by decide) (by decide) rfl rfl ?_
        exact law_case_25 X hd hX hbl hL hi h K H locs ls hI hl
      · intro H locs ls hI hl
        refine lv_tableIn (off := 784) (tgt := 816) X.1 X.2.1 dL_law_32 (by decide) (by decide) rfl rfl ?_
        exact law_case_26 X hd hX hbl hL hi h K H locs ls hI hl
      · intro H locs ls hI hl
        refine lv_tableIn (off := 807) (tgt := 839) X.1 X.2.1 dL_law_32 (by decide) (by decide) rfl rfl ?_
        exact law_case_27 X hd hX hbl hL hi h K H locs ls hI hl
      · intro H locs ls hI hl
        refine lv_tableIn (off := 830) (tgt := 862) X.1 X.2.1 dL_law_32 (by decide) (by decide) rfl rfl ?_
        exact law_case_28 X hd hX hbl hL hi h K H locs ls hI hl
      · intro H locs ls hI hl
        refine lv_tableOut (tgt := 875) X.1 X.2.1 dL_law_32 (Or.inr (by decide)) rfl ?_
        exact K σ τ h H locs ls hI hl
      · intro H locs ls hI hl
        refine lv_tableOut (tgt := 875) X.1 X.2.1 dL_law_32 (Or.inr (by decide)) rfl ?_
        exact K σ τ h H locs ls hI hl
      · intro H locs ls hI hl
        refine lv_tableOut (tgt := 875) X.1 X.2.1 dL_law_32 (Or.inr (by decide)) rfl ?_
        exact K σ τ h H locs ls hI hl
end LAW
