/-! ===== constructors: worlds that grow ===== -/
def x_IC (D : va_G) (s : State) (A : Nat → Prop) (ws : va_W) : Heap → List Loc → Prop := fun H locs => va_P D vwCl ws H ∧ va_D A ws ∧ va_S A s.heap H locs
theorem x_IC.P {D : va_G} {s : State} {A : Nat → Prop} {ws : va_W} : ∀ (H : Heap) (locs : List Loc), x_IC D s A ws H locs → va_P D vwCl ws H := fun _ _ h => h.1
def x_PN (D : va_G) (cA : ClassId) (av : List Value) (wc : va_W) (sz : Nat) : Array Value → State → Prop := va_Pc av (fun U => U.heap.size = sz ∧ x_B D cA wc U)
theorem x_PN.blind {D : va_G} {cA : ClassId} {av : List Value} {wc : va_W} {sz : Nat} : FrameBlind (x_PN D cA av wc sz) := fun a U g mk q => by
  obtain ⟨h0, hz, hP, hK, hN⟩ := q
  exact ⟨h0, hz, hP, va_K.moved (u := U) (U := U.calling g mk a) (Vm.Alike.refl U.vm) hK, x_NW.same (s := U) (U := U.calling g mk a) rfl hN⟩
def x_UN (D : va_G) (wc : va_W) (w' : (Nat → Nat) → va_W) (sz : Nat) : Array Value → State → Outcome → State → Prop := fun _ st oc t => oc = .returned none ∧ (∃ ad : Nat → Nat, va_P D vwCl (w' ad) t.heap ∧ va_D (va_A wc sz) (w' ad)) ∧ va_F (va_A wc sz) st t
section XC
variable {D : va_G} {cA : ClassId} {cc : ByteArray} {nL : Nat} {own : String} {p : Program} {l : Launch} {e : Env} {R : Room} {s : State} {m : MethodId} {args : Array Value} {below : List Frame} {meth : Method} {c : Code} {cells slots : Nat} {Q : State → Prop} {pc : Nat} {lv lv' : List (Nat × Value)} {st st0 rest : List Value} {ws ws' wc wr : va_W} {A : Nat → Prop} {a b : Nat}
theorem xc_ws (h : ws = ws') (k : x_J nL p l e R s m args below meth c cells slots (x_IC D s A ws') Q pc lv st) : x_J nL p l e R s m args below meth c cells slots (x_IC D s A ws) Q pc lv st := by
  rw [h]; exact k
theorem xc_objInit {I : Heap → List Loc → Prop} (X : x_C D cA cc nL own p s m args meth c) {idx : Nat} (h1 : Cond.methodLink own idx objectInit ∈ x_G) (h2 : Cond.instanceMethod objectInit ∈ x_G) (h3 : Cond.code objectInit ⟨#[0xb1]⟩ 1 none ∈ x_G) (hdg : decode cc pc = .ok (.invokespecial idx, 3)) (hR : 1 ≤ R.frames ∧ (st.map fun v => v.category).sum + 12 ≤ R.locals) (kk : x_J nL p l e R s m args below meth c cells slots I Q (pc + 3) lv st) : x_J nL p l e R s m args below meth c cells slots I Q pc lv (.ref a :: st) := by
  intro H locs ls hi hl
  obtain ⟨hx, hb, hml, hown, hts, -⟩ := X
  refine W.objInit hx hb hown (hts _ h1) (hts _ h2) (hts _ h3) rfl (by rw [hml]; exact hl.1) rfl hdg hR.1 ?_ ?_
  · have : (F0 m pc ls (.ref a :: st)).monitorRoom = 0 := rfl
    rw [this]; omega
  · exact kk H locs ls hi hl
theorem xc_new (X : x_C D cA cc nL own p s m args meth c) (hA : ∀ q, s.heap.size ≤ q → A q) {C : String} {T : u_T} {N ci index : Nat} {fs : List Value} {ty : Nat → FieldType} (hin : ∀ w ∈ u_ws C T N, w ∈ x_G) (hty : ∀ k, k < N → parseFieldDescriptor (T k).2.2.1 = some (ty k)) (h1 : Cond.classLink own index C ∈ x_G) (h2 : Cond.instantiable C N ∈ x_G) (h3 : Cond.initialized C ∈ x_G) (hc : vwCl[ci]? = some (C, T, N)) (hfs : ∀ j, j < N → defaultValue (ty j) = vp_V fs j) (hcs : cells + 1 ≤ R.cells ∧ slots + N ≤ R.slots) (hdg : decode cc pc = .ok (.new index, 3)) (kk : ∀ q : Nat, x_J nL p l e R s m args below meth c (cells + 1) (slots + N) (x_IC D s A (ws ++ [(q, .inr (ci, fs))])) Q (pc + 3) lv (.ref q :: st)) : x_J nL p l e R s m args below meth c cells slots (x_IC D s A ws) Q pc lv st := by
  intro H locs ls hi hl
  obtain ⟨hP, hD, hS⟩ := hi
  obtain ⟨hx, hb, hml, hown, hts, -, hK, -⟩ := X
  exact va_new hx hb hts hin ty hty hown (hts _ h1) (hts _ h2) (hts _ h3) hK hP hD hS hA hc hfs hcs.1 hcs.2 hdg (fun q H1 hP1 hD1 hS1 => kk q H1 locs ls ⟨hP1, hD1, hS1⟩ hl)
theorem xc_newa (X : x_C D cA cc nL own p s m args meth c) (hA : ∀ q, s.heap.size ≤ q → A q) (h1 : Cond.arrayClass .int ∈ x_G) {n : Int32} (N : Nat) (hn : ¬ n < 0) (hN : n.toNatClampNeg = N) (hby : N * componentBytes .int ≤ 536870912) (hcs : cells + 1 ≤ R.cells ∧ slots + N ≤ R.slots) (hdg : decode cc pc = .ok (.newarray .int, 2)) (kk : ∀ q : Nat, x_J nL p l e R s m args below meth c (cells + 1) (slots + N) (x_IC D s A (ws ++ [(q, .inl (cA, N, .inl (fun _ => 0)))])) Q (pc + 2) lv (.ref q :: st)) : x_J nL p l e R s m args below meth c cells slots (x_IC D s A ws) Q pc lv (.int n :: st) := by
  intro H locs ls hi hl
  obtain ⟨hP, hD, hS⟩ := hi
  obtain ⟨hx, hb, hml, hown, hts, -, hK, -⟩ := X
  refine va_newa (atype := .int) (ty := .int) (a0 := (N, .inl (fun _ => 0))) hx hb (hts _ h1) rfl hK hP hD hS hA (fun _ => rfl) hn hN hby hcs.1 hcs.2 hdg (fun q cA2 H1 hK1 hP1 hD1 hS1 => ?_)
  have e1 : s.vm.findClass ("[" ++ FieldType.int.toString) = some cA := (hK.2 0 _ rfl).2
  have e2 : s.vm.findClass ("[" ++ FieldType.int.toString) = some cA2 := (hK1.2 1 _ rfl).2
  have e3 : cA2 = cA := Option.some.inj (e2.symm.trans e1)
  subst e3
  exact kk q H1 locs ls ⟨hP1, hD1, hS1⟩ hl
theorem xc_put (X : x_C D cA cc nL own p s m args meth c) {C : String} {T : u_T} {N ci index : Nat} (hin : ∀ w ∈ u_ws C T N, w ∈ x_G) {ty0 : Nat → FieldType} (hty : ∀ k, k < N → parseFieldDescriptor (T k).2.2.1 = some (ty0 k)) (hnm : ∀ a, a < N → ∀ b, b < N → a ≠ b → (T a).2.1 ≠ (T b).2.1) (q0 : Nat) {fs : List Value} (he : ws[q0]? = some (a, .inr (ci, fs))) (hc : vwCl[ci]? = some (C, T, N)) (k : Nat) (hk : k < N) (hlink : Cond.fieldLink own index (T k).1 (T k).2.1 (T k).2.2.1 ∈ x_G) (hfin : (T k).2.2.2 = false) (ty : FieldType) {x : Value} (hd : ty0 k = ty) (hn : narrow ty x = x) (hfit : fits ty x = true) (hl' : k < fs.length) (hset : ws.set q0 (a, .inr (ci, fs.set k x)) = ws') (hdg : decode cc pc = .ok (.putfield index, 3)) (kk : x_J nL p l e R s m args below meth c cells slots (x_IC D s A ws') Q (pc + 3) lv st) : x_J nL p l e R s m args below meth c cells slots (x_IC D s A ws) Q pc lv (x :: .ref a :: st) := fun H locs ls hi hl => va_put X.1 X.2.1 X.2.2.2.2.1 hin ty0 hty hnm X.2.2.2.1 X.2.2.2.2.2.2.1 hi.1 hi.2.1 hi.2.2 q0 he hc k hk (X.2.2.2.2.1 _ hlink) (fun _ h9 => h9) hfin (by rw [hty k hk, hd]) hn hfit hl' hdg (fun H1 locs1 hP1 hD1 hS1 => kk H1 locs1 ls ⟨by rw [← hset]; exact hP1, by rw [← hset]; exact hD1, hS1⟩ hl)
theorem xc_putF (X : x_C D cA cc nL own p s m args meth c) (hin2 : meth.name = "<init>") {C : String} {T : u_T} {N ci index : Nat} (hin : ∀ w ∈ u_ws C T N, w ∈ x_G) {ty0 : Nat → FieldType} (hty : ∀ k, k < N → parseFieldDescriptor (T k).2.2.1 = some (ty0 k)) (hnm : ∀ a, a < N → ∀ b, b < N → a ≠ b → (T a).2.1 ≠ (T b).2.1) (q0 : Nat) {fs : List Value} (he : ws[q0]? = some (a, .inr (ci, fs))) (hc : vwCl[ci]? = some (C, T, N)) (k : Nat) (hk : k < N) (hlink : Cond.fieldLink own index (T k).1 (T k).2.1 (T k).2.2.1 ∈ x_G) (hfin : (T k).2.2.2 = true) (hdecl : (T k).1 = own) (ty : FieldType) {x : Value} (hd : ty0 k = ty) (hn : narrow ty x = x) (hfit : fits ty x = true) (hl' : k < fs.length) (hset : ws.set q0 (a, .inr (ci, fs.set k x)) = ws') (hdg : decode cc pc = .ok (.putfield index, 3)) (kk : x_J nL p l e R s m args below meth c cells slots (x_IC D s A ws') Q (pc + 3) lv st) : x_J nL p l e R s m args below meth c cells slots (x_IC D s A ws) Q pc lv (x :: .ref a :: st) := fun H locs ls hi hl => va_putF X.1 X.2.1 X.2.2.2.2.1 hin ty0 hty hnm X.2.2.2.1 X.2.2.2.2.2.2.1 hi.1 hi.2.1 hi.2.2 q0 he hc k hk (X.2.2.2.2.1 _ hlink) (fun _ h9 => h9) hfin hin2 hdecl (by rw [hty k hk, hd]) hn hfit hl' hdg (fun H1 locs1 hP1 hD1 hS1 => kk H1 locs1 ls ⟨by rw [← hset]; exact hP1, by rw [← hset]; exact hD1, hS1⟩ hl)
theorem xc_iast (X : x_C D cA cc nL own p s m args meth c) (q0 : Nat) {n : Nat} {f : Nat → Int32} (ha : ws[q0]? = some (a, .inl (cA, n, .inl f))) {i x : Int32} (hin : x_inb i n = true) (hset : ws.set q0 (a, .inl (cA, n, .inl (upd f i.toNatClampNeg x))) = ws') (hdg : decode cc pc = .ok (.iastore, 1)) (kk : x_J nL p l e R s m args below meth c cells slots (x_IC D s A ws') Q (pc + 1) lv st) : x_J nL p l e R s m args below meth c cells slots (x_IC D s A ws) Q pc lv (.int x :: .int i :: .ref a :: st) := fun H locs ls hi hl => va_iast X.1 X.2.1 X.2.2.2.2.2.2.1 hi.1 hi.2.1 hi.2.2 q0 0 ha rfl (x_inb_in hin) hdg (fun H1 locs1 hP1 hD1 hS1 => kk H1 locs1 ls ⟨by rw [← hset]; exact hP1, by rw [← hset]; exact hD1, hS1⟩ hl)
theorem xc_call (X : x_C D cA cc nL own p s m args meth c) (hA : ∀ q, s.heap.size ≤ q → A q) {mc ms : Nat} {w' : (Nat → Nat) → va_W} {arr : Array Value} (isC isR : List Nat) (hC : isC.map (fun i => ws[i]?) = wc.map some) (hR : isR.map (fun i => ws[i]?) = wr.map some) (hn : va_nd isR = true) (hdis : ∀ i ∈ isR, i ∉ isC) (hr : ∀ (H : Heap) (locs : List Loc) (ls : Array Slot), va_P D vwCl wc H → lv_has ls nL lv → va_Run p l e R s m args below meth c H locs cells slots mc ms (F0 m pc ls st0) rest (x_UN D wc w' H.size arr) (va_A wc H.size)) (kk : ∀ ad : Nat → Nat, x_J nL p l e R s m args below meth c (cells + mc) (slots + ms) (x_IC D s A (wr ++ w' ad)) Q (pc + 3) lv rest) : x_J nL p l e R s m args below meth c cells slots (x_IC D s A ws) Q pc lv st0 := by
  intro H locs ls hi hl T hT Z
  obtain ⟨hP, hD, hS⟩ := hi
  have hPc : va_P D vwCl wc H := by
    intro k q hk
    have h1 : (isC.map (fun i => ws[i]?))[k]? = some (some q) := by rw [hC, List.getElem?_map, hk]; rfl
    rw [List.getElem?_map] at h1
    cases hi2 : isC[k]? with
    | none => rw [hi2] at h1; cases h1
    | some i => rw [hi2] at h1; exact hP i q (Option.some.inj h1)
  have hFc := va_free hD hS hA isC hC
  obtain ⟨v', t0, t, T', L, h0, X', hL, e1, e2, ⟨hv, ⟨ad, hP1, hD1⟩, hz, hk⟩, st⟩ := hr H locs ls hPc hl T hT Z
  cases hv
  rw [h0] at hz hk
  rw [← e1] at hP1 hz hk
  obtain ⟨hP2, hD2⟩ := va_join hP hD isC isR hC hR hn hdis hk hFc hP1 hD1
  obtain ⟨t2, a1, b1⟩ := kk ad T'.heap (locs ++ L) ls ⟨hP2, hD2, Nat.le_trans hS.1 hz, fun q h1 h2 => by rw [hk q (Nat.lt_of_lt_of_le h1 hS.1) (fun z => h2 (hFc q z))]; exact hS.2.1 q h1 h2, fun q hq => by
      rcases List.mem_append.mp hq with h | h
      · exact hS.2.2 q h
      · exact hFc _ (hL q h)⟩ hl T' rfl X'
  exact ⟨t2, st t2 a1, b1⟩
theorem x_runIN (X : x_C D cA cc nL own p s m args meth c) {y : MethodName} {rm : Room} {bytes : ByteArray} {mL index mc ms : Nat} {host : String} {w' : (Nat → Nat) → va_W} (hM : ∀ sz, Met l y (Cond.code y bytes mL none :: x_G) rm (x_PN D cA [.ref b] wc sz) (x_UN D wc w' sz) mc ms (va_A wc sz)) (hl : (own, index, y, host) ∈ x_nest) (hin : Cond.instanceMethod y ∈ x_G) (hini : Cond.initialized y.cls ∈ x_G) (hcd : Cond.code y bytes mL none ∈ x_G) (hy : y.name = "<init>") (hd : y.cls ≠ "java/lang/invoke/MethodHandle" ∧ y.cls ≠ "java/lang/invoke/VarHandle" ∧ (parseMethodDescriptor y.desc).map (fun d => d.parameters.length) = some 0) (hrc : rm.cells = mc) (hrs : rm.slots = ms) (hR : rm.frames + 1 ≤ R.frames ∧ 8 + (mL + 11) + rm.locals ≤ R.locals) (hst : st0 = .ref b :: rest) (hroom : (rest.map fun v => v.category).sum ≤ 8) (hdg : decode cc pc = .ok (.invokespecial index, 3)) (hcs : cells + mc ≤ R.cells ∧ slots + ms ≤ R.slots) : ∀ (H : Heap) (locs : List Loc) (ls : Array Slot), va_P D vwCl wc H → lv_has ls nL lv → va_Run p l e R s m args below meth c H locs cells slots mc ms (F0 m pc ls st0) rest (x_UN D wc w' H.size (Value.ref b :: []).toArray) (va_A wc H.size) := by
  intro H locs ls hP hlv
  obtain ⟨hx, hb, hml, hown, hts, -, hK, hN⟩ := X
  exact va_runIN (As := []) ⟨hx, hb, hml, hown, hts⟩ (hM H.size) ⟨va_cnB 0 hts (x_gi (List.forall_mem_cons.mpr ⟨hcd, fun _ h => h⟩)) rfl hrc hrs (hN _ hl) (hts _ hini) hd hR, hy, hts _ hin⟩ ⟨x_PN.blind, fun U hU hW => ⟨rfl, by rw [hU], by rw [hU]; exact hP, va_K.moved hW.alike hK, hN.warm hW⟩⟩ rfl rfl hlv.1 hst (lv_room hroom) hdg hcs
theorem x_runI (X : x_C D cA cc nL own p s m args meth c) {y : MethodName} {rm : Room} {bytes : ByteArray} {mL index mc ms : Nat} {w' : (Nat → Nat) → va_W} (hM : ∀ sz, Met l y (Cond.code y bytes mL none :: x_G) rm (x_PN D cA [.ref b] wc sz) (x_UN D wc w' sz) mc ms (va_A wc sz)) (hl : Cond.methodLink own index y ∈ x_G) (hin : Cond.instanceMethod y ∈ x_G) (hini : Cond.initialized y.cls ∈ x_G) (hcd : Cond.code y bytes mL none ∈ x_G) (hy : y.name = "<init>") (hd : y.cls ≠ "java/lang/invoke/MethodHandle" ∧ y.cls ≠ "java/lang/invoke/VarHandle" ∧ (parseMethodDescriptor y.desc).map (fun d => d.parameters.length) = some 0) (hrc : rm.cells = mc) (hrs : rm.slots = ms) (hR : rm.frames + 1 ≤ R.frames ∧ 8 + (mL + 11) + rm.locals ≤ R.locals) (hst : st0 = .ref b :: rest) (hroom : (rest.map fun v => v.category).sum ≤ 8) (hdg : decode cc pc = .ok (.invokespecial index, 3)) (hcs : cells + mc ≤ R.cells ∧ slots + ms ≤ R.slots) : ∀ (H : Heap) (locs : List Loc) (ls : Array Slot), va_P D vwCl wc H → lv_has ls nL lv → va_Run p l e R s m args below meth c H locs cells slots mc ms (F0 m pc ls st0) rest (x_UN D wc w' H.size (Value.ref b :: []).toArray) (va_A wc H.size) := by
  intro H locs ls hP hlv
  obtain ⟨hx, hb, hml, hown, hts, -, hK, hN⟩ := X
  exact va_runI (As := []) ⟨hx, hb, hml, hown, hts⟩ (hM H.size) (cwI 0 hts (x_gi (List.forall_mem_cons.mpr ⟨hcd, fun _ h => h⟩)) rfl hrc hrs (hts _ hini) (hts _ hl) (hts _ hin) hy hd hR) ⟨x_PN.blind, fun U hU hW => ⟨rfl, by rw [hU], by rw [hU]; exact hP, va_K.moved hW.alike hK, hN.warm hW⟩⟩ rfl rfl hlv.1 hst (lv_room hroom) hdg hcs
theorem xc_vret (X : x_C D cA cc nL own p s m args meth c) (hr : meth.sig.returnType = none) {w' : (Nat → Nat) → va_W} {sz : Nat} (ad : Nat → Nat) (hw : ws = w' ad) (hdg : decode cc pc = .ok (.return_, 1)) : x_J nL p l e R s m args below meth c cells slots (x_IC D s (va_A wc sz) ws) (MQ below (x_UN D wc w' sz) args s cells slots (va_A wc sz)) pc lv [] := by
  intro H locs ls hi hl
  obtain ⟨hP, hD, hS⟩ := hi
  subst hw
  exact W.vret X.1 X.2.1 hr (fun t ht hW => ⟨rfl, ⟨ad, by rw [ht]; exact hP, hD⟩, hS.F ht⟩) hS.2.2 hdg X.2.2.2.2.2.1
end XC
theorem x_metN {l : Launch} {D : va_G} {cA : ClassId} {y : MethodName} {cc : ByteArray} {maxL : Nat} {rm : Room} {h0 sz : Nat} {en : va_E} {Qc : Array Value → State → Outcome → State → Prop} {mc ms : Nat} (own : String) (hown : y.cls = own) (hy : plainName y.cls = true) (hyn : y.name = "<init>") (hn : 1 ≤ maxL) (body : ∀ (p : Program) (e : Env) (s : State) (m : MethodId) (args : Array Value) (below : List Frame) (meth : Method) (c : Code), meth.sig.returnType = none → meth.name = "<init>" → s.heap.size = sz → (∀ q, s.heap.size ≤ q → va_A [(h0, en)] sz q) → x_C D cA cc maxL own p s m args meth c → x_J maxL p l e rm s m args below meth c 0 0 (x_IC D s (va_A [(h0, en)] sz) [(h0, en)]) (MQ below Qc args s mc ms (va_A [(h0, en)] sz)) 0 [(0, .ref h0)] []) : Met l y (Cond.code y cc maxL none :: x_G) rm (x_PN D cA [.ref h0] [(h0, en)] sz) Qc mc ms (va_A [(h0, en)] sz) := by
  refine Met.ofW (cc := cc) (maxL := maxL) (ret := none) hy rfl ?_
  intro p e s m args below meth c s₁ B hml hv
  obtain ⟨rfl, hz, hP, hK, hN⟩ := hv
  have hl := lv_entry [Value.ref h0] (n := maxL) hn
  rw [lg_entry_eq]
  exact body p e s m _ below meth c B.returns (by rw [(name_of_methodNamed B.named B.method).1]; exact hyn) hz (fun q h => Or.inr (by rw [← hz]; exact h)) ⟨B.exec, B.bytes, hml, by rw [← hown]; exact findClass_of_methodNamed B.named, fun w h => atoms_spec (ws := Cond.code y cc maxL none :: x_G) B.pre w (List.mem_cons_of_mem _ h), B.notSynchronized, hK, hN⟩ s.heap [] _ ⟨hP, ⟨fun i j x q h1 h2 _ => by
      have e1 : i = 0 := by
        cases i with
        | zero => rfl
        | succ i => simp at h1
      have e2 : j = 0 := by
        cases j with
        | zero => rfl
        | succ j => simp at h2
      rw [e1, e2], fun k q hk => va_A.in hk⟩, va_S.rf⟩ hl
