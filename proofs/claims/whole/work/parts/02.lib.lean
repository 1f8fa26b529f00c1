/-! ===== pure words: a side's memory is a function of cell and slot ===== -/
abbrev x_M : Type := Nat → Nat → Int32
def up2 (σ : x_M) (k j : Nat) (v : Int32) : x_M := fun a => if a = k then upd (σ k) j v else σ a
def b2i (b : Bool) : Int32 := match b with
  | true => 1
  | false => 0
def x_at (N : Nat) (f : Nat → Int32) (i : Int32) : Int32 := if i < 0 then 0 else if Int32.ofNat N ≤ i then 0 else f i.toNatClampNeg
def x_pt (N : Nat) (f : Nat → Int32) (i v : Int32) : Nat → Int32 := if i < 0 then f else if Int32.ofNat N ≤ i then f else upd f i.toNatClampNeg v
def pu (σ : x_M) (k N : Nat) (i v : Int32) : x_M := fun a => if a = k then x_pt N (σ k) i v else σ a
def x_inb (i : Int32) (n : Nat) : Bool := decide (0 ≤ i.toInt) && decide (i.toInt < n)
theorem x_inb_in {i : Int32} {n : Nat} (h : x_inb i n = true) : vp_in i n := by
  unfold x_inb at h
  rw [Bool.and_eq_true, decide_eq_true_eq, decide_eq_true_eq] at h
  exact vp_in_iff.mpr h
theorem x_bind {α β : Type} {o : Option α} {k : α → Option β} {r : β} (h : Option.bind o k = some r) : ∃ x, o = some x ∧ k x = some r := by
  cases o with
  | none => cases h
  | some x => exact ⟨x, rfl, h⟩
theorem x_grd {β : Type} {P : Prop} [Decidable P] {k : Option β} {r : β} (h : (if P then k else none) = some r) : P ∧ k = some r := by
  by_cases c : P
  · rw [if_pos c] at h; exact ⟨c, h⟩
  · rw [if_neg c] at h; cases h
theorem x_2a {α β : Type} {a c : α} {b d : β} (h : some (a, b) = some (c, d)) : a = c := by cases h; rfl
theorem x_2b {α β : Type} {a c : α} {b d : β} (h : some (a, b) = some (c, d)) : b = d := by cases h; rfl
theorem x_1 {α : Type} {a c : α} (h : some a = some c) : a = c := by cases h; rfl
theorem x_b2i {a c : Bool} (h : a = c) : b2i a = b2i c := by rw [h]
theorem x_nar (b : Bool) : narrow .boolean (.int (b2i b)) = .int (b2i b) := by cases b <;> rfl
theorem x_fit (b : Bool) : fits .boolean (.int (b2i b)) = true := by cases b <;> rfl
/-! ===== nest mates' links: what isn't a word of the lists ===== -/
def x_NW (U : State) : Prop := ∀ q ∈ x_nest, va_Nw (.methodLinkNest q.1 q.2.1 q.2.2.1 q.2.2.2) U
theorem x_NW.warm {s U : State} (hW : s.WarmedH U.vm) (h : x_NW s) : x_NW U := fun q hq => va_Nw.warmM hW (h q hq)
theorem x_NW.same {s U : State} (e : s.vm = U.vm) (h : x_NW s) : x_NW U := fun q hq => va_Nw.same rfl e (h q hq)
/-! ===== a contract's start and ends ===== -/
def x_B (D : va_G) (cA : ClassId) (ws : va_W) (U : State) : Prop := va_P D vwCl ws U.heap ∧ va_K D vwCl [(cA, .int)] U ∧ x_NW U
def x_P (D : va_G) (cA : ClassId) (av : List Value) (ws : va_W) : Array Value → State → Prop := va_Pc av (x_B D cA ws)
theorem x_P.blind {D : va_G} {cA : ClassId} {av : List Value} {ws : va_W} : FrameBlind (x_P D cA av ws) := fun a U g mk q => by
  obtain ⟨h0, hP, hK, hN⟩ := q
  exact ⟨h0, hP, va_K.moved (u := U) (U := U.calling g mk a) (Vm.Alike.refl U.vm) hK, x_NW.same (s := U) (U := U.calling g mk a) rfl hN⟩
/-- the heap is as it was -/
def x_R (v : Option Value) : Array Value → State → Outcome → State → Prop := fun _ st oc t => oc = .returned v ∧ t.heap = st.heap
/-- the world is the second one; what isn't its own stays -/
def x_U (D : va_G) (v : Option Value) (ws' : va_W) (A : Nat → Prop) : Array Value → State → Outcome → State → Prop := fun _ st oc t => oc = .returned v ∧ va_P D vwCl ws' t.heap ∧ va_F A st t
/-! ===== the judgement ===== -/
def x_C (D : va_G) (cA : ClassId) (cc : ByteArray) (nL : Nat) (own : String) (p : Program) (s : State) (m : MethodId) (args : Array Value) (meth : Method) (c : Code) : Prop :=
  p.tables.exec = Jvm.exec ∧ c.code = cc ∧ c.maxLocals = nL ∧ s.vm.findClass own = some m.cls ∧ (∀ w ∈ x_G, w.before args s = true) ∧ meth.locks = false ∧ va_K D vwCl [(cA, .int)] s ∧ x_NW s
def x_J (nL : Nat) (p : Program) (l : Launch) (e : Env) (R : Room) (s : State) (m : MethodId) (args : Array Value) (below : List Frame) (meth : Method) (c : Code) (cells slots : Nat) (I : Heap → List Loc → Prop) (Q : State → Prop) (pc : Nat) (lv : List (Nat × Value)) (st : List Value) : Prop :=
  ∀ (H : Heap) (locs : List Loc) (ls : Array Slot), I H locs → lv_has ls nL lv → W p l e R s m args below meth c H locs cells slots Q (F0 m pc ls st)
def x_IR (D : va_G) (s : State) (ws : va_W) : Heap → List Loc → Prop := fun H locs => H = s.heap ∧ locs = [] ∧ va_P D vwCl ws H
def x_IW (D : va_G) (s : State) (A : Nat → Prop) (ws : va_W) : Heap → List Loc → Prop := fun H locs => va_P D vwCl ws H ∧ va_S A s.heap H locs
theorem x_IR.P {D : va_G} {s : State} {ws : va_W} : ∀ (H : Heap) (locs : List Loc), x_IR D s ws H locs → va_P D vwCl ws H := fun _ _ h => h.2.2
theorem x_IW.P {D : va_G} {s : State} {A : Nat → Prop} {ws : va_W} : ∀ (H : Heap) (locs : List Loc), x_IW D s A ws H locs → va_P D vwCl ws H := fun _ _ h => h.1
section XJ
variable {D : va_G} {cA : ClassId} {cc : ByteArray} {nL : Nat} {own : String} {p : Program} {l : Launch} {e : Env} {R : Room} {s : State} {m : MethodId} {args : Array Value} {below : List Frame} {meth : Method} {c : Code} {cells slots : Nat} {I : Heap → List Loc → Prop} {Q : State → Prop} {pc : Nat} {lv lv' : List (Nat × Value)} {st st0 rest : List Value} {ws ws' ws1 ws1' : va_W} {A A0 A1 : Nat → Prop} {a b : Nat} {v : Option Value}
theorem xj_w (k : x_J nL p l e R s m args below meth c cells slots (x_IW D s A ws) Q pc lv st) : x_J nL p l e R s m args below meth c cells slots (x_IR D s ws) Q pc lv st := by
  intro H locs ls ⟨h1, h2, h3⟩ hl
  subst h2
  exact k H [] ls ⟨h3, by rw [h1]; exact va_S.rf⟩ hl
theorem xj_sub (ks : List Nat) (h : lv_pick lv ks = lv') (k : x_J nL p l e R s m args below meth c cells slots I Q pc lv' st) : x_J nL p l e R s m args below meth c cells slots I Q pc lv st :=
  fun H locs ls hI hl => k H locs ls hI (lv_sub hl ks h)
theorem xj_iw (h : ws = ws') (k : x_J nL p l e R s m args below meth c cells slots (x_IW D s A ws') Q pc lv st) : x_J nL p l e R s m args below meth c cells slots (x_IW D s A ws) Q pc lv st := by
  rw [h]; exact k

theorem xj_iload_n (X : x_C D cA cc nL own p s m args meth c) {k : Fin 4} {i : Nat} {x : Int32} (q : Nat) (hdg : decode cc pc = .ok (.iload_n k, 1)) (hi : (k : Nat) = i) (hq : lv[q]? = some (i, .int x)) (kk : x_J nL p l e R s m args below meth c cells slots I Q (pc + 1) lv (.int x :: st)) : x_J nL p l e R s m args below meth c cells slots I Q pc lv st := fun H locs ls hI hl => lv_iload_n X.1 X.2.1 hdg hi (lv_at hl q hq) (kk H locs ls hI hl)
theorem xj_iload (X : x_C D cA cc nL own p s m args meth c) {i : Nat} {x : Int32} (q : Nat) (hdg : decode cc pc = .ok (.iload i, 2)) (hq : lv[q]? = some (i, .int x)) (kk : x_J nL p l e R s m args below meth c cells slots I Q (pc + 2) lv (.int x :: st)) : x_J nL p l e R s m args below meth c cells slots I Q pc lv st := fun H locs ls hI hl => lv_iload X.1 X.2.1 hdg (lv_at hl q hq) (kk H locs ls hI hl)
theorem xj_aload_n (X : x_C D cA cc nL own p s m args meth c) {k : Fin 4} {i : Nat} {x : Nat} (q : Nat) (hdg : decode cc pc = .ok (.aload_n k, 1)) (hi : (k : Nat) = i) (hq : lv[q]? = some (i, .ref x)) (kk : x_J nL p l e R s m args below meth c cells slots I Q (pc + 1) lv (.ref x :: st)) : x_J nL p l e R s m args below meth c cells slots I Q pc lv st := fun H locs ls hI hl => lv_aload_n X.1 X.2.1 hdg hi (lv_at hl q hq) (kk H locs ls hI hl)
theorem xj_aload (X : x_C D cA cc nL own p s m args meth c) {i : Nat} {x : Nat} (q : Nat) (hdg : decode cc pc = .ok (.aload i, 2)) (hq : lv[q]? = some (i, .ref x)) (kk : x_J nL p l e R s m args below meth c cells slots I Q (pc + 2) lv (.ref x :: st)) : x_J nL p l e R s m args below meth c cells slots I Q pc lv st := fun H locs ls hI hl => lv_aload X.1 X.2.1 hdg (lv_at hl q hq) (kk H locs ls hI hl)
theorem xj_istore_n (X : x_C D cA cc nL own p s m args meth c) {k : Fin 4} {i : Nat} {x : Int32} (hdg : decode cc pc = .ok (.istore_n k, 1)) (hi : (k : Nat) = i) (hn : i < nL) (hv : (i, Value.int x) :: lv.filter (fun q => !(q.1 == i) && !(q.1 + 1 == i && q.2.category == 2)) = lv') (kk : x_J nL p l e R s m args below meth c cells slots I Q (pc + 1) lv' st) : x_J nL p l e R s m args below meth c cells slots I Q pc lv (.int x :: st) := fun H locs ls hI hl => lv_istore_n X.1 X.2.1 hdg hi hl hn hv (fun ls1 hl1 => kk H locs ls1 hI hl1)
theorem xj_istore (X : x_C D cA cc nL own p s m args meth c) {i : Nat} {x : Int32} (hdg : decode cc pc = .ok (.istore i, 2)) (hn : i < nL) (hv : (i, Value.int x) :: lv.filter (fun q => !(q.1 == i) && !(q.1 + 1 == i && q.2.category == 2)) = lv') (kk : x_J nL p l e R s m args below meth c cells slots I Q (pc + 2) lv' st) : x_J nL p l e R s m args below meth c cells slots I Q pc lv (.int x :: st) := fun H locs ls hI hl => lv_istore X.1 X.2.1 hdg hl hn hv (fun ls1 hl1 => kk H locs ls1 hI hl1)
theorem xj_astore_n (X : x_C D cA cc nL own p s m args meth c) {k : Fin 4} {i : Nat} {x : Nat} (hdg : decode cc pc = .ok (.astore_n k, 1)) (hi : (k : Nat) = i) (hn : i < nL) (hv : (i, Value.ref x) :: lv.filter (fun q => !(q.1 == i) && !(q.1 + 1 == i && q.2.category == 2)) = lv') (kk : x_J nL p l e R s m args below meth c cells slots I Q (pc + 1) lv' st) : x_J nL p l e R s m args below meth c cells slots I Q pc lv (.ref x :: st) := fun H locs ls hI hl => lv_astore_n X.1 X.2.1 hdg hi hl hn hv (fun ls1 hl1 => kk H locs ls1 hI hl1)
theorem xj_iinc (X : x_C D cA cc nL own p s m args meth c) {i : Nat} {n : Int} {x y : Int32} (q : Nat) (hdg : decode cc pc = .ok (.iinc i n, 3)) (hq : lv[q]? = some (i, .int x)) (hy : x + Int32.ofInt n = y) (hn : i < nL) (hv : (i, Value.int y) :: lv.filter (fun q => !(q.1 == i) && !(q.1 + 1 == i && q.2.category == 2)) = lv') (kk : x_J nL p l e R s m args below meth c cells slots I Q (pc + 3) lv' st) : x_J nL p l e R s m args below meth c cells slots I Q pc lv st := fun H locs ls hI hl => lv_iinc X.1 X.2.1 hdg hl hq hy hn hv (fun ls1 hl1 => kk H locs ls1 hI hl1)
theorem xj_iconst (X : x_C D cA cc nL own p s m args meth c) {n : Int} {x : Int32} (hdg : decode cc pc = .ok (.iconst n, 1)) (hx : Int32.ofInt n = x) (kk : x_J nL p l e R s m args below meth c cells slots I Q (pc + 1) lv (.int x :: st)) : x_J nL p l e R s m args below meth c cells slots I Q pc lv st := fun H locs ls hI hl => lv_iconst X.1 X.2.1 hdg hx (kk H locs ls hI hl)
theorem xj_bipush (X : x_C D cA cc nL own p s m args meth c) {n : Int} {x : Int32} (hdg : decode cc pc = .ok (.bipush n, 2)) (hx : (Int8.ofInt n).toInt32 = x) (kk : x_J nL p l e R s m args below meth c cells slots I Q (pc + 2) lv (.int x :: st)) : x_J nL p l e R s m args below meth c cells slots I Q pc lv st := fun H locs ls hI hl => lv_bipush X.1 X.2.1 hdg hx (kk H locs ls hI hl)
theorem xj_sipush (X : x_C D cA cc nL own p s m args meth c) {n : Int} {x : Int32} (hdg : decode cc pc = .ok (.sipush n, 3)) (hx : (Int16.ofInt n).toInt32 = x) (kk : x_J nL p l e R s m args below meth c cells slots I Q (pc + 3) lv (.int x :: st)) : x_J nL p l e R s m args below meth c cells slots I Q pc lv st := fun H locs ls hI hl => lv_sipush X.1 X.2.1 hdg hx (kk H locs ls hI hl)
theorem xj_ldc (X : x_C D cA cc nL own p s m args meth c) {index : Nat} {x : Int32} (hw : Jvm.Cond.constant own index x ∈ x_G) (hdg : decode cc pc = .ok (.ldc index, 2)) (kk : x_J nL p l e R s m args below meth c cells slots I Q (pc + 2) lv (.int x :: st)) : x_J nL p l e R s m args below meth c cells slots I Q pc lv st := fun H locs ls hI hl => lv_ldc X.1 X.2.1 X.2.2.2.1 (X.2.2.2.2.1 _ hw) hdg (kk H locs ls hI hl)
theorem xj_dup (X : x_C D cA cc nL own p s m args meth c) {va : Value} (hdg : decode cc pc = .ok (.dup, 1)) (hva : va.category = 1) (kk : x_J nL p l e R s m args below meth c cells slots I Q (pc + 1) lv (va :: va :: st)) : x_J nL p l e R s m args below meth c cells slots I Q pc lv (va :: st) := fun H locs ls hI hl => lv_dup X.1 X.2.1 hdg hva (kk H locs ls hI hl)
theorem xj_dup2 (X : x_C D cA cc nL own p s m args meth c) {va vb : Value} (hdg : decode cc pc = .ok (.dup2, 1)) (hva : va.category = 1) (hvb : vb.category = 1) (kk : x_J nL p l e R s m args below meth c cells slots I Q (pc + 1) lv (va :: vb :: va :: vb :: st)) : x_J nL p l e R s m args below meth c cells slots I Q pc lv (va :: vb :: st) := fun H locs ls hI hl => lv_dup2_11 X.1 X.2.1 hdg hva hvb (kk H locs ls hI hl)
theorem xj_goto (X : x_C D cA cc nL own p s m args meth c) {off : Int} {tgt : Nat} (hdg : decode cc pc = .ok (.goto off, 3)) (ht : (pc : Int) + off = (tgt : Int)) (kk : x_J nL p l e R s m args below meth c cells slots I Q tgt lv st) : x_J nL p l e R s m args below meth c cells slots I Q pc lv st := fun H locs ls hI hl => lv_goto X.1 X.2.1 hdg ht (kk H locs ls hI hl)
theorem xj_ineg (X : x_C D cA cc nL own p s m args meth c) {x : Int32} (hdg : decode cc pc = .ok (.ineg, 1)) (kk : x_J nL p l e R s m args below meth c cells slots I Q (pc + 1) lv (.int (-x) :: st)) : x_J nL p l e R s m args below meth c cells slots I Q pc lv (.int x :: st) := fun H locs ls hI hl => lv_ineg X.1 X.2.1 hdg (kk H locs ls hI hl)
theorem xj_irem (X : x_C D cA cc nL own p s m args meth c) {x y : Int32} (hdg : decode cc pc = .ok (.irem, 1)) (hne : ¬ y = 0) (kk : x_J nL p l e R s m args below meth c cells slots I Q (pc + 1) lv (.int (x - x / y * y) :: st)) : x_J nL p l e R s m args below meth c cells slots I Q pc lv (.int y :: .int x :: st) := fun H locs ls hI hl => lv_irem X.1 X.2.1 hdg hne (kk H locs ls hI hl)
theorem xj_iadd (X : x_C D cA cc nL own p s m args meth c) {x y : Int32} (hdg : decode cc pc = .ok (.iadd, 1)) (kk : x_J nL p l e R s m args below meth c cells slots I Q (pc + 1) lv (.int (x + y) :: st)) : x_J nL p l e R s m args below meth c cells slots I Q pc lv (.int y :: .int x :: st) := fun H locs ls hI hl => lv_iadd X.1 X.2.1 hdg (kk H locs ls hI hl)
theorem xj_isub (X : x_C D cA cc nL own p s m args meth c) {x y : Int32} (hdg : decode cc pc = .ok (.isub, 1)) (kk : x_J nL p l e R s m args below meth c cells slots I Q (pc + 1) lv (.int (x - y) :: st)) : x_J nL p l e R s m args below meth c cells slots I Q pc lv (.int y :: .int x :: st) := fun H locs ls hI hl => lv_isub X.1 X.2.1 hdg (kk H locs ls hI hl)
theorem xj_imul (X : x_C D cA cc nL own p s m args meth c) {x y : Int32} (hdg : decode cc pc = .ok (.imul, 1)) (kk : x_J nL p l e R s m args below meth c cells slots I Q (pc + 1) lv (.int (x * y) :: st)) : x_J nL p l e R s m args below meth c cells slots I Q pc lv (.int y :: .int x :: st) := fun H locs ls hI hl => lv_imul X.1 X.2.1 hdg (kk H locs ls hI hl)
theorem xj_iand (X : x_C D cA cc nL own p s m args meth c) {x y : Int32} (hdg : decode cc pc = .ok (.iand, 1)) (kk : x_J nL p l e R s m args below meth c cells slots I Q (pc + 1) lv (.int (x &&& y) :: st)) : x_J nL p l e R s m args below meth c cells slots I Q pc lv (.int y :: .int x :: st) := fun H locs ls hI hl => lv_iand X.1 X.2.1 hdg (kk H locs ls hI hl)
theorem xj_ior (X : x_C D cA cc nL own p s m args meth c) {x y : Int32} (hdg : decode cc pc = .ok (.ior, 1)) (kk : x_J nL p l e R s m args below meth c cells slots I Q (pc + 1) lv (.int (x ||| y) :: st)) : x_J nL p l e R s m args below meth c cells slots I Q pc lv (.int y :: .int x :: st) := fun H locs ls hI hl => lv_ior X.1 X.2.1 hdg (kk H locs ls hI hl)
theorem xj_ishr (X : x_C D cA cc nL own p s m args meth c) {x y : Int32} (hdg : decode cc pc = .ok (.ishr, 1)) (kk : x_J nL p l e R s m args below meth c cells slots I Q (pc + 1) lv (.int (x >>> (y &&& 31)) :: st)) : x_J nL p l e R s m args below meth c cells slots I Q pc lv (.int y :: .int x :: st) := fun H locs ls hI hl => lv_ishr X.1 X.2.1 hdg (kk H locs ls hI hl)
theorem xj_if_eq {β : Type} {P N r : β} (X : x_C D cA cc nL own p s m args meth c) {x : Int32} {off : Int} {tgt : Nat} (hdg : decode cc pc = .ok (.ifCond .eq off, 3)) (ht : (pc : Int) + off = (tgt : Int)) (hf : (if x = 0 then P else N) = r) (kt : P = r → x_J nL p l e R s m args below meth c cells slots I Q tgt lv st) (kn : N = r → x_J nL p l e R s m args below meth c cells slots I Q (pc + 3) lv st) : x_J nL p l e R s m args below meth c cells slots I Q pc lv (.int x :: st) := fun H locs ls hI hl => lv_if_eq X.1 X.2.1 hdg ht (fun h => kt (by rw [if_pos h] at hf; exact hf) H locs ls hI hl) (fun h => kn (by rw [if_neg h] at hf; exact hf) H locs ls hI hl)
theorem xj_if_lt {β : Type} {P N r : β} (X : x_C D cA cc nL own p s m args meth c) {x : Int32} {off : Int} {tgt : Nat} (hdg : decode cc pc = .ok (.ifCond .lt off, 3)) (ht : (pc : Int) + off = (tgt : Int)) (hf : (if x < 0 then P else N) = r) (kt : P = r → x_J nL p l e R s m args below meth c cells slots I Q tgt lv st) (kn : N = r → x_J nL p l e R s m args below meth c cells slots I Q (pc + 3) lv st) : x_J nL p l e R s m args below meth c cells slots I Q pc lv (.int x :: st) := fun H locs ls hI hl => lv_if_lt X.1 X.2.1 hdg ht (fun h => kt (by rw [if_pos h] at hf; exact hf) H locs ls hI hl) (fun h => kn (by rw [if_neg h] at hf; exact hf) H locs ls hI hl)
theorem xj_if_ge {β : Type} {P N r : β} (X : x_C D cA cc nL own p s m args meth c) {x : Int32} {off : Int} {tgt : Nat} (hdg : decode cc pc = .ok (.ifCond .ge off, 3)) (ht : (pc : Int) + off = (tgt : Int)) (hf : (if 0 ≤ x then P else N) = r) (kt : P = r → x_J nL p l e R s m args below meth c cells slots I Q tgt lv st) (kn : N = r → x_J nL p l e R s m args below meth c cells slots I Q (pc + 3) lv st) : x_J nL p l e R s m args below meth c cells slots I Q pc lv (.int x :: st) := fun H locs ls hI hl => lv_if_ge X.1 X.2.1 hdg ht (fun h => kt (by rw [if_pos h] at hf; exact hf) H locs ls hI hl) (fun h => kn (by rw [if_neg h] at hf; exact hf) H locs ls hI hl)
theorem xj_if_gt {β : Type} {P N r : β} (X : x_C D cA cc nL own p s m args meth c) {x : Int32} {off : Int} {tgt : Nat} (hdg : decode cc pc = .ok (.ifCond .gt off, 3)) (ht : (pc : Int) + off = (tgt : Int)) (hf : (if 0 < x then P else N) = r) (kt : P = r → x_J nL p l e R s m args below meth c cells slots I Q tgt lv st) (kn : N = r → x_J nL p l e R s m args below meth c cells slots I Q (pc + 3) lv st) : x_J nL p l e R s m args below meth c cells slots I Q pc lv (.int x :: st) := fun H locs ls hI hl => lv_if_gt X.1 X.2.1 hdg ht (fun h => kt (by rw [if_pos h] at hf; exact hf) H locs ls hI hl) (fun h => kn (by rw [if_neg h] at hf; exact hf) H locs ls hI hl)
theorem xj_if_le {β : Type} {P N r : β} (X : x_C D cA cc nL own p s m args meth c) {x : Int32} {off : Int} {tgt : Nat} (hdg : decode cc pc = .ok (.ifCond .le off, 3)) (ht : (pc : Int) + off = (tgt : Int)) (hf : (if x ≤ 0 then P else N) = r) (kt : P = r → x_J nL p l e R s m args below meth c cells slots I Q tgt lv st) (kn : N = r → x_J nL p l e R s m args below meth c cells slots I Q (pc + 3) lv st) : x_J nL p l e R s m args below meth c cells slots I Q pc lv (.int x :: st) := fun H locs ls hI hl => lv_if_le X.1 X.2.1 hdg ht (fun h => kt (by rw [if_pos h] at hf; exact hf) H locs ls hI hl) (fun h => kn (by rw [if_neg h] at hf; exact hf) H locs ls hI hl)
theorem xj_icmp_eq {β : Type} {P N r : β} (X : x_C D cA cc nL own p s m args meth c) {x y : Int32} {off : Int} {tgt : Nat} (hdg : decode cc pc = .ok (.if_icmp .eq off, 3)) (ht : (pc : Int) + off = (tgt : Int)) (hf : (if x = y then P else N) = r) (kt : P = r → x_J nL p l e R s m args below meth c cells slots I Q tgt lv st) (kn : N = r → x_J nL p l e R s m args below meth c cells slots I Q (pc + 3) lv st) : x_J nL p l e R s m args below meth c cells slots I Q pc lv (.int y :: .int x :: st) := fun H locs ls hI hl => lv_icmp_eq X.1 X.2.1 hdg ht (fun h => kt (by rw [if_pos h] at hf; exact hf) H locs ls hI hl) (fun h => kn (by rw [if_neg h] at hf; exact hf) H locs ls hI hl)
theorem xj_icmp_lt {β : Type} {P N r : β} (X : x_C D cA cc nL own p s m args meth c) {x y : Int32} {off : Int} {tgt : Nat} (hdg : decode cc pc = .ok (.if_icmp .lt off, 3)) (ht : (pc : Int) + off = (tgt : Int)) (hf : (if x < y then P else N) = r) (kt : P = r → x_J nL p l e R s m args below meth c cells slots I Q tgt lv st) (kn : N = r → x_J nL p l e R s m args below meth c cells slots I Q (pc + 3) lv st) : x_J nL p l e R s m args below meth c cells slots I Q pc lv (.int y :: .int x :: st) := fun H locs ls hI hl => lv_icmp_lt X.1 X.2.1 hdg ht (fun h => kt (by rw [if_pos h] at hf; exact hf) H locs ls hI hl) (fun h => kn (by rw [if_neg h] at hf; exact hf) H locs ls hI hl)
theorem xj_icmp_ge {β : Type} {P N r : β} (X : x_C D cA cc nL own p s m args meth c) {x y : Int32} {off : Int} {tgt : Nat} (hdg : decode cc pc = .ok (.if_icmp .ge off, 3)) (ht : (pc : Int) + off = (tgt : Int)) (hf : (if y ≤ x then P else N) = r) (kt : P = r → x_J nL p l e R s m args below meth c cells slots I Q tgt lv st) (kn : N = r → x_J nL p l e R s m args below meth c cells slots I Q (pc + 3) lv st) : x_J nL p l e R s m args below meth c cells slots I Q pc lv (.int y :: .int x :: st) := fun H locs ls hI hl => lv_icmp_ge X.1 X.2.1 hdg ht (fun h => kt (by rw [if_pos h] at hf; exact hf) H locs ls hI hl) (fun h => kn (by rw [if_neg h] at hf; exact hf) H locs ls hI hl)
theorem xj_icmp_gt {β : Type} {P N r : β} (X : x_C D cA cc nL own p s m args meth c) {x y : Int32} {off : Int} {tgt : Nat} (hdg : decode cc pc = .ok (.if_icmp .gt off, 3)) (ht : (pc : Int) + off = (tgt : Int)) (hf : (if y < x then P else N) = r) (kt : P = r → x_J nL p l e R s m args below meth c cells slots I Q tgt lv st) (kn : N = r → x_J nL p l e R s m args below meth c cells slots I Q (pc + 3) lv st) : x_J nL p l e R s m args below meth c cells slots I Q pc lv (.int y :: .int x :: st) := fun H locs ls hI hl => lv_icmp_gt X.1 X.2.1 hdg ht (fun h => kt (by rw [if_pos h] at hf; exact hf) H locs ls hI hl) (fun h => kn (by rw [if_neg h] at hf; exact hf) H locs ls hI hl)
theorem xj_icmp_le {β : Type} {P N r : β} (X : x_C D cA cc nL own p s m args meth c) {x y : Int32} {off : Int} {tgt : Nat} (hdg : decode cc pc = .ok (.if_icmp .le off, 3)) (ht : (pc : Int) + off = (tgt : Int)) (hf : (if x ≤ y then P else N) = r) (kt : P = r → x_J nL p l e R s m args below meth c cells slots I Q tgt lv st) (kn : N = r → x_J nL p l e R s m args below meth c cells slots I Q (pc + 3) lv st) : x_J nL p l e R s m args below meth c cells slots I Q pc lv (.int y :: .int x :: st) := fun H locs ls hI hl => lv_icmp_le X.1 X.2.1 hdg ht (fun h => kt (by rw [if_pos h] at hf; exact hf) H locs ls hI hl) (fun h => kn (by rw [if_neg h] at hf; exact hf) H locs ls hI hl)
theorem xj_if_ne {β : Type} {P N r : β} (X : x_C D cA cc nL own p s m args meth c) {x : Int32} {off : Int} {tgt : Nat} (hdg : decode cc pc = .ok (.ifCond .ne off, 3)) (ht : (pc : Int) + off = (tgt : Int)) (hf : (if x = 0 then N else P) = r) (kt : P = r → x_J nL p l e R s m args below meth c cells slots I Q tgt lv st) (kn : N = r → x_J nL p l e R s m args below meth c cells slots I Q (pc + 3) lv st) : x_J nL p l e R s m args below meth c cells slots I Q pc lv (.int x :: st) := fun H locs ls hI hl => lv_if_ne X.1 X.2.1 hdg ht (fun h => kt (by rw [if_neg h] at hf; exact hf) H locs ls hI hl) (fun h => kn (by rw [if_pos h] at hf; exact hf) H locs ls hI hl)
theorem xj_icmp_ne {β : Type} {P N r : β} (X : x_C D cA cc nL own p s m args meth c) {x y : Int32} {off : Int} {tgt : Nat} (hdg : decode cc pc = .ok (.if_icmp .ne off, 3)) (ht : (pc : Int) + off = (tgt : Int)) (hf : (if x = y then N else P) = r) (kt : P = r → x_J nL p l e R s m args below meth c cells slots I Q tgt lv st) (kn : N = r → x_J nL p l e R s m args below meth c cells slots I Q (pc + 3) lv st) : x_J nL p l e R s m args below meth c cells slots I Q pc lv (.int y :: .int x :: st) := fun H locs ls hI hl => lv_icmp_ne X.1 X.2.1 hdg ht (fun h => kt (by rw [if_neg h] at hf; exact hf) H locs ls hI hl) (fun h => kn (by rw [if_pos h] at hf; exact hf) H locs ls hI hl)
theorem xj_get (X : x_C D cA cc nL own p s m args meth c) (hI : ∀ (H : Heap) (locs : List Loc), I H locs → va_P D vwCl ws H) {C : String} {T : u_T} {N ci index : Nat} (hin : ∀ w ∈ u_ws C T N, w ∈ x_G) (q0 : Nat) {fs : List Value} (he : ws[q0]? = some (a, .inr (ci, fs))) (hc : vwCl[ci]? = some (C, T, N)) (k : Nat) (hk : k < N) (hlink : Cond.fieldLink own index (T k).1 (T k).2.1 (T k).2.2.1 ∈ x_G) (x : Value) (hv : fs[k]? = some x) (hdg : decode cc pc = .ok (.getfield index, 3)) (kk : x_J nL p l e R s m args below meth c cells slots I Q (pc + 3) lv (x :: st)) : x_J nL p l e R s m args below meth c cells slots I Q pc lv (.ref a :: st) := fun H locs ls hi hl => va_get X.1 X.2.1 X.2.2.2.2.1 hin X.2.2.2.1 X.2.2.2.2.2.2.1 (hI H locs hi) q0 he hc k hk (X.2.2.2.2.1 _ hlink) (fun _ h9 => h9) hv hdg (kk H locs ls hi hl)
theorem xj_put (X : x_C D cA cc nL own p s m args meth c) (hD : va_D A ws) {C : String} {T : u_T} {N ci index : Nat} (hin : ∀ w ∈ u_ws C T N, w ∈ x_G) {ty0 : Nat → FieldType} (hty : ∀ k, k < N → parseFieldDescriptor (T k).2.2.1 = some (ty0 k)) (hnm : ∀ a, a < N → ∀ b, b < N → a ≠ b → (T a).2.1 ≠ (T b).2.1) (q0 : Nat) {fs : List Value} (he : ws[q0]? = some (a, .inr (ci, fs))) (hc : vwCl[ci]? = some (C, T, N)) (k : Nat) (hk : k < N) (hlink : Cond.fieldLink own index (T k).1 (T k).2.1 (T k).2.2.1 ∈ x_G) (hfin : (T k).2.2.2 = false) (ty : FieldType) {x : Value} (hd : ty0 k = ty) (hn : narrow ty x = x) (hfit : fits ty x = true) (hl' : k < fs.length) (hset : ws.set q0 (a, .inr (ci, fs.set k x)) = ws') (hdg : decode cc pc = .ok (.putfield index, 3)) (kk : x_J nL p l e R s m args below meth c cells slots (x_IW D s A ws') Q (pc + 3) lv st) : x_J nL p l e R s m args below meth c cells slots (x_IW D s A ws) Q pc lv (x :: .ref a :: st) := fun H locs ls hi hl => va_put X.1 X.2.1 X.2.2.2.2.1 hin ty0 hty hnm X.2.2.2.1 X.2.2.2.2.2.2.1 hi.1 hD hi.2 q0 he hc k hk (X.2.2.2.2.1 _ hlink) (fun _ h9 => h9) hfin (by rw [hty k hk, hd]) hn hfit hl' hdg (fun H1 locs1 hP1 _ hS1 => kk H1 locs1 ls ⟨by rw [← hset]; exact hP1, hS1⟩ hl)
theorem xj_iald {β : Type} {P : Option β} {r : β} (X : x_C D cA cc nL own p s m args meth c) (hI : ∀ (H : Heap) (locs : List Loc), I H locs → va_P D vwCl ws H) (q0 : Nat) {n : Nat} {f : Nat → Int32} (ha : ws[q0]? = some (a, .inl (cA, n, .inl f))) {i : Int32} (hf : (if x_inb i n = true then P else none) = some r) (x : Int32) (hx : f i.toNatClampNeg = x) (hdg : decode cc pc = .ok (.iaload, 1)) (kk : P = some r → x_J nL p l e R s m args below meth c cells slots I Q (pc + 1) lv (.int x :: st)) : x_J nL p l e R s m args below meth c cells slots I Q pc lv (.int i :: .ref a :: st) := fun H locs ls hi hl => va_iald X.1 X.2.1 X.2.2.2.2.2.2.1 (hI H locs hi) q0 0 ha rfl (x_inb_in (x_grd hf).1) hdg (by rw [hx]; exact kk (x_grd hf).2 H locs ls hi hl)
theorem xj_iast {β : Type} {P : Option β} {r : β} (X : x_C D cA cc nL own p s m args meth c) (hD : va_D A ws) (q0 : Nat) {n : Nat} {f : Nat → Int32} (ha : ws[q0]? = some (a, .inl (cA, n, .inl f))) {i x : Int32} (hf : (if x_inb i n = true then P else none) = some r) (hset : ws.set q0 (a, .inl (cA, n, .inl (upd f i.toNatClampNeg x))) = ws') (hdg : decode cc pc = .ok (.iastore, 1)) (kk : P = some r → x_J nL p l e R s m args below meth c cells slots (x_IW D s A ws') Q (pc + 1) lv st) : x_J nL p l e R s m args below meth c cells slots (x_IW D s A ws) Q pc lv (.int x :: .int i :: .ref a :: st) := fun H locs ls hi hl => va_iast X.1 X.2.1 X.2.2.2.2.2.2.1 hi.1 hD hi.2 q0 0 ha rfl (x_inb_in (x_grd hf).1) hdg (fun H1 locs1 hP1 _ hS1 => kk (x_grd hf).2 H1 locs1 ls ⟨by rw [← hset]; exact hP1, hS1⟩ hl)
/-- a call that leaves the heap -/
theorem xj_ro {arr : Array Value} {free : Nat → Prop} (hfree : ∀ q, free q → False) (hr : ∀ (H : Heap) (locs : List Loc) (ls : Array Slot), I H locs → lv_has ls nL lv → va_Run p l e R s m args below meth c H locs cells slots 0 0 (F0 m pc ls st0) rest (x_R v arr) free) (kk : x_J nL p l e R s m args below meth c cells slots I Q (pc + 3) lv (v.toList ++ rest)) : x_J nL p l e R s m args below meth c cells slots I Q pc lv st0 := by
  intro H locs ls hI hl T hT X
  obtain ⟨v', t0, t, T', L, h0, X', hL, e1, e2, ⟨hv, ht⟩, st⟩ := hr H locs ls hI hl T hT X
  cases hv
  have hL0 : L = [] := List.eq_nil_iff_forall_not_mem.mpr (fun q hq => hfree _ (hL q hq))
  subst hL0
  rw [List.append_nil] at X'
  obtain ⟨t2, a1, b1⟩ := kk H locs ls hI hl T' (by rw [e1, ht, h0]) X'
  exact ⟨t2, st t2 a1, b1⟩
theorem xj_roI {arr : Array Value} {free : Nat → Prop} {r : Int32} (hfree : ∀ q, free q → False) (hr : ∀ (H : Heap) (locs : List Loc) (ls : Array Slot), I H locs → lv_has ls nL lv → va_Run p l e R s m args below meth c H locs cells slots 0 0 (F0 m pc ls st0) rest (x_R (some (.int r)) arr) free) (kk : x_J nL p l e R s m args below meth c cells slots I Q (pc + 3) lv (.int r :: rest)) : x_J nL p l e R s m args below meth c cells slots I Q pc lv st0 := xj_ro hfree hr kk
theorem xj_wr {arr : Array Value} (hr : ∀ (H : Heap) (locs : List Loc) (ls : Array Slot), x_IW D s A0 ws H locs → lv_has ls nL lv → va_Run p l e R s m args below meth c H locs cells slots 0 0 (F0 m pc ls st0) rest (x_U D v ws1' A1 arr) A1) (hjoin : ∀ H H1 : Heap, va_P D vwCl ws H → va_P D vwCl ws1' H1 → (∀ q, q < H.size → ¬ A1 q → H1[q]? = H[q]?) → va_P D vwCl ws' H1) (hA : ∀ q, A1 q → A0 q) (kk : x_J nL p l e R s m args below meth c cells slots (x_IW D s A0 ws') Q (pc + 3) lv (v.toList ++ rest)) : x_J nL p l e R s m args below meth c cells slots (x_IW D s A0 ws) Q pc lv st0 := by
  intro H locs ls hI hl T hT X
  obtain ⟨v', t0, t, T', L, h0, X', hL, e1, e2, ⟨hv, hP1, hz, hk⟩, st⟩ := hr H locs ls hI hl T hT X
  cases hv
  rw [h0] at hz hk
  rw [← e1] at hP1 hz hk
  obtain ⟨hP, hS⟩ := hI
  obtain ⟨t2, a1, b1⟩ := kk T'.heap (locs ++ L) ls ⟨hjoin H T'.heap hP hP1 hk, Nat.le_trans hS.1 hz, fun q h1 h2 => by rw [hk q (Nat.lt_of_lt_of_le h1 hS.1) (fun z => h2 (hA q z))]; exact hS.2.1 q h1 h2, fun q hq => by
      rcases List.mem_append.mp hq with h | h
      · exact hS.2.2 q h
      · exact hA _ (hL q h)⟩ hl T' rfl X'
  exact ⟨t2, st t2 a1, b1⟩
theorem xj_wrI {arr : Array Value} {r : Int32} (hr : ∀ (H : Heap) (locs : List Loc) (ls : Array Slot), x_IW D s A0 ws H locs → lv_has ls nL lv → va_Run p l e R s m args below meth c H locs cells slots 0 0 (F0 m pc ls st0) rest (x_U D (some (.int r)) ws1' A1 arr) A1) (hjoin : ∀ H H1 : Heap, va_P D vwCl ws H → va_P D vwCl ws1' H1 → (∀ q, q < H.size → ¬ A1 q → H1[q]? = H[q]?) → va_P D vwCl ws' H1) (hA : ∀ q, A1 q → A0 q) (kk : x_J nL p l e R s m args below meth c cells slots (x_IW D s A0 ws') Q (pc + 3) lv (.int r :: rest)) : x_J nL p l e R s m args below meth c cells slots (x_IW D s A0 ws) Q pc lv st0 := xj_wr hr hjoin hA kk
theorem xj_wrV {arr : Array Value} (hr : ∀ (H : Heap) (locs : List Loc) (ls : Array Slot), x_IW D s A0 ws H locs → lv_has ls nL lv → va_Run p l e R s m args below meth c H locs cells slots 0 0 (F0 m pc ls st0) rest (x_U D none ws1' A1 arr) A1) (hjoin : ∀ H H1 : Heap, va_P D vwCl ws H → va_P D vwCl ws1' H1 → (∀ q, q < H.size → ¬ A1 q → H1[q]? = H[q]?) → va_P D vwCl ws' H1) (hA : ∀ q, A1 q → A0 q) (kk : x_J nL p l e R s m args below meth c cells slots (x_IW D s A0 ws') Q (pc + 3) lv rest) : x_J nL p l e R s m args below meth c cells slots (x_IW D s A0 ws) Q pc lv st0 := xj_wr hr hjoin hA kk
/-! the three kinds of call -/
theorem x_cwV (X : x_C D cA cc nL own p s m args meth c) {index mL n : Nat} {C : String} {y : MethodName} {bytes : ByteArray} {ret : Option FieldType} {rm : Room} (kw : x_KV C y bytes mL ret n) (hl : Cond.methodLink own index y ∈ x_G) (hrc : rm.cells = 0) (hrs : rm.slots = 0) (hR : rm.frames + 1 ≤ R.frames ∧ 8 + (mL + 11) + rm.locals ≤ R.locals) : CallW R s args own C index y bytes mL ret (Cond.code y bytes mL ret :: x_G) rm 0 0 n :=
  cwV n X.2.2.2.2.1 (x_gi (show ∀ w ∈ ([.methodLink own index y, .instanceMethod y, .selects C y y, .initialized C] ++ (Cond.code y bytes mL ret :: x_G) : List Cond), w ∈ x_G from List.forall_mem_cons.mpr ⟨hl, List.forall_mem_cons.mpr ⟨kw.1, List.forall_mem_cons.mpr ⟨kw.2.1, List.forall_mem_cons.mpr ⟨kw.2.2.1, List.forall_mem_cons.mpr ⟨kw.2.2.2.1, fun _ h => h⟩⟩⟩⟩⟩)) rfl hrc hrs kw.2.2.2.2 hR
theorem x_cwS (X : x_C D cA cc nL own p s m args meth c) {index mL n : Nat} {y : MethodName} {bytes : ByteArray} {ret : Option FieldType} {rm : Room} (kw : x_KS own y bytes mL ret n) (hl : Cond.methodLink own index y ∈ x_G) (hrc : rm.cells = 0) (hrs : rm.slots = 0) (hR : rm.frames + 1 ≤ R.frames ∧ 8 + (mL + 11) + rm.locals ≤ R.locals) : CallB R s args own index y bytes mL ret (Cond.code y bytes mL ret :: x_G) rm 0 0 n ∧ (Cond.static y).before args s = true :=
  cwS n X.2.2.2.2.1 (x_gi (show ∀ w ∈ ([.methodLink own index y, .static y, .initialized own] ++ (Cond.code y bytes mL ret :: x_G) : List Cond), w ∈ x_G from List.forall_mem_cons.mpr ⟨hl, List.forall_mem_cons.mpr ⟨kw.1, List.forall_mem_cons.mpr ⟨kw.2.1, List.forall_mem_cons.mpr ⟨kw.2.2.1, fun _ h => h⟩⟩⟩⟩)) rfl hrc hrs kw.2.2.2 hR
theorem x_cwN (X : x_C D cA cc nL own p s m args meth c) {index mL n : Nat} {C host : String} {y : MethodName} {bytes : ByteArray} {ret : Option FieldType} {rm : Room} (kw : x_KS C y bytes mL ret n) (hl : (own, index, y, host) ∈ x_nest) (hrc : rm.cells = 0) (hrs : rm.slots = 0) (hR : rm.frames + 1 ≤ R.frames ∧ 8 + (mL + 11) + rm.locals ≤ R.locals) : va_CN R s args own index y host bytes mL ret (Cond.code y bytes mL ret :: x_G) rm 0 0 n ∧ (Cond.static y).before args s = true ∧ True :=
  ⟨va_cnB n X.2.2.2.2.1 (x_gi (List.forall_mem_cons.mpr ⟨kw.2.2.1, fun _ h => h⟩)) rfl hrc hrs (X.2.2.2.2.2.2.2 _ hl) (by rw [kw.2.2.2.1]; exact X.2.2.2.2.1 _ kw.2.1) kw.2.2.2.2 hR, X.2.2.2.2.1 _ kw.1, trivial⟩
theorem x_runV (X : x_C D cA cc nL own p s m args meth c) {y : MethodName} {wsy : List Cond} {rm : Room} {Qc : Array Value → State → Outcome → State → Prop} {free : Addr → Prop} {bytes : ByteArray} {maxL n index : Nat} {ret : Option FieldType} {C : String} {T : u_T} {N ci : Nat} {fs : List Value} {As : List Value} (hM : Met l y wsy rm (x_P D cA (.ref b :: As) ws1) Qc 0 0 free) (cw : CallW R s args own C index y bytes maxL ret wsy rm 0 0 n) (hI : ∀ (H : Heap) (locs : List Loc), I H locs → va_P D vwCl ws1 H) (q0 : Nat) (he : ws1[q0]? = some (b, .inr (ci, fs))) (hc : vwCl[ci]? = some (C, T, N)) (hn : As.length = n) (hst : st0 = As.reverse ++ .ref b :: rest) (hroom : (rest.map fun v => v.category).sum ≤ 8) (hdg : decode cc pc = .ok (.invokevirtual index, 3)) (hcs : cells ≤ R.cells ∧ slots ≤ R.slots) : ∀ (H : Heap) (locs : List Loc) (ls : Array Slot), I H locs → lv_has ls nL lv → va_Run p l e R s m args below meth c H locs cells slots 0 0 (F0 m pc ls st0) rest (Qc (Value.ref b :: As).toArray) free := by
  intro H locs ls hi hl
  have hP := hI H locs hi
  obtain ⟨hx, hb, hml, hown, hts, -, hK, hN⟩ := X
  exact va_runV (As := As) ⟨hx, hb, hml, hown, hts⟩ hM cw ⟨x_P.blind, va_recv hK hP hc he, fun U hU hW => ⟨rfl, by rw [hU]; exact hP, va_K.moved hW.alike hK, hN.warm hW⟩⟩ rfl hn hl.1 hst (lv_room hroom) hdg hcs
theorem x_runS (X : x_C D cA cc nL own p s m args meth c) {y : MethodName} {wsy : List Cond} {rm : Room} {Qc : Array Value → State → Outcome → State → Prop} {free : Addr → Prop} {bytes : ByteArray} {maxL n index : Nat} {ret : Option FieldType} {As : List Value} (hM : Met l y wsy rm (x_P D cA As ws1) Qc 0 0 free) (cw : CallB R s args own index y bytes maxL ret wsy rm 0 0 n ∧ (Cond.static y).before args s = true) (hI : ∀ (H : Heap) (locs : List Loc), I H locs → va_P D vwCl ws1 H) (hn : As.length = n) (hst : st0 = As.reverse ++ rest) (hroom : (rest.map fun v => v.category).sum ≤ 8) (hdg : decode cc pc = .ok (.invokestatic index, 3)) (hcs : cells ≤ R.cells ∧ slots ≤ R.slots) : ∀ (H : Heap) (locs : List Loc) (ls : Array Slot), I H locs → lv_has ls nL lv → va_Run p l e R s m args below meth c H locs cells slots 0 0 (F0 m pc ls st0) rest (Qc As.toArray) free := by
  intro H locs ls hi hl
  have hP := hI H locs hi
  obtain ⟨hx, hb, hml, hown, hts, -, hK, hN⟩ := X
  exact va_runS (As := As) ⟨hx, hb, hml, hown, hts⟩ hM cw ⟨x_P.blind, fun U hU hW => ⟨rfl, by rw [hU]; exact hP, va_K.moved hW.alike hK, hN.warm hW⟩⟩ rfl hn hl.1 hst (lv_room hroom) hdg hcs
theorem x_runSN (X : x_C D cA cc nL own p s m args meth c) {y : MethodName} {wsy : List Cond} {rm : Room} {Qc : Array Value → State → Outcome → State → Prop} {free : Addr → Prop} {bytes : ByteArray} {maxL n index : Nat} {ret : Option FieldType} {host : String} {As : List Value} (hM : Met l y wsy rm (x_P D cA As ws1) Qc 0 0 free) (cw : va_CN R s args own index y host bytes maxL ret wsy rm 0 0 n ∧ (Cond.static y).before args s = true ∧ True) (hI : ∀ (H : Heap) (locs : List Loc), I H locs → va_P D vwCl ws1 H) (hn : As.length = n) (hst : st0 = As.reverse ++ rest) (hroom : (rest.map fun v => v.category).sum ≤ 8) (hdg : decode cc pc = .ok (.invokestatic index, 3)) (hcs : cells ≤ R.cells ∧ slots ≤ R.slots) : ∀ (H : Heap) (locs : List Loc) (ls : Array Slot), I H locs → lv_has ls nL lv → va_Run p l e R s m args below meth c H locs cells slots 0 0 (F0 m pc ls st0) rest (Qc As.toArray) free := by
  intro H locs ls hi hl
  have hP := hI H locs hi
  obtain ⟨hx, hb, hml, hown, hts, -, hK, hN⟩ := X
  exact va_runSN (As := As) ⟨hx, hb, hml, hown, hts⟩ hM cw ⟨x_P.blind, fun U hU hW => ⟨rfl, by rw [hU]; exact hP, va_K.moved hW.alike hK, hN.warm hW⟩⟩ rfl hn hl.1 hst (lv_room hroom) hdg hcs
/-! ends -/
theorem xj_iret_ro (X : x_C D cA cc nL own p s m args meth c) (hr : meth.sig.returnType = some .int) {r r0 : Int32} (hv : r = r0) (hdg : decode cc pc = .ok (.ireturn, 1)) : x_J nL p l e R s m args below meth c 0 0 (x_IR D s ws) (MQ below (x_R (some (.int r0))) args s 0 0 (fun _ => False)) pc lv [.int r] := by
  intro H locs ls hi hl
  obtain ⟨h1, h2, h3⟩ := hi
  subst hv; subst h2
  exact W.iret X.1 X.2.1 hr (fun t ht hW => ⟨rfl, by rw [ht, h1]⟩) (fun q h => by cases h) hdg X.2.2.2.2.2.1
theorem xj_zret_ro (X : x_C D cA cc nL own p s m args meth c) (hr : meth.sig.returnType = some .boolean) {r : Int32} {r0 : Bool} (hv : r = b2i r0) (hdg : decode cc pc = .ok (.ireturn, 1)) : x_J nL p l e R s m args below meth c 0 0 (x_IR D s ws) (MQ below (x_R (some (.int (b2i r0)))) args s 0 0 (fun _ => False)) pc lv [.int r] := by
  intro H locs ls hi hl
  obtain ⟨h1, h2, h3⟩ := hi
  subst hv; subst h2
  exact W.zret X.1 X.2.1 hr (x_nar r0) (fun t ht hW => ⟨rfl, by rw [ht, h1]⟩) (fun q h => by cases h) hdg X.2.2.2.2.2.1
theorem xj_iret_wr (X : x_C D cA cc nL own p s m args meth c) (hr : meth.sig.returnType = some .int) {r r0 : Int32} (hv : r = r0) (hw : ws = ws') (hdg : decode cc pc = .ok (.ireturn, 1)) : x_J nL p l e R s m args below meth c 0 0 (x_IW D s A ws) (MQ below (x_U D (some (.int r0)) ws' A) args s 0 0 A) pc lv [.int r] := by
  intro H locs ls hi hl
  obtain ⟨h1, h2⟩ := hi
  subst hv; subst hw
  exact W.iret X.1 X.2.1 hr (fun t ht hW => ⟨rfl, by rw [ht]; exact h1, h2.F ht⟩) h2.2.2 hdg X.2.2.2.2.2.1
theorem xj_zret_wr (X : x_C D cA cc nL own p s m args meth c) (hr : meth.sig.returnType = some .boolean) {r : Int32} {r0 : Bool} (hv : r = b2i r0) (hw : ws = ws') (hdg : decode cc pc = .ok (.ireturn, 1)) : x_J nL p l e R s m args below meth c 0 0 (x_IW D s A ws) (MQ below (x_U D (some (.int (b2i r0))) ws' A) args s 0 0 A) pc lv [.int r] := by
  intro H locs ls hi hl
  obtain ⟨h1, h2⟩ := hi
  subst hv; subst hw
  exact W.zret X.1 X.2.1 hr (x_nar r0) (fun t ht hW => ⟨rfl, by rw [ht]; exact h1, h2.F ht⟩) h2.2.2 hdg X.2.2.2.2.2.1
theorem xj_vret_ro (X : x_C D cA cc nL own p s m args meth c) (hr : meth.sig.returnType = none) (hdg : decode cc pc = .ok (.return_, 1)) : x_J nL p l e R s m args below meth c 0 0 (x_IR D s ws) (MQ below (x_R none) args s 0 0 (fun _ => False)) pc lv [] := by
  intro H locs ls hi hl
  obtain ⟨h1, h2, h3⟩ := hi
  subst h2
  exact W.vret X.1 X.2.1 hr (fun t ht hW => ⟨rfl, by rw [ht, h1]⟩) (fun q h => by cases h) hdg X.2.2.2.2.2.1
theorem xj_vret_wr (X : x_C D cA cc nL own p s m args meth c) (hr : meth.sig.returnType = none) (hw : ws = ws') (hdg : decode cc pc = .ok (.return_, 1)) : x_J nL p l e R s m args below meth c 0 0 (x_IW D s A ws) (MQ below (x_U D none ws' A) args s 0 0 A) pc lv [] := by
  intro H locs ls hi hl
  obtain ⟨h1, h2⟩ := hi
  subst hw
  exact W.vret X.1 X.2.1 hr (fun t ht hW => ⟨rfl, by rw [ht]; exact h1, h2.F ht⟩) h2.2.2 hdg X.2.2.2.2.2.1
end XJ
/-- from the entry -/
theorem x_met {l : Launch} {D : va_G} {cA : ClassId} {y : MethodName} {cc : ByteArray} {maxL : Nat} {ret : Option FieldType} {wsy : List Cond} {rm : Room} {av : List Value} {ws : va_W} {Qc : Array Value → State → Outcome → State → Prop} {free : Addr → Prop} (own : String) (hown : y.cls = own) (hy : plainName y.cls = true) (hw : wsy = Cond.code y cc maxL ret :: x_G) (lv : List (Nat × Value)) (hlv : lv_args 0 av = lv) (hn : (lg_sl av).length ≤ maxL) (body : ∀ (p : Program) (e : Env) (s : State) (m : MethodId) (args : Array Value) (below : List Frame) (meth : Method) (c : Code), meth.sig.returnType = ret → x_C D cA cc maxL own p s m args meth c → x_J maxL p l e rm s m args below meth c 0 0 (x_IR D s ws) (MQ below Qc args s 0 0 free) 0 lv []) : Met l y wsy rm (x_P D cA av ws) Qc 0 0 free := by
  refine Met.ofW (cc := cc) (maxL := maxL) (ret := ret) hy hw ?_
  intro p e s m args below meth c s₁ B hml hv
  obtain ⟨rfl, hP, hK, hN⟩ := hv
  have hl := lv_entry av (n := maxL) hn
  rw [lg_entry_eq]
  rw [hlv] at hl
  exact body p e s m _ below meth c B.returns ⟨B.exec, B.bytes, hml, by rw [← hown]; exact findClass_of_methodNamed B.named, fun w h => atoms_spec (ws := wsy) B.pre w (by rw [hw]; exact List.mem_cons_of_mem _ h), B.notSynchronized, hK, hN⟩ s.heap [] _ ⟨rfl, rfl, hP⟩ hl

/-! addresses of a side -/
def x_inj (n : Nat) (ad : Nat → Nat) : Prop := ∀ i j, i < n → j < n → ad i = ad j → i = j
def x_A (n : Nat) (ad : Nat → Nat) : Nat → Prop := fun q => ∃ k, k < n ∧ q = ad k
theorem x_D (n : Nat) {ad : Nat → Nat} (h : x_inj n ad) {ws : va_W} (hw : ws.map (fun q => q.1) = (List.range n).map ad) : va_D (x_A n ad) ws := by
  have key : ∀ (k : Nat) (q : Nat × va_E), ws[k]? = some q → k < n ∧ q.1 = ad k := by
    intro k q hk
    have h1 : (ws.map (fun q => q.1))[k]? = some q.1 := by rw [List.getElem?_map, hk]; rfl
    rw [hw, List.getElem?_map] at h1
    by_cases hn : k < n
    · rw [List.getElem?_range hn] at h1
      exact ⟨hn, (Option.some.inj h1).symm⟩
    · rw [List.getElem?_eq_none (by rw [List.length_range]; omega)] at h1
      cases h1
  refine ⟨fun i j p q hi hj hpq => ?_, fun k q hk => ?_⟩
  · obtain ⟨h1, h2⟩ := key i p hi
    obtain ⟨h3, h4⟩ := key j q hj
    exact h i j h1 h3 (by rw [← h2, ← h4]; exact hpq)
  · obtain ⟨h1, h2⟩ := key k q hk
    exact ⟨k, h1, h2⟩
def x_fuel : Nat := 400
