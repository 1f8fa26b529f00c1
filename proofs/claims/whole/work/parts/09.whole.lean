def σ_0 : x_M := (up2 (up2 (up2 (up2 (up2 (up2 (up2 (up2 (up2 (up2 (fun _ _ => 0) 3 6 (-1 : Int32)) 9 2 (-1 : Int32)) 9 4 (1 : Int32)) 15 2 (5000 : Int32)) 15 3 (2 : Int32)) 15 4 (4 : Int32)) 15 6 (1 : Int32)) 19 0 (0 : Int32)) 19 1 (31 : Int32)) 19 2 (8 : Int32))
def τ_0 : x_M := (up2 (up2 (up2 (up2 (up2 (up2 (up2 (up2 (fun _ _ => 0) 0 15 (1 : Int32)) 0 21 (5000 : Int32)) 0 22 (2 : Int32)) 0 23 (4 : Int32)) 0 25 (1 : Int32)) 0 26 (-4 : Int32)) 15 1 (31 : Int32)) 15 2 (8 : Int32))
theorem upd_z {f : Nat → Int32} {k : Nat} (h : f k = 0) : upd f k 0 = f := by
  funext j
  by_cases e : j = k
  · subst e; rw [upd_s, h]
  · rw [upd_n e]
theorem sim_0 : Sim σ_0 τ_0 := by
  have hz : ∀ k : Nat, ∃ b, b < 256 ∧ (0 : Int32) = nI b := fun _ => ⟨0, by decide, rfl⟩
  refine ⟨⟨rfl, rfl, ⟨0, by decide, rfl⟩, hz⟩, ⟨rfl, rfl, rfl, fun _ => (show (0 : Int32) = 0 &&& 15 by decide), fun _ => (show (0 : Int32) = (0 : Int32) >>> ((7 : Int32) &&& 31) by decide), ⟨0, by decide, rfl⟩, hz⟩, ⟨rfl, rfl, rfl, Or.inl ⟨rfl, rfl⟩⟩, ⟨rfl, rfl, rfl, rfl, ⟨0, by decide, rfl⟩, fun _ => ⟨0, by decide, rfl⟩⟩, ⟨?_, rfl, rfl, rfl, rfl, rfl⟩, rfl, rfl, rfl, fun _ _ => rfl, fun _ _ => rfl, rfl, rfl, ⟨0, by decide, rfl⟩, false, 0, rfl, rfl, rfl, rfl, by decide, fun h => by cases h⟩
  show upd (upd (fun _ => 0) 1 31) 2 8 = upd (upd (upd (fun _ => 0) 0 0) 1 31) 2 8
  rw [upd_z rfl]
theorem x_Dis_of {s : State} {cA : ClassId} {ax am : Nat → Nat} {σ τ : x_M} (h : va_D (x_A0 s) (wX ax cA σ ++ wM am cA τ)) : x_Dis s ax am := by
  have aX : ∀ i, i < 26 → ∃ e, (wX ax cA σ ++ wM am cA τ)[i]? = some (ax i, e) := by
    intro i hi
    have h1 : ((wX ax cA σ).map (fun q => q.1))[i]? = some (ax i) := by
      rw [show (wX ax cA σ).map (fun q => q.1) = (List.range 26).map ax from rfl, List.getElem?_map, List.getElem?_range hi]; rfl
    rw [List.getElem?_map] at h1
    cases hq : (wX ax cA σ)[i]? with
    | none => rw [hq] at h1; cases h1
    | some q =>
      rw [hq] at h1
      refine ⟨q.2, ?_⟩
      rw [List.getElem?_append_left (show i < (wX ax cA σ).length from hi), hq, ← Option.some.inj h1]
  have aM : ∀ j, j < 20 → ∃ e, (wX ax cA σ ++ wM am cA τ)[26 + j]? = some (am j, e) := by
    intro j hj
    have h1 : ((wM am cA τ).map (fun q => q.1))[j]? = some (am j) := by
      rw [show (wM am cA τ).map (fun q => q.1) = (List.range 20).map am from rfl, List.getElem?_map, List.getElem?_range hj]; rfl
    rw [List.getElem?_map] at h1
    cases hq : (wM am cA τ)[j]? with
    | none => rw [hq] at h1; cases h1
    | some q =>
      rw [hq] at h1
      refine ⟨q.2, ?_⟩
      rw [List.getElem?_append_right (show (wX ax cA σ).length ≤ 26 + j from Nat.le_add_right 26 j), show 26 + j - (wX ax cA σ).length = j from Nat.add_sub_cancel_left 26 j, hq, ← Option.some.inj h1]
  refine ⟨fun i j hi hj he => ?_, fun i j hi hj he => ?_, fun i j hi hj he => ?_, fun i hi => ?_, fun i hi => ?_⟩
  · obtain ⟨e1, g1⟩ := aX i hi
    obtain ⟨e2, g2⟩ := aX j hj
    exact h.1 i j _ _ g1 g2 he
  · obtain ⟨e1, g1⟩ := aM i hi
    obtain ⟨e2, g2⟩ := aM j hj
    have := h.1 _ _ _ _ g1 g2 he
    omega
  · obtain ⟨e1, g1⟩ := aX i hi
    obtain ⟨e2, g2⟩ := aM j hj
    have := h.1 _ _ _ _ g1 g2 he
    omega
  · obtain ⟨e1, g1⟩ := aX i hi
    exact h.2 _ _ g1
  · obtain ⟨e1, g1⟩ := aM i hi
    exact h.2 _ _ g1
/-- what holds at the law's entry: the machine, the code, the tables' words (any of lw_tbl by 'hts w (by decide +kernel)'), the script of L ints xs at the cell b, what the Statement gives of the start (any of its parts by flat_of_before) -/
def lw_At (p : Program) (s : State) (m : MethodId) (meth : Method) (c : Code) (b L : Nat) (xs : Nat → Int32) : Prop :=
  p.tables.exec = Jvm.exec ∧ c.code = code ∧ meth.sig.returnType = ret ∧ c.maxLocals = 4 ∧ s.vm.findClass R_law = some m.cls ∧ (∀ w ∈ lw_tbl, w.before #[Value.ref b] s = true) ∧ va_X b L xs s s.heap ∧ b < s.heap.size ∧ meth.locks = false ∧ (Jvm.Cond.and given_1 narrow_1).before #[Value.ref b] s = true
set_option maxHeartbeats 4000000 in
set_option maxRecDepth 100000 in
/-- THE LAW, from its entry -/
theorem whole_start {p : Program} {e : Env} {s : State} {m : MethodId} {below : List Frame} {meth : Method} {c : Code} (l : Launch) (hflags : l.flags = flags0) {b L : Nat} {xs : Nat → Int32} (hL : L ≤ 1536) (C0 : lw_At p s m meth c b L xs) : W p l e room_1 s m #[Value.ref b] below meth c s.heap [] 0 0 (lw_Z below #[Value.ref b] s) (entryFrame m ([Value.ref b] : List Value).toArray 4) := by
  obtain ⟨hx, hb, hr, hml, hown, hts, hX, hbl, hlocks, hgv⟩ := C0
  have hG : ∀ w ∈ x_G, w.before #[Value.ref b] s = true := fun w h => hts w (List.mem_filter.mp h).1
  obtain ⟨cA, kA, comp, g1, g2, g3⟩ := Cond.arrayClass_spec (hG _ mk1_37)
  obtain ⟨c0, j0, k0⟩ := u_known (C := RX0) (T := TX0) (N := 2) (n := 2) hG inG_X0 (hG _ mk1_19)
  obtain ⟨c1, j1, k1⟩ := u_known (C := RX1) (T := TX1) (N := 6) (n := 6) hG inG_X1 (hG _ mk1_78)
  obtain ⟨c2, j2, k2⟩ := u_known (C := RX2) (T := TX2) (N := 8) (n := 8) hG inG_X2 (hG _ mk1_39)
  obtain ⟨c3, j3, k3⟩ := u_known (C := RX3) (T := TX3) (N := 3) (n := 3) hG inG_X3 (hG _ mk1_84)
  obtain ⟨c4, j4, k4⟩ := u_known (C := RX4) (T := TX4) (N := 2) (n := 2) hG inG_X4 (hG _ mk1_194)
  obtain ⟨c5, j5, k5⟩ := u_known (C := RX5) (T := TX5) (N := 8) (n := 8) hG inG_X5 (hG _ mk1_128)
  obtain ⟨c6, j6, k6⟩ := u_known (C := RX6) (T := TX6) (N := 5) (n := 5) hG inG_X6 (hG _ mk1_168)
  obtain ⟨c7, j7, k7⟩ := u_known (C := RX7) (T := TX7) (N := 6) (n := 6) hG inG_X7 (hG _ mk1_11)
  obtain ⟨c8, j8, k8⟩ := u_known (C := RX8) (T := TX8) (N := 37) (n := 37) hG inG_X8 (hG _ mk3_80)
  obtain ⟨D, hKc⟩ : ∃ D : va_G, ∀ (k : Nat) (q : vw_C), vwCl[k]? = some q → u_Kn s q.1 q.2.1 q.2.2 (D.1 k) (D.2 k) := by
    refine ⟨(fun k => if k = 0 then c0 else if k = 1 then c1 else if k = 2 then c2 else if k = 3 then c3 else if k = 4 then c4 else if k = 5 then c5 else if k = 6 then c6 else if k = 7 then c7 else c8, fun k => if k = 0 then j0 else if k = 1 then j1 else if k = 2 then j2 else if k = 3 then j3 else if k = 4 then j4 else if k = 5 then j5 else if k = 6 then j6 else if k = 7 then j7 else j8), ?_⟩
    intro k q hq
    match k, hq with
    | 0, hq => cases hq; exact k0
    | 1, hq => cases hq; exact k1
    | 2, hq => cases hq; exact k2
    | 3, hq => cases hq; exact k3
    | 4, hq => cases hq; exact k4
    | 5, hq => cases hq; exact k5
    | 6, hq => cases hq; exact k6
    | 7, hq => cases hq; exact k7
    | 8, hq => cases hq; exact k8
    | k + 9, hq => simp [vwCl] at hq
  have hK : va_K D vwCl [(cA, .int)] s := by
    refine ⟨hKc, fun k q hq => ?_⟩
    cases k with
    | zero => cases hq; exact ⟨fun n z => ⟨fun k h => (by cases h), kA, g2, comp, g3⟩, g1⟩
    | succ k => simp at hq
  have X : x_C D cA code 4 R_law p s m #[Value.ref b] meth c := ⟨hx, hb, hml, hown, hG, hlocks, hK, x_NW_law hts⟩
  have hA : ∀ q, s.heap.size ≤ q → x_A0 s q := fun _ h => h
  have hP0 : va_P D vwCl [] s.heap := fun k q h => by simp at h
  have hD0 : va_D (x_A0 s) [] := ⟨fun i j p q h => by simp at h, fun k q h => by simp at h⟩
  have hl := lv_entry ([.ref b]) (n := 4) (Nat.le_of_ble_eq_true rfl)
  rw [lg_entry_eq]
  refine (show x_J 4 p l e room_1 s m #[Value.ref b] below meth c 0 0 (x_IC D s (x_A0 s) []) (lw_Z below #[Value.ref b] s) 0 [(0, .ref b)] [] from ?_) s.heap [] _ ⟨hP0, hD0, va_S.rf⟩ hl
  refine xc_new (ci := 7) (fs := [.null, .null, .null, .null, .null, .null]) X hA inG_X7 tyX7_ok mk1_10 mk1_11 mk1_1 rfl (by decide +kernel) ⟨Nat.le_of_ble_eq_true rfl, Nat.le_of_ble_eq_true rfl⟩ dL_law_0 (fun qx => ?_)
  refine xj_dup X dL_law_3 rfl ?_
  refine xc_call (wc := [(qx, .inr (7, [.null, .null, .null, .null, .null, .null]))]) (wr := []) (w' := wn_X7 cA qx) (rest := [.ref qx]) X hA [0] [] rfl rfl (by decide) (by decide) (x_runI X (ctX7_init l D cA qx) mk1_12 mk1_13 mk1_1 mk1_14 rfl (by decide +kernel) rfl rfl ⟨Nat.le_of_ble_eq_true rfl, Nat.le_of_ble_eq_true rfl⟩ rfl (Nat.le_of_ble_eq_true rfl) dL_law_4 ⟨Nat.le_of_ble_eq_true rfl, Nat.le_of_ble_eq_true rfl⟩) (fun ad => ?_)
  refine xc_ws (ws' := wn_X7 cA qx ad) rfl ?_
  refine xj_astore_n (lv' := [(1, .ref qx), (0, .ref b)]) X dL_law_7 rfl (by decide) rfl ?_
  refine xc_new (ci := 8) (fs := [.int 0, .null, .int 0, .null, .null, .null, .null, .null, .int 0, .null, .null, .null, .null, .null, .int 0, .int 0, .int 0, .null, .null, .null, .null, .int 0, .int 0, .int 0, .int 0, .int 0, .int 0, .int 0, .int 0, .int 0, .int 0, .null, .int 0, .null, .null, .int 0, .null]) X hA inG_X8 tyX8_ok mk3_79 mk3_80 mk1_9 rfl (by decide +kernel) ⟨Nat.le_of_ble_eq_true rfl, Nat.le_of_ble_eq_true rfl⟩ dL_law_8 (fun qm => ?_)
  refine xj_dup X dL_law_11 rfl ?_
  refine xc_call (wc := [(qm, .inr (8, [.int 0, .null, .int 0, .null, .null, .null, .null, .null, .int 0, .null, .null, .null, .null, .null, .int 0, .int 0, .int 0, .null, .null, .null, .null, .int 0, .int 0, .int 0, .int 0, .int 0, .int 0, .int 0, .int 0, .int 0, .int 0, .null, .int 0, .null, .null, .int 0, .null]))]) (wr := wn_X7 cA qx ad) (w' := wn_X8 cA qm) (rest := [.ref qm]) X hA [26] [0, 1, 2, 3, 4, 5, 6, 7, 8, 9, 10, 11, 12, 13, 14, 15, 16, 17, 18, 19, 20, 21, 22, 23, 24, 25] rfl rfl (by decide) (by decide) (x_runI X (ctX8_init l D cA qm) mk3_81 mk3_82 mk1_9 mk3_83 rfl (by decide +kernel) rfl rfl ⟨Nat.le_of_ble_eq_true rfl, Nat.le_of_ble_eq_true rfl⟩ rfl (Nat.le_of_ble_eq_true rfl) dL_law_12 ⟨Nat.le_of_ble_eq_true rfl, Nat.le_of_ble_eq_true rfl⟩) (fun ae => ?_)
  refine xj_astore_n (lv' := [(2, .ref qm), (1, .ref qx), (0, .ref b)]) X dL_law_15 rfl (by decide) rfl ?_
  refine xj_iconst (x := (0 : Int32)) X dL_law_16 rfl ?_
  refine xj_istore_n (lv' := [(3, .int 0), (2, .ref qm), (1, .ref qx), (0, .ref b)]) X dL_law_17 rfl (by decide) rfl ?_
  refine xj_sub [3, 2, 1, 0] rfl ?_
  obtain ⟨ax, hax⟩ : ∃ a : Nat → Nat, a = fun k => match k with | 0 => qx | k + 1 => ad (k + 1) := ⟨_, rfl⟩
  obtain ⟨am, ham⟩ : ∃ a : Nat → Nat, a = fun k => match k with | 0 => qm | k + 1 => ae (k + 1) := ⟨_, rfl⟩
  have eX : wn_X7 cA qx ad = wX ax cA σ_0 := by subst hax; rfl
  have eM : wn_X8 cA qm ae = wM am cA τ_0 := by subst ham; rfl
  rw [eX, eM, show qx = ax 0 by subst hax; rfl, show qm = am 0 by subst ham; rfl]
  intro H locs ls hI hl
  obtain ⟨hP, hD, hS⟩ := hI
  exact law_loop hr X (x_Dis_of hD) hX hbl hL (L + 1) 0 σ_0 τ_0 sim_0 (Nat.zero_le _) (by omega) H locs ls ⟨hP, hS⟩ hl
set_option maxHeartbeats 4000000 in
theorem lw_walk (l : Launch) (hflags : l.flags = flags0) (b : Addr) (xs : List Int32) : MetFree l x (headSpec (Jvm.Cond.code x code maxLocals ret :: tables_1) room_1) (lw_P b xs) (fun _ _ _ _ _ => True) lw_Q := by
  refine MetFree.of_bodyS (code := code) (maxLocals := maxLocals) (ret := ret) (by decide) ?_ ?_
  · intro args s m h hn
    obtain ⟨meth, c, h1, h2, h3, h4, h5, h6, -, -⟩ := Cond.code_spec hn (atoms_spec (ws := Jvm.Cond.code x code maxLocals ret :: tables_1) h _ List.mem_cons_self)
    exact ⟨meth, c, h1, h2, h3, h4, h5, h6⟩
  · intro p e s m args below meth c s₁ B hml0 hP _
    obtain ⟨rfl, hx, hbd, hgv⟩ := hP
    obtain ⟨scr, harrAt, hlist, hof, hsmall⟩ := hx
    obtain ⟨hcb, hkn, -, -⟩ := State.arrayAt?_spec harrAt
    have hown : s.vm.findClass R_law = some m.cls := findClass_of_methodNamed B.named
    have hts0 : ∀ c ∈ (Jvm.Cond.code x code maxLocals ret :: tables_1), c.before #[Value.ref b] s = true := atoms_spec (ws := Jvm.Cond.code x code maxLocals ret :: tables_1) B.pre
    have hts : ∀ w ∈ lw_tbl, w.before #[Value.ref b] s = true := k2_hts_sels lw_privs (fun w hw => hts0 w (List.mem_cons_of_mem _ hw)) lw_privs_ok
    have hml : c.maxLocals = 4 := B.maxLocals_eq (hts0 _ List.mem_cons_self)
    have X₀ : Stand p l e room_1 s m #[Value.ref b] below meth c s₁ [] 0 0 := Stand.of_body B
    have hh0 : s₁.heap = s.heap := by rw [B.state]; rfl
    have hsz : scr.slots.size = xs.length := by rw [← Array.length_toList, hlist, List.length_map]
    have hval : ∀ j : Nat, j < xs.length → scr.slots[j]? = some (.int (xs.getD j 0)) := fun j hj => by
      rw [← Array.getElem?_toList, hlist]
      simp [hj]
    have hbl : b < s.heap.size := (Array.getElem?_eq_some_iff.mp hcb).1
    have hX : va_X b xs.length (fun j => xs.getD j 0) s s.heap := ⟨scr, hcb, hof, hkn, hsz, hval⟩
    have K : W p l e room_1 s m #[Value.ref b] below meth c s₁.heap [] 0 0 (lw_Z below #[Value.ref b] s) (entryFrame m ([Value.ref b] : List Value).toArray 4) := by
      rw [hh0]
      exact whole_start l hflags hbd ⟨B.exec, B.bytes, B.returns, hml, hown, hts, hX, hbl, B.notSynchronized, hgv⟩
    obtain ⟨t, a1, o, b1, b2, b3⟩ := K s₁ rfl X₀
    exact ⟨t, o, a1, b1, b2, b3⟩
theorem lw_pre_spec {args : Array Value} {s : State} (h : (Jvm.Cond.and given_1 narrow_1).before args s = true) (hr : rest_1_c.before args s = true) : ∃ (b : Addr) (xs : List Int32), lw_P b xs args s := by
  have hs := flat_of_before _ h
  have hq := flat_of_before _ hr
  have hc : (Cond.count 1).before args s = true := hs _ (by decide +kernel)
  have harr : (Cond.arrayOf (.arg 0) .int).before args s = true := hs _ (by decide +kernel)
  have hle : (Cond.le (.length (.arg 0)) (.int 1536)).before args s = true := hs _ (by decide +kernel)
  have hlen : (Cond.isInt (.length (.arg 0))).before args s = true := hq _ (by decide +kernel)
  have hall : (Cond.all (.arg 0) (.isInt (.elem (.arg 0) (.index 0)))).before args s = true := hq _ (by decide +kernel)
  obtain ⟨b, xs, hb, hx⟩ := State.ints_of_pre rfl harr hlen hall
  have hsm : xs.length < 2 ^ 31 := hx.choose_spec.2.2.2
  have hev : (Term.length (.arg 0)).eval args s none [] s = some (.int xs.length.toInt32) := hx.length_eval hb
  have hv := Cond.le_ints hev (show (Term.int 1536).eval args s none [] s = some (.int 1536) from rfl)
  have hd : xs.length.toInt32 ≤ 1536 := by
    simpa [Cond.before, Cond.holds, hv] using hle
  have hN : xs.length ≤ 1536 := (Int32.ofNat_le_ofNat hsm (by decide)).mp (show Int32.ofNat xs.length ≤ Int32.ofNat 1536 from hd)
  exact ⟨b, xs, Cond.one_arg hc (show args[0]? = some (.ref b) from hb), hx, hN, h⟩
theorem lw_comes (l : Launch) (hflags : l.flags = flags0) : Comes l x (Jvm.Cond.code x code maxLocals ret :: tables_1) room_1 (fun tb e args s => Calls_1 tb e args s ∧ rest_1 tb e args s ∧ Pre_1 tb e args s)
    (fun _ _ args s o t => lw_Q args s o t) := by
  intro p e ha hc hk s m args below hf hfit hheap happ hpre
  obtain ⟨b, xs, hP⟩ := lw_pre_spec hpre.2.2 hpre.2.1
  obtain ⟨k, o, h1, h2, h3, hQ⟩ := lw_walk l hflags b xs p e ha hc hk s m args below hf ((Spec.applies_iff_loose hf).mp happ).1 hP trivial
  exact ⟨k, o, h1, h2, h3, hQ⟩
theorem lw_frame {s t : State} {o : Outcome} {args : Array Value} (h : Framed s o t [] 46 1021) :
    Framed s o t (fieldLocs frame_1_writes args s ++ arrayLocs frame_1_arrays args s ++ staticLocs frame_1_statics s) 46 1021 := h
theorem lw_limb (L : Cond) (hL : ∀ (args : Array Value) (s t : State), L.after args s (.returned (some (.int 1))) t = true) :
    ArmFor flags0 classFile x code maxLocals ret World_1 tables_1 room_1 Calls_1 rest_1 Pre_1
      (fun tb e a s o t => postC L tb e a s o t ∧ Framed s o t (fieldLocs frame_1_writes a s ++ arrayLocs frame_1_arrays a s ++ staticLocs frame_1_statics s) 46 1021) := by
  intro l hflags _ _ p e ha hc hk s m args below hf hfit hheap happ hpre
  obtain ⟨k, o, h1, h2, h3, rfl, hF⟩ := lw_comes l hflags p e ha hc hk s m args below hf hfit hheap happ hpre
  exact ⟨k, _, h1, h2, h3, hL args s _, lw_frame hF⟩
theorem i_vc : Claimed_1_1 ∧ Claimed_1_2 := ⟨lw_limb limb_1_1 (fun args s t => by simp [limb_1_1, Cond.after, Cond.holds, Cond.value]), lw_limb limb_1_2 (fun args s t => Cond.after_iff.mpr (by
  first | (rw [show limb_1_2 = Cond.eq .result (.int 1) from rfl, Cond.eq_ints (x := 1) (y := 1) rfl rfl]; simp; done) | (simp [limb_1_2, Cond.value, Term.eval]; done)))⟩

