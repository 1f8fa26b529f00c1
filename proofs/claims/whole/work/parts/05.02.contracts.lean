set_option maxHeartbeats 4000000 in
set_option maxRecDepth 100000 in
theorem ctX5_sameLength (l : Launch) (D : va_G) (cA : ClassId) (ad : Nat → Nat) (σ : x_M) (p2 : Int32) (p3 : Int32) (r0 : Bool) (hf : fX5_sameLength σ p2 p3 = r0) : Met l yX5_sameLength zX5_sameLength ({ frames := 1, cells := 0, slots := 0, locals := 21 } : Room) (x_P D cA [.ref (ad 15), .ref (ad 10), .int p2, .int p3] (wX ad cA σ)) (x_R (some (.int (b2i r0)))) 0 0 (fun _ => False) := by
  refine x_met (cc := cX5_sameLength) (maxL := 4) (ret := (some .boolean)) RX5 rfl (by decide) rfl [(0, .ref (ad 15)), (1, .ref (ad 10)), (2, .int p2), (3, .int p3)] rfl (Nat.le_of_ble_eq_true rfl) ?_
  intro p e s m args below meth c hr X
  rw [fX5_sameLength] at hf
  refine xj_aload_n X 1 dX5_sameLength_0 rfl rfl ?_
  refine xj_get X x_IR.P inG_X3 10 (wX_at10 ad cA σ) rfl 0 (by decide) mk1_90 (.ref (ad 11)) rfl dX5_sameLength_1 ?_
  refine xj_iload_n X 2 dX5_sameLength_4 rfl rfl ?_
  refine xj_roI (r := x_at 6 (σ 11) p2) (rest := []) (fun _ h => h) (x_runSN X (c_at l D cA (wX_at11 ad cA σ) (by decide) p2) (x_cwN X kwX7_at x_nest_17 rfl rfl ⟨Nat.le_of_ble_eq_true rfl, Nat.le_of_ble_eq_true rfl⟩) x_IR.P rfl rfl (Nat.le_of_ble_eq_true rfl) dX5_sameLength_5 ⟨Nat.zero_le _, Nat.zero_le _⟩) ?_
  refine xj_aload_n X 0 dX5_sameLength_8 rfl rfl ?_
  refine xj_get X x_IR.P inG_X5 15 (wX_at15 ad cA σ) rfl 0 (by decide) mk1_135 (.ref (ad 16)) rfl dX5_sameLength_9 ?_
  refine xj_get X x_IR.P inG_X3 16 (wX_at16 ad cA σ) rfl 0 (by decide) mk1_90 (.ref (ad 17)) rfl dX5_sameLength_12 ?_
  refine xj_iload_n X 3 dX5_sameLength_15 rfl rfl ?_
  refine xj_roI (r := x_at 6 (σ 17) p3) (rest := [.int (x_at 6 (σ 11) p2)]) (fun _ h => h) (x_runSN X (c_at l D cA (wX_at17 ad cA σ) (by decide) p3) (x_cwN X kwX7_at x_nest_17 rfl rfl ⟨Nat.le_of_ble_eq_true rfl, Nat.le_of_ble_eq_true rfl⟩) x_IR.P rfl rfl (Nat.le_of_ble_eq_true rfl) dX5_sameLength_16 ⟨Nat.zero_le _, Nat.zero_le _⟩) ?_
  refine xj_icmp_ne (tgt := 26) X dX5_sameLength_19 rfl hf (fun hf => ?_) (fun hf => ?_)
  · refine xj_iconst (x := (0 : Int32)) X dX5_sameLength_26 rfl ?_
    exact xj_zret_ro X hr (x_b2i hf) dX5_sameLength_27
  · refine xj_iconst (x := (1 : Int32)) X dX5_sameLength_22 rfl ?_
    refine xj_goto (tgt := 27) X dX5_sameLength_23 rfl ?_
    exact xj_zret_ro X hr (x_b2i hf) dX5_sameLength_27
set_option maxHeartbeats 4000000 in
set_option maxRecDepth 100000 in
theorem ctX5_supports (l : Launch) (D : va_G) (cA : ClassId) (ad : Nat → Nat) (σ : x_M) (p2 : Int32) (r0 : Bool) (hf : fX5_supports σ p2 = some r0) : Met l yX5_supports zX5_supports ({ frames := 3, cells := 0, slots := 0, locals := 68 } : Room) (x_P D cA [.ref (ad 15), .ref (ad 10), .int p2] (wX ad cA σ)) (x_R (some (.int (b2i r0)))) 0 0 (fun _ => False) := by
  refine x_met (cc := cX5_supports) (maxL := 4) (ret := (some .boolean)) RX5 rfl (by decide) rfl [(0, .ref (ad 15)), (1, .ref (ad 10)), (2, .int p2)] rfl (Nat.le_of_ble_eq_true rfl) ?_
  intro p e s m args below meth c hr X
  have B_2 : ∀ (n : Nat) (v2 : Int32) (v3 : Int32), fX5_supports_2 σ n v2 v3 = some r0 → x_J 4 p l e ({ frames := 3, cells := 0, slots := 0, locals := 68 } : Room) s m args below meth c 0 0 (x_IR D s (wX ad cA σ)) (MQ below (x_R (some (.int (b2i r0)))) args s 0 0 (fun _ => False)) 2 [(0, .ref (ad 15)), (1, .ref (ad 10)), (2, .int v2), (3, .int v3)] [] := by
    intro n
    induction n with
    | zero => intro v2 v3 hf; rw [fX5_supports_2] at hf; cases hf
    | succ n ih =>
      intro v2 v3 hf
      rw [fX5_supports_2] at hf
      refine xj_iload_n X 3 dX5_supports_2 rfl rfl ?_
      refine xj_aload_n X 0 dX5_supports_3 rfl rfl ?_
      refine xj_get X x_IR.P inG_X5 15 (wX_at15 ad cA σ) rfl 0 (by decide) mk1_135 (.ref (ad 16)) rfl dX5_supports_4 ?_
      refine xj_get X x_IR.P inG_X3 16 (wX_at16 ad cA σ) rfl 1 (by decide) mk1_93 (.int (σ 16 1)) rfl dX5_supports_7 ?_
      refine xj_icmp_ge (tgt := 56) X dX5_supports_10 rfl hf (fun hf => ?_) (fun hf => ?_)
      · refine xj_iconst (x := (0 : Int32)) X dX5_supports_56 rfl ?_
        exact xj_zret_ro X hr (x_b2i (x_1 hf)) dX5_supports_57
      · refine xj_aload_n X 1 dX5_supports_13 rfl rfl ?_
        refine xj_iload_n X 2 dX5_supports_14 rfl rfl ?_
        refine xj_aload_n X 0 dX5_supports_15 rfl rfl ?_
        refine xj_get X x_IR.P inG_X5 15 (wX_at15 ad cA σ) rfl 0 (by decide) mk1_135 (.ref (ad 16)) rfl dX5_supports_16 ?_
        refine xj_iload_n X 3 dX5_supports_19 rfl rfl ?_
        obtain ⟨x1_20, hx1_20, hf⟩ := x_bind hf
        refine xj_roI (r := b2i x1_20) (rest := []) (fun _ h => h) (x_runV X (ctX3_beginsWith_10 l D cA ad σ v2 v3 _ hx1_20) (x_cwV X kwX3_beginsWith mk2_196 rfl rfl ⟨Nat.le_of_ble_eq_true rfl, Nat.le_of_ble_eq_true rfl⟩) x_IR.P 10 (wX_at10 ad cA σ) rfl rfl rfl (Nat.le_of_ble_eq_true rfl) dX5_supports_20 ⟨Nat.zero_le _, Nat.zero_le _⟩) ?_
        refine xj_if_eq (tgt := 50) X dX5_supports_23 rfl hf (fun hf => ?_) (fun hf => ?_)
        · refine xj_iinc (y := v3 + (1 : Int32)) (lv' := [(3, .int (v3 + (1 : Int32))), (0, .ref (ad 15)), (1, .ref (ad 10)), (2, .int v2)]) X 3 dX5_supports_50 rfl rfl (Nat.le_of_ble_eq_true rfl) rfl ?_
          refine xj_sub [1, 2, 3, 0] rfl ?_
          refine xj_goto (tgt := 2) X dX5_supports_53 rfl ?_
          exact ih v2 (v3 + (1 : Int32)) hf
        · refine xj_aload_n X 0 dX5_supports_26 rfl rfl ?_
          refine xj_get X x_IR.P inG_X5 15 (wX_at15 ad cA σ) rfl 7 (by decide) mk1_149 (.ref (ad 20)) rfl dX5_supports_27 ?_
          refine xj_iload_n X 3 dX5_supports_30 rfl rfl ?_
          refine xj_roI (r := x_at 5 (σ 20) v3) (rest := []) (fun _ h => h) (x_runSN X (c_at l D cA (wX_at20 ad cA σ) (by decide) v3) (x_cwN X kwX7_at x_nest_17 rfl rfl ⟨Nat.le_of_ble_eq_true rfl, Nat.le_of_ble_eq_true rfl⟩) x_IR.P rfl rfl (Nat.le_of_ble_eq_true rfl) dX5_supports_31 ⟨Nat.zero_le _, Nat.zero_le _⟩) ?_
          refine xj_iconst (x := (1 : Int32)) X dX5_supports_34 rfl ?_
          refine xj_icmp_eq (tgt := 48) X dX5_supports_35 rfl hf (fun hf => ?_) (fun hf => ?_)
          · refine xj_iconst (x := (1 : Int32)) X dX5_supports_48 rfl ?_
            exact xj_zret_ro X hr (x_b2i (x_1 hf)) dX5_supports_49
          · refine xj_aload_n X 0 dX5_supports_38 rfl rfl ?_
            refine xj_aload_n X 1 dX5_supports_39 rfl rfl ?_
            refine xj_iload_n X 2 dX5_supports_40 rfl rfl ?_
            refine xj_iload_n X 3 dX5_supports_41 rfl rfl ?_
            refine xj_roI (r := b2i (fX5_sameLength σ v2 v3)) (rest := []) (fun _ h => h) (x_runV X (ctX5_sameLength l D cA ad σ v2 v3 _ rfl) (x_cwV X kwX5_sameLength mk2_200 rfl rfl ⟨Nat.le_of_ble_eq_true rfl, Nat.le_of_ble_eq_true rfl⟩) x_IR.P 15 (wX_at15 ad cA σ) rfl rfl rfl (Nat.le_of_ble_eq_true rfl) dX5_supports_42 ⟨Nat.zero_le _, Nat.zero_le _⟩) ?_
            refine xj_if_eq (tgt := 50) X dX5_supports_45 rfl hf (fun hf => ?_) (fun hf => ?_)
            · refine xj_iinc (y := v3 + (1 : Int32)) (lv' := [(3, .int (v3 + (1 : Int32))), (0, .ref (ad 15)), (1, .ref (ad 10)), (2, .int v2)]) X 3 dX5_supports_50 rfl rfl (Nat.le_of_ble_eq_true rfl) rfl ?_
              refine xj_sub [1, 2, 3, 0] rfl ?_
              refine xj_goto (tgt := 2) X dX5_supports_53 rfl ?_
              exact ih v2 (v3 + (1 : Int32)) hf
            · refine xj_iconst (x := (1 : Int32)) X dX5_supports_48 rfl ?_
              exact xj_zret_ro X hr (x_b2i (x_1 hf)) dX5_supports_49
  rw [fX5_supports] at hf
  refine xj_iconst (x := (0 : Int32)) X dX5_supports_0 rfl ?_
  refine xj_istore_n (lv' := [(3, .int ((0 : Int32))), (0, .ref (ad 15)), (1, .ref (ad 10)), (2, .int p2)]) X dX5_supports_1 rfl (Nat.le_of_ble_eq_true rfl) rfl ?_
  refine xj_sub [1, 2, 3, 0] rfl ?_
  exact (B_2 x_fuel p2 ((0 : Int32)) hf)
set_option maxHeartbeats 4000000 in
set_option maxRecDepth 100000 in
theorem ctX7_isCandidate (l : Launch) (D : va_G) (cA : ClassId) (ad : Nat → Nat) (σ : x_M) (p1 : Int32) (r0 : Bool) (hf : fX7_isCandidate σ p1 = some r0) : Met l yX7_isCandidate zX7_isCandidate ({ frames := 4, cells := 0, slots := 0, locals := 91 } : Room) (x_P D cA [.ref (ad 0), .int p1] (wX ad cA σ)) (x_R (some (.int (b2i r0)))) 0 0 (fun _ => False) := by
  refine x_met (cc := cX7_isCandidate) (maxL := 2) (ret := (some .boolean)) RX7 rfl (by decide) rfl [(0, .ref (ad 0)), (1, .int p1)] rfl (Nat.le_of_ble_eq_true rfl) ?_
  intro p e s m args below meth c hr X
  rw [fX7_isCandidate] at hf
  refine xj_aload_n X 0 dX7_isCandidate_0 rfl rfl ?_
  refine xj_get X x_IR.P inG_X7 0 (wX_at0 ad cA σ) rfl 3 (by decide) mk1_210 (.ref (ad 15)) rfl dX7_isCandidate_1 ?_
  refine xj_aload_n X 0 dX7_isCandidate_4 rfl rfl ?_
  refine xj_get X x_IR.P inG_X7 0 (wX_at0 ad cA σ) rfl 2 (by decide) mk1_209 (.ref (ad 9)) rfl dX7_isCandidate_5 ?_
  refine xj_get X x_IR.P inG_X1 9 (wX_at9 ad cA σ) rfl 0 (by decide) mk1_104 (.ref (ad 10)) rfl dX7_isCandidate_8 ?_
  refine xj_iload_n X 1 dX7_isCandidate_11 rfl rfl ?_
  obtain ⟨x1_12, hx1_12, hf⟩ := x_bind hf
  refine xj_roI (r := b2i x1_12) (rest := []) (fun _ h => h) (x_runV X (ctX5_supports l D cA ad σ p1 _ hx1_12) (x_cwV X kwX5_supports mk2_192 rfl rfl ⟨Nat.le_of_ble_eq_true rfl, Nat.le_of_ble_eq_true rfl⟩) x_IR.P 15 (wX_at15 ad cA σ) rfl rfl rfl (Nat.le_of_ble_eq_true rfl) dX7_isCandidate_12 ⟨Nat.zero_le _, Nat.zero_le _⟩) ?_
  exact xj_zret_ro X hr (x_b2i (x_1 hf)) dX7_isCandidate_15
set_option maxHeartbeats 4000000 in
set_option maxRecDepth 100000 in
theorem ctX7_candidateCount (l : Launch) (D : va_G) (cA : ClassId) (ad : Nat → Nat) (σ : x_M) (r0 : Int32) (hf : fX7_candidateCount σ = some r0) : Met l yX7_candidateCount zX7_candidateCount ({ frames := 5, cells := 0, slots := 0, locals := 112 } : Room) (x_P D cA [.ref (ad 0)] (wX ad cA σ)) (x_R (some (.int r0))) 0 0 (fun _ => False) := by
  refine x_met (cc := cX7_candidateCount) (maxL := 3) (ret := (some .int)) RX7 rfl (by decide) rfl [(0, .ref (ad 0))] rfl (Nat.le_of_ble_eq_true rfl) ?_
  intro p e s m args below meth c hr X
  have B_4 : ∀ (n : Nat) (v1 : Int32) (v2 : Int32), fX7_candidateCount_4 σ n v1 v2 = some r0 → x_J 3 p l e ({ frames := 5, cells := 0, slots := 0, locals := 112 } : Room) s m args below meth c 0 0 (x_IR D s (wX ad cA σ)) (MQ below (x_R (some (.int r0))) args s 0 0 (fun _ => False)) 4 [(0, .ref (ad 0)), (1, .int v1), (2, .int v2)] [] := by
    intro n
    induction n with
    | zero => intro v1 v2 hf; rw [fX7_candidateCount_4] at hf; cases hf
    | succ n ih =>
      intro v1 v2 hf
      rw [fX7_candidateCount_4] at hf
      refine xj_iload_n X 2 dX7_candidateCount_4 rfl rfl ?_
      refine xj_aload_n X 0 dX7_candidateCount_5 rfl rfl ?_
      refine xj_get X x_IR.P inG_X7 0 (wX_at0 ad cA σ) rfl 2 (by decide) mk1_209 (.ref (ad 9)) rfl dX7_candidateCount_6 ?_
      refine xj_get X x_IR.P inG_X1 9 (wX_at9 ad cA σ) rfl 0 (by decide) mk1_104 (.ref (ad 10)) rfl dX7_candidateCount_9 ?_
      refine xj_get X x_IR.P inG_X3 10 (wX_at10 ad cA σ) rfl 1 (by decide) mk1_94 (.int (σ 10 1)) rfl dX7_candidateCount_12 ?_
      refine xj_icmp_ge (tgt := 35) X dX7_candidateCount_15 rfl hf (fun hf => ?_) (fun hf => ?_)
      · refine xj_iload_n X 1 dX7_candidateCount_35 rfl rfl ?_
        exact xj_iret_ro X hr (x_1 hf) dX7_candidateCount_36
      · refine xj_aload_n X 0 dX7_candidateCount_18 rfl rfl ?_
        refine xj_iload_n X 2 dX7_candidateCount_19 rfl rfl ?_
        obtain ⟨x1_20, hx1_20, hf⟩ := x_bind hf
        refine xj_roI (r := b2i x1_20) (rest := []) (fun _ h => h) (x_runV X (ctX7_isCandidate l D cA ad σ v2 _ hx1_20) (x_cwV X kwX7_isCandidate mk2_188 rfl rfl ⟨Nat.le_of_ble_eq_true rfl, Nat.le_of_ble_eq_true rfl⟩) x_IR.P 0 (wX_at0 ad cA σ) rfl rfl rfl (Nat.le_of_ble_eq_true rfl) dX7_candidateCount_20 ⟨Nat.zero_le _, Nat.zero_le _⟩) ?_
        refine xj_if_eq (tgt := 29) X dX7_candidateCount_23 rfl hf (fun hf => ?_) (fun hf => ?_)
        · refine xj_iinc (y := v2 + (1 : Int32)) (lv' := [(2, .int (v2 + (1 : Int32))), (0, .ref (ad 0)), (1, .int v1)]) X 2 dX7_candidateCount_29 rfl rfl (Nat.le_of_ble_eq_true rfl) rfl ?_
          refine xj_sub [1, 2, 0] rfl ?_
          refine xj_goto (tgt := 4) X dX7_candidateCount_32 rfl ?_
          exact ih v1 (v2 + (1 : Int32)) hf
        · refine xj_iinc (y := v1 + (1 : Int32)) (lv' := [(1, .int (v1 + (1 : Int32))), (0, .ref (ad 0)), (2, .int v2)]) X 1 dX7_candidateCount_26 rfl rfl (Nat.le_of_ble_eq_true rfl) rfl ?_
          refine xj_sub [1, 0, 2] rfl ?_
          refine xj_iinc (y := v2 + (1 : Int32)) (lv' := [(2, .int (v2 + (1 : Int32))), (0, .ref (ad 0)), (1, .int (v1 + (1 : Int32)))]) X 2 dX7_candidateCount_29 rfl rfl (Nat.le_of_ble_eq_true rfl) rfl ?_
          refine xj_sub [1, 2, 0] rfl ?_
          refine xj_goto (tgt := 4) X dX7_candidateCount_32 rfl ?_
          exact ih (v1 + (1 : Int32)) (v2 + (1 : Int32)) hf
  rw [fX7_candidateCount] at hf
  refine xj_iconst (x := (0 : Int32)) X dX7_candidateCount_0 rfl ?_
  refine xj_istore_n (lv' := [(1, .int ((0 : Int32))), (0, .ref (ad 0))]) X dX7_candidateCount_1 rfl (Nat.le_of_ble_eq_true rfl) rfl ?_
  refine xj_sub [1, 0] rfl ?_
  refine xj_iconst (x := (0 : Int32)) X dX7_candidateCount_2 rfl ?_
  refine xj_istore_n (lv' := [(2, .int ((0 : Int32))), (0, .ref (ad 0)), (1, .int ((0 : Int32)))]) X dX7_candidateCount_3 rfl (Nat.le_of_ble_eq_true rfl) rfl ?_
  refine xj_sub [1, 2, 0] rfl ?_
  exact (B_4 x_fuel ((0 : Int32)) ((0 : Int32)) hf)
set_option maxHeartbeats 4000000 in
set_option maxRecDepth 100000 in
theorem ctX1_rank (l : Launch) (D : va_G) (cA : ClassId) (ad : Nat → Nat) (σ : x_M) (p1 : Int32) (r0 : Int32) (hf : fX1_rank σ p1 = r0) : Met l yX1_rank zX1_rank ({ frames := 2, cells := 0, slots := 0, locals := 42 } : Room) (x_P D cA [.ref (ad 9), .int p1] (wX ad cA σ)) (x_R (some (.int r0))) 0 0 (fun _ => False) := by
  refine x_met (cc := cX1_rank) (maxL := 3) (ret := (some .int)) RX1 rfl (by decide) rfl [(0, .ref (ad 9)), (1, .int p1)] rfl (Nat.le_of_ble_eq_true rfl) ?_
  intro p e s m args below meth c hr X
  rw [fX1_rank] at hf
  refine xj_aload_n X 0 dX1_rank_0 rfl rfl ?_
  refine xj_iload_n X 1 dX1_rank_1 rfl rfl ?_
  refine xj_roI (r := fX1_priority σ p1) (rest := []) (fun _ h => h) (x_runV X (ctX1_priority l D cA ad σ p1 _ rfl) (x_cwV X kwX1_priority mk2_220 rfl rfl ⟨Nat.le_of_ble_eq_true rfl, Nat.le_of_ble_eq_true rfl⟩) x_IR.P 9 (wX_at9 ad cA σ) rfl rfl rfl (Nat.le_of_ble_eq_true rfl) dX1_rank_2 ⟨Nat.zero_le _, Nat.zero_le _⟩) ?_
  refine xj_istore_n (lv' := [(2, .int (fX1_priority σ p1)), (0, .ref (ad 9)), (1, .int p1)]) X dX1_rank_5 rfl (Nat.le_of_ble_eq_true rfl) rfl ?_
  refine xj_sub [1, 2, 0] rfl ?_
  refine xj_iload_n X 2 dX1_rank_6 rfl rfl ?_
  refine xj_if_ne (tgt := 15) X dX1_rank_7 rfl hf (fun hf => ?_) (fun hf => ?_)
  · refine xj_iload_n X 2 dX1_rank_15 rfl rfl ?_
    exact xj_iret_ro X hr hf dX1_rank_16
  · refine xj_bipush (x := (16 : Int32)) X dX1_rank_10 rfl ?_
    refine xj_goto (tgt := 16) X dX1_rank_12 rfl ?_
    exact xj_iret_ro X hr hf dX1_rank_16
set_option maxHeartbeats 4000000 in
set_option maxRecDepth 100000 in
theorem ctX1_comesBefore (l : Launch) (D : va_G) (cA : ClassId) (ad : Nat → Nat) (σ : x_M) (p1 : Int32) (p2 : Int32) (r0 : Bool) (hf : fX1_comesBefore σ p1 p2 = r0) : Met l yX1_comesBefore zX1_comesBefore ({ frames := 3, cells := 0, slots := 0, locals := 64 } : Room) (x_P D cA [.ref (ad 9), .int p1, .int p2] (wX ad cA σ)) (x_R (some (.int (b2i r0)))) 0 0 (fun _ => False) := by
  refine x_met (cc := cX1_comesBefore) (maxL := 5) (ret := (some .boolean)) RX1 rfl (by decide) rfl [(0, .ref (ad 9)), (1, .int p1), (2, .int p2)] rfl (Nat.le_of_ble_eq_true rfl) ?_
  intro p e s m args below meth c hr X
  rw [fX1_comesBefore] at hf
  refine xj_aload_n X 0 dX1_comesBefore_0 rfl rfl ?_
  refine xj_iload_n X 1 dX1_comesBefore_1 rfl rfl ?_
  refine xj_roI (r := fX1_rank σ p1) (rest := []) (fun _ h => h) (x_runV X (ctX1_rank l D cA ad σ p1 _ rfl) (x_cwV X kwX1_rank mk2_216 rfl rfl ⟨Nat.le_of_ble_eq_true rfl, Nat.le_of_ble_eq_true rfl⟩) x_IR.P 9 (wX_at9 ad cA σ) rfl rfl rfl (Nat.le_of_ble_eq_true rfl) dX1_comesBefore_2 ⟨Nat.zero_le _, Nat.zero_le _⟩) ?_
  refine xj_istore_n (lv' := [(3, .int (fX1_rank σ p1)), (0, .ref (ad 9)), (1, .int p1), (2, .int p2)]) X dX1_comesBefore_5 rfl (Nat.le_of_ble_eq_true rfl) rfl ?_
  refine xj_sub [1, 2, 3, 0] rfl ?_
  refine xj_aload_n X 0 dX1_comesBefore_6 rfl rfl ?_
  refine xj_iload_n X 2 dX1_comesBefore_7 rfl rfl ?_
  refine xj_roI (r := fX1_rank σ p2) (rest := []) (fun _ h => h) (x_runV X (ctX1_rank l D cA ad σ p2 _ rfl) (x_cwV X kwX1_rank mk2_216 rfl rfl ⟨Nat.le_of_ble_eq_true rfl, Nat.le_of_ble_eq_true rfl⟩) x_IR.P 9 (wX_at9 ad cA σ) rfl rfl rfl (Nat.le_of_ble_eq_true rfl) dX1_comesBefore_8 ⟨Nat.zero_le _, Nat.zero_le _⟩) ?_
  refine xj_istore (lv' := [(4, .int (fX1_rank σ p2)), (0, .ref (ad 9)), (1, .int p1), (2, .int p2), (3, .int (fX1_rank σ p1))]) X dX1_comesBefore_11 (Nat.le_of_ble_eq_true rfl) rfl ?_
  refine xj_sub [1, 2, 3, 4, 0] rfl ?_
  refine xj_iload_n X 3 dX1_comesBefore_13 rfl rfl ?_
  refine xj_iload X 4 dX1_comesBefore_14 rfl ?_
  refine xj_icmp_lt (tgt := 30) X dX1_comesBefore_16 rfl hf (fun hf => ?_) (fun hf => ?_)
  · refine xj_iconst (x := (1 : Int32)) X dX1_comesBefore_30 rfl ?_
    refine xj_goto (tgt := 35) X dX1_comesBefore_31 rfl ?_
    exact xj_zret_ro X hr (x_b2i hf) dX1_comesBefore_35
  · refine xj_iload_n X 3 dX1_comesBefore_19 rfl rfl ?_
    refine xj_iload X 4 dX1_comesBefore_20 rfl ?_
    refine xj_icmp_ne (tgt := 34) X dX1_comesBefore_22 rfl hf (fun hf => ?_) (fun hf => ?_)
    · refine xj_iconst (x := (0 : Int32)) X dX1_comesBefore_34 rfl ?_
      exact xj_zret_ro X hr (x_b2i hf) dX1_comesBefore_35
    · refine xj_iload_n X 1 dX1_comesBefore_25 rfl rfl ?_
      refine xj_iload_n X 2 dX1_comesBefore_26 rfl rfl ?_
      refine xj_icmp_ge (tgt := 34) X dX1_comesBefore_27 rfl hf (fun hf => ?_) (fun hf => ?_)
      · refine xj_iconst (x := (0 : Int32)) X dX1_comesBefore_34 rfl ?_
        exact xj_zret_ro X hr (x_b2i hf) dX1_comesBefore_35
      · refine xj_iconst (x := (1 : Int32)) X dX1_comesBefore_30 rfl ?_
        refine xj_goto (tgt := 35) X dX1_comesBefore_31 rfl ?_
        exact xj_zret_ro X hr (x_b2i hf) dX1_comesBefore_35
set_option maxHeartbeats 4000000 in
set_option maxRecDepth 100000 in
theorem ctX7_candidatesBefore (l : Launch) (D : va_G) (cA : ClassId) (ad : Nat → Nat) (σ : x_M) (p1 : Int32) (r0 : Int32) (hf : fX7_candidatesBefore σ p1 = some r0) : Met l yX7_candidatesBefore zX7_candidatesBefore ({ frames := 5, cells := 0, slots := 0, locals := 112 } : Room) (x_P D cA [.ref (ad 0), .int p1] (wX ad cA σ)) (x_R (some (.int r0))) 0 0 (fun _ => False) := by
  refine x_met (cc := cX7_candidatesBefore) (maxL := 4) (ret := (some .int)) RX7 rfl (by decide) rfl [(0, .ref (ad 0)), (1, .int p1)] rfl (Nat.le_of_ble_eq_true rfl) ?_
  intro p e s m args below meth c hr X
  have B_4 : ∀ (n : Nat) (v1 : Int32) (v2 : Int32) (v3 : Int32), fX7_candidatesBefore_4 σ n v1 v2 v3 = some r0 → x_J 4 p l e ({ frames := 5, cells := 0, slots := 0, locals := 112 } : Room) s m args below meth c 0 0 (x_IR D s (wX ad cA σ)) (MQ below (x_R (some (.int r0))) args s 0 0 (fun _ => False)) 4 [(0, .ref (ad 0)), (1, .int v1), (2, .int v2), (3, .int v3)] [] := by
    intro n
    induction n with
    | zero => intro v1 v2 v3 hf; rw [fX7_candidatesBefore_4] at hf; cases hf
    | succ n ih =>
      intro v1 v2 v3 hf
      rw [fX7_candidatesBefore_4] at hf
      refine xj_iload_n X 3 dX7_candidatesBefore_4 rfl rfl ?_
      refine xj_aload_n X 0 dX7_candidatesBefore_5 rfl rfl ?_
      refine xj_get X x_IR.P inG_X7 0 (wX_at0 ad cA σ) rfl 2 (by decide) mk1_209 (.ref (ad 9)) rfl dX7_candidatesBefore_6 ?_
      refine xj_get X x_IR.P inG_X1 9 (wX_at9 ad cA σ) rfl 0 (by decide) mk1_104 (.ref (ad 10)) rfl dX7_candidatesBefore_9 ?_
      refine xj_get X x_IR.P inG_X3 10 (wX_at10 ad cA σ) rfl 1 (by decide) mk1_94 (.int (σ 10 1)) rfl dX7_candidatesBefore_12 ?_
      refine xj_icmp_ge (tgt := 47) X dX7_candidatesBefore_15 rfl hf (fun hf => ?_) (fun hf => ?_)
      · refine xj_iload_n X 2 dX7_candidatesBefore_47 rfl rfl ?_
        exact xj_iret_ro X hr (x_1 hf) dX7_candidatesBefore_48
      · refine xj_aload_n X 0 dX7_candidatesBefore_18 rfl rfl ?_
        refine xj_iload_n X 3 dX7_candidatesBefore_19 rfl rfl ?_
        obtain ⟨x1_20, hx1_20, hf⟩ := x_bind hf
        refine xj_roI (r := b2i x1_20) (rest := []) (fun _ h => h) (x_runV X (ctX7_isCandidate l D cA ad σ v3 _ hx1_20) (x_cwV X kwX7_isCandidate mk2_188 rfl rfl ⟨Nat.le_of_ble_eq_true rfl, Nat.le_of_ble_eq_true rfl⟩) x_IR.P 0 (wX_at0 ad cA σ) rfl rfl rfl (Nat.le_of_ble_eq_true rfl) dX7_candidatesBefore_20 ⟨Nat.zero_le _, Nat.zero_le _⟩) ?_
        refine xj_if_eq (tgt := 41) X dX7_candidatesBefore_23 rfl hf (fun hf => ?_) (fun hf => ?_)
        · refine xj_iinc (y := v3 + (1 : Int32)) (lv' := [(3, .int (v3 + (1 : Int32))), (0, .ref (ad 0)), (1, .int v1), (2, .int v2)]) X 3 dX7_candidatesBefore_41 rfl rfl (Nat.le_of_ble_eq_true rfl) rfl ?_
          refine xj_sub [1, 2, 3, 0] rfl ?_
          refine xj_goto (tgt := 4) X dX7_candidatesBefore_44 rfl ?_
          exact ih v1 v2 (v3 + (1 : Int32)) hf
        · refine xj_aload_n X 0 dX7_candidatesBefore_26 rfl rfl ?_
          refine xj_get X x_IR.P inG_X7 0 (wX_at0 ad cA σ) rfl 2 (by decide) mk1_209 (.ref (ad 9)) rfl dX7_candidatesBefore_27 ?_
          refine xj_iload_n X 3 dX7_candidatesBefore_30 rfl rfl ?_
          refine xj_iload_n X 1 dX7_candidatesBefore_31 rfl rfl ?_
          refine xj_roI (r := b2i (fX1_comesBefore σ v3 v1)) (rest := []) (fun _ h => h) (x_runV X (ctX1_comesBefore l D cA ad σ v3 v1 _ rfl) (x_cwV X kwX1_comesBefore mk2_212 rfl rfl ⟨Nat.le_of_ble_eq_true rfl, Nat.le_of_ble_eq_true rfl⟩) x_IR.P 9 (wX_at9 ad cA σ) rfl rfl rfl (Nat.le_of_ble_eq_true rfl) dX7_candidatesBefore_32 ⟨Nat.zero_le _, Nat.zero_le _⟩) ?_
          refine xj_if_eq (tgt := 41) X dX7_candidatesBefore_35 rfl hf (fun hf => ?_) (fun hf => ?_)
          · refine xj_iinc (y := v3 + (1 : Int32)) (lv' := [(3, .int (v3 + (1 : Int32))), (0, .ref (ad 0)), (1, .int v1), (2, .int v2)]) X 3 dX7_candidatesBefore_41 rfl rfl (Nat.le_of_ble_eq_true rfl) rfl ?_
            refine xj_sub [1, 2, 3, 0] rfl ?_
            refine xj_goto (tgt := 4) X dX7_candidatesBefore_44 rfl ?_
            exact ih v1 v2 (v3 + (1 : Int32)) hf
          · refine xj_iinc (y := v2 + (1 : Int32)) (lv' := [(2, .int (v2 + (1 : Int32))), (0, .ref (ad 0)), (1, .int v1), (3, .int v3)]) X 2 dX7_candidatesBefore_38 rfl rfl (Nat.le_of_ble_eq_true rfl) rfl ?_
            refine xj_sub [1, 2, 0, 3] rfl ?_
            refine xj_iinc (y := v3 + (1 : Int32)) (lv' := [(3, .int (v3 + (1 : Int32))), (0, .ref (ad 0)), (1, .int v1), (2, .int (v2 + (1 : Int32)))]) X 3 dX7_candidatesBefore_41 rfl rfl (Nat.le_of_ble_eq_true rfl) rfl ?_
            refine xj_sub [1, 2, 3, 0] rfl ?_
            refine xj_goto (tgt := 4) X dX7_candidatesBefore_44 rfl ?_
            exact ih v1 (v2 + (1 : Int32)) (v3 + (1 : Int32)) hf
  rw [fX7_candidatesBefore] at hf
  refine xj_iconst (x := (0 : Int32)) X dX7_candidatesBefore_0 rfl ?_
  refine xj_istore_n (lv' := [(2, .int ((0 : Int32))), (0, .ref (ad 0)), (1, .int p1)]) X dX7_candidatesBefore_1 rfl (Nat.le_of_ble_eq_true rfl) rfl ?_
  refine xj_sub [1, 2, 0] rfl ?_
  refine xj_iconst (x := (0 : Int32)) X dX7_candidatesBefore_2 rfl ?_
  refine xj_istore_n (lv' := [(3, .int ((0 : Int32))), (0, .ref (ad 0)), (1, .int p1), (2, .int ((0 : Int32)))]) X dX7_candidatesBefore_3 rfl (Nat.le_of_ble_eq_true rfl) rfl ?_
  refine xj_sub [1, 2, 3, 0] rfl ?_
  exact (B_4 x_fuel p1 ((0 : Int32)) ((0 : Int32)) hf)
set_option maxHeartbeats 4000000 in
set_option maxRecDepth 100000 in
theorem ctX7_candidateAt (l : Launch) (D : va_G) (cA : ClassId) (ad : Nat → Nat) (σ : x_M) (p1 : Int32) (r0 : Int32) (hf : fX7_candidateAt σ p1 = some r0) : Met l yX7_candidateAt zX7_candidateAt ({ frames := 6, cells := 0, slots := 0, locals := 135 } : Room) (x_P D cA [.ref (ad 0), .int p1] (wX ad cA σ)) (x_R (some (.int r0))) 0 0 (fun _ => False) := by
  refine x_met (cc := cX7_candidateAt) (maxL := 3) (ret := (some .int)) RX7 rfl (by decide) rfl [(0, .ref (ad 0)), (1, .int p1)] rfl (Nat.le_of_ble_eq_true rfl) ?_
  intro p e s m args below meth c hr X
  have B_8 : ∀ (n : Nat) (v1 : Int32) (v2 : Int32), fX7_candidateAt_8 σ n v1 v2 = some r0 → x_J 3 p l e ({ frames := 6, cells := 0, slots := 0, locals := 135 } : Room) s m args below meth c 0 0 (x_IR D s (wX ad cA σ)) (MQ below (x_R (some (.int r0))) args s 0 0 (fun _ => False)) 8 [(0, .ref (ad 0)), (1, .int v1), (2, .int v2)] [] := by
    intro n
    induction n with
    | zero => intro v1 v2 hf; rw [fX7_candidateAt_8] at hf; cases hf
    | succ n ih =>
      intro v1 v2 hf
      rw [fX7_candidateAt_8] at hf
      refine xj_iload_n X 2 dX7_candidateAt_8 rfl rfl ?_
      refine xj_aload_n X 0 dX7_candidateAt_9 rfl rfl ?_
      refine xj_get X x_IR.P inG_X7 0 (wX_at0 ad cA σ) rfl 2 (by decide) mk1_209 (.ref (ad 9)) rfl dX7_candidateAt_10 ?_
      refine xj_get X x_IR.P inG_X1 9 (wX_at9 ad cA σ) rfl 0 (by decide) mk1_104 (.ref (ad 10)) rfl dX7_candidateAt_13 ?_
      refine xj_get X x_IR.P inG_X3 10 (wX_at10 ad cA σ) rfl 1 (by decide) mk1_94 (.int (σ 10 1)) rfl dX7_candidateAt_16 ?_
      refine xj_icmp_ge (tgt := 47) X dX7_candidateAt_19 rfl hf (fun hf => ?_) (fun hf => ?_)
      · refine xj_bipush (x := (-4 : Int32)) X dX7_candidateAt_47 rfl ?_
        exact xj_iret_ro X hr (x_1 hf) dX7_candidateAt_49
      · refine xj_aload_n X 0 dX7_candidateAt_22 rfl rfl ?_
        refine xj_iload_n X 2 dX7_candidateAt_23 rfl rfl ?_
        obtain ⟨x1_24, hx1_24, hf⟩ := x_bind hf
        refine xj_roI (r := b2i x1_24) (rest := []) (fun _ h => h) (x_runV X (ctX7_isCandidate l D cA ad σ v2 _ hx1_24) (x_cwV X kwX7_isCandidate mk2_188 rfl rfl ⟨Nat.le_of_ble_eq_true rfl, Nat.le_of_ble_eq_true rfl⟩) x_IR.P 0 (wX_at0 ad cA σ) rfl rfl rfl (Nat.le_of_ble_eq_true rfl) dX7_candidateAt_24 ⟨Nat.zero_le _, Nat.zero_le _⟩) ?_
        refine xj_if_eq (tgt := 41) X dX7_candidateAt_27 rfl hf (fun hf => ?_) (fun hf => ?_)
        · refine xj_iinc (y := v2 + (1 : Int32)) (lv' := [(2, .int (v2 + (1 : Int32))), (0, .ref (ad 0)), (1, .int v1)]) X 2 dX7_candidateAt_41 rfl rfl (Nat.le_of_ble_eq_true rfl) rfl ?_
          refine xj_sub [1, 2, 0] rfl ?_
          refine xj_goto (tgt := 8) X dX7_candidateAt_44 rfl ?_
          exact ih v1 (v2 + (1 : Int32)) hf
        · refine xj_aload_n X 0 dX7_candidateAt_30 rfl rfl ?_
          refine xj_iload_n X 2 dX7_candidateAt_31 rfl rfl ?_
          obtain ⟨x2_32, hx2_32, hf⟩ := x_bind hf
          refine xj_roI (r := x2_32) (rest := []) (fun _ h => h) (x_runV X (ctX7_candidatesBefore l D cA ad σ v2 _ hx2_32) (x_cwV X kwX7_candidatesBefore mk2_208 rfl rfl ⟨Nat.le_of_ble_eq_true rfl, Nat.le_of_ble_eq_true rfl⟩) x_IR.P 0 (wX_at0 ad cA σ) rfl rfl rfl (Nat.le_of_ble_eq_true rfl) dX7_candidateAt_32 ⟨Nat.zero_le _, Nat.zero_le _⟩) ?_
          refine xj_iload_n X 1 dX7_candidateAt_35 rfl rfl ?_
          refine xj_icmp_ne (tgt := 41) X dX7_candidateAt_36 rfl hf (fun hf => ?_) (fun hf => ?_)
          · refine xj_iinc (y := v2 + (1 : Int32)) (lv' := [(2, .int (v2 + (1 : Int32))), (0, .ref (ad 0)), (1, .int v1)]) X 2 dX7_candidateAt_41 rfl rfl (Nat.le_of_ble_eq_true rfl) rfl ?_
            refine xj_sub [1, 2, 0] rfl ?_
            refine xj_goto (tgt := 8) X dX7_candidateAt_44 rfl ?_
            exact ih v1 (v2 + (1 : Int32)) hf
          · refine xj_iload_n X 2 dX7_candidateAt_39 rfl rfl ?_
            exact xj_iret_ro X hr (x_1 hf) dX7_candidateAt_40
  rw [fX7_candidateAt] at hf
  refine xj_iload_n X 1 dX7_candidateAt_0 rfl rfl ?_
  refine xj_if_ge (tgt := 6) X dX7_candidateAt_1 rfl hf (fun hf => ?_) (fun hf => ?_)
  · refine xj_iconst (x := (0 : Int32)) X dX7_candidateAt_6 rfl ?_
    refine xj_istore_n (lv' := [(2, .int ((0 : Int32))), (0, .ref (ad 0)), (1, .int p1)]) X dX7_candidateAt_7 rfl (Nat.le_of_ble_eq_true rfl) rfl ?_
    refine xj_sub [1, 2, 0] rfl ?_
    exact (B_8 x_fuel p1 ((0 : Int32)) hf)
  · refine xj_iconst (x := (-1 : Int32)) X dX7_candidateAt_4 rfl ?_
    exact xj_iret_ro X hr (x_1 hf) dX7_candidateAt_5
set_option maxHeartbeats 4000000 in
set_option maxRecDepth 100000 in
theorem ctX1_needsConfirmation (l : Launch) (D : va_G) (cA : ClassId) (ad : Nat → Nat) (σ : x_M) (p1 : Int32) (r0 : Bool) (hf : fX1_needsConfirmation σ p1 = r0) : Met l yX1_needsConfirmation zX1_needsConfirmation ({ frames := 1, cells := 0, slots := 0, locals := 21 } : Room) (x_P D cA [.ref (ad 9), .int p1] (wX ad cA σ)) (x_R (some (.int (b2i r0)))) 0 0 (fun _ => False) := by
  refine x_met (cc := cX1_needsConfirmation) (maxL := 2) (ret := (some .boolean)) RX1 rfl (by decide) rfl [(0, .ref (ad 9)), (1, .int p1)] rfl (Nat.le_of_ble_eq_true rfl) ?_
  intro p e s m args below meth c hr X
  rw [fX1_needsConfirmation] at hf
  refine xj_aload_n X 0 dX1_needsConfirmation_0 rfl rfl ?_
  refine xj_get X x_IR.P inG_X1 9 (wX_at9 ad cA σ) rfl 5 (by decide) mk1_113 (.ref (ad 14)) rfl dX1_needsConfirmation_1 ?_
  refine xj_iload_n X 1 dX1_needsConfirmation_4 rfl rfl ?_
  refine xj_roI (r := x_at 6 (σ 14) p1) (rest := []) (fun _ h => h) (x_runSN X (c_at l D cA (wX_at14 ad cA σ) (by decide) p1) (x_cwN X kwX7_at x_nest_13 rfl rfl ⟨Nat.le_of_ble_eq_true rfl, Nat.le_of_ble_eq_true rfl⟩) x_IR.P rfl rfl (Nat.le_of_ble_eq_true rfl) dX1_needsConfirmation_5 ⟨Nat.zero_le _, Nat.zero_le _⟩) ?_
  refine xj_sipush (x := (128 : Int32)) X dX1_needsConfirmation_8 rfl ?_
  refine xj_iand X dX1_needsConfirmation_11 ?_
  refine xj_if_eq (tgt := 19) X dX1_needsConfirmation_12 rfl hf (fun hf => ?_) (fun hf => ?_)
  · refine xj_iconst (x := (0 : Int32)) X dX1_needsConfirmation_19 rfl ?_
    exact xj_zret_ro X hr (x_b2i hf) dX1_needsConfirmation_20
  · refine xj_iconst (x := (1 : Int32)) X dX1_needsConfirmation_15 rfl ?_
    refine xj_goto (tgt := 20) X dX1_needsConfirmation_16 rfl ?_
    exact xj_zret_ro X hr (x_b2i hf) dX1_needsConfirmation_20
set_option maxHeartbeats 4000000 in
set_option maxRecDepth 100000 in
theorem ctX7_select (l : Launch) (D : va_G) (cA : ClassId) {ad : Nat → Nat} (hj : x_inj 26 ad) (σ : x_M) (p1 : Int32) (p2 : Bool) (r0 : Int32) (σ0 : x_M) (hf : fX7_select σ p1 p2 = some (r0, σ0)) : Met l yX7_select zX7_select ({ frames := 6, cells := 0, slots := 0, locals := 135 } : Room) (x_P D cA [.ref (ad 0), .int p1, .int (b2i p2)] (wX ad cA σ)) (x_U D (some (.int r0)) (wX ad cA σ0) (x_A 26 ad)) 0 0 (x_A 26 ad) := by
  refine x_met (cc := cX7_select) (maxL := 3) (ret := (some .int)) RX7 rfl (by decide) rfl [(0, .ref (ad 0)), (1, .int p1), (2, .int (b2i p2))] rfl (Nat.le_of_ble_eq_true rfl) ?_
  intro p e s m args below meth c hr X
  have B_41 : ∀ (σ : x_M) (v1 : Int32), fX7_select_41 σ v1 = some (r0, σ0) → x_J 3 p l e ({ frames := 6, cells := 0, slots := 0, locals := 135 } : Room) s m args below meth c 0 0 (x_IW D s (x_A 26 ad) (wX ad cA σ)) (MQ below (x_U D (some (.int r0)) (wX ad cA σ0) (x_A 26 ad)) args s 0 0 (x_A 26 ad)) 41 [(0, .ref (ad 0)), (1, .int v1)] [] := by
    intro  σ v1 hf
    rw [fX7_select_41] at hf
    refine xj_aload_n X 0 dX7_select_41 rfl rfl ?_
    refine xj_iload_n X 1 dX7_select_42 rfl rfl ?_
    obtain ⟨x1_43, hx1_43, hf⟩ := x_bind hf
    refine xj_roI (r := b2i x1_43) (rest := []) (fun _ h => h) (x_runV X (ctX7_isCandidate l D cA ad σ v1 _ hx1_43) (x_cwV X kwX7_isCandidate mk2_188 rfl rfl ⟨Nat.le_of_ble_eq_true rfl, Nat.le_of_ble_eq_true rfl⟩) x_IW.P 0 (wX_at0 ad cA σ) rfl rfl rfl (Nat.le_of_ble_eq_true rfl) dX7_select_43 ⟨Nat.zero_le _, Nat.zero_le _⟩) ?_
    refine xj_if_ne (tgt := 52) X dX7_select_46 rfl hf (fun hf => ?_) (fun hf => ?_)
    · refine xj_aload_n X 0 dX7_select_52 rfl rfl ?_
      refine xj_get X x_IW.P inG_X7 0 (wX_at0 ad cA σ) rfl 2 (by decide) mk1_209 (.ref (ad 9)) rfl dX7_select_53 ?_
      refine xj_iload_n X 1 dX7_select_56 rfl rfl ?_
      refine xj_put X (wX_D hj cA _) inG_X1 tyX1_ok nmX1 9 (wX_at9 ad cA σ) rfl 2 (by decide) mk1_108 rfl .int rfl rfl rfl (Nat.le_of_ble_eq_true rfl) (wX_st9_2 ad cA σ v1) dX7_select_57 ?_
      refine xj_aload_n X 0 dX7_select_60 rfl rfl ?_
      refine xj_iload_n X 1 dX7_select_61 rfl rfl ?_
      obtain ⟨x2_62, hx2_62, hf⟩ := x_bind hf
      refine xj_roI (r := x2_62) (rest := []) (fun _ h => h) (x_runV X (ctX7_candidatesBefore l D cA ad (up2 σ 9 2 v1) v1 _ hx2_62) (x_cwV X kwX7_candidatesBefore mk2_208 rfl rfl ⟨Nat.le_of_ble_eq_true rfl, Nat.le_of_ble_eq_true rfl⟩) x_IW.P 0 (wX_at0 ad cA (up2 σ 9 2 v1)) rfl rfl rfl (Nat.le_of_ble_eq_true rfl) dX7_select_62 ⟨Nat.zero_le _, Nat.zero_le _⟩) ?_
      exact xj_iret_wr X hr (x_2a hf) (congrArg (wX ad cA) (x_2b hf)) dX7_select_65
    · refine xj_bipush (x := (-4 : Int32)) X dX7_select_49 rfl ?_
      exact xj_iret_wr X hr (x_2a hf) (congrArg (wX ad cA) (x_2b hf)) dX7_select_51
  refine xj_w (A := x_A 26 ad) ?_
  rw [fX7_select] at hf
  refine xj_aload_n X 0 dX7_select_0 rfl rfl ?_
  refine xj_get X x_IW.P inG_X7 0 (wX_at0 ad cA σ) rfl 2 (by decide) mk1_209 (.ref (ad 9)) rfl dX7_select_1 ?_
  refine xj_iload_n X 1 dX7_select_4 rfl rfl ?_
  refine xj_roI (r := b2i (fX1_hasApplication σ p1)) (rest := []) (fun _ h => h) (x_runV X (ctX1_hasApplication l D cA ad σ p1 _ rfl) (x_cwV X kwX1_hasApplication mk2_116 rfl rfl ⟨Nat.le_of_ble_eq_true rfl, Nat.le_of_ble_eq_true rfl⟩) x_IW.P 9 (wX_at9 ad cA σ) rfl rfl rfl (Nat.le_of_ble_eq_true rfl) dX7_select_5 ⟨Nat.zero_le _, Nat.zero_le _⟩) ?_
  refine xj_if_ne (tgt := 13) X dX7_select_8 rfl hf (fun hf => ?_) (fun hf => ?_)
  · refine xj_aload_n X 0 dX7_select_13 rfl rfl ?_
    refine xj_get X x_IW.P inG_X7 0 (wX_at0 ad cA σ) rfl 4 (by decide) mk1_211 (.ref (ad 21)) rfl dX7_select_14 ?_
    refine xj_roI (r := b2i (fX6_isPending σ)) (rest := []) (fun _ h => h) (x_runV X (ctX6_isPending l D cA ad σ _ rfl) (x_cwV X kwX6_isPending mk2_70 rfl rfl ⟨Nat.le_of_ble_eq_true rfl, Nat.le_of_ble_eq_true rfl⟩) x_IW.P 21 (wX_at21 ad cA σ) rfl rfl rfl (Nat.le_of_ble_eq_true rfl) dX7_select_17 ⟨Nat.zero_le _, Nat.zero_le _⟩) ?_
    refine xj_if_ne (tgt := 38) X dX7_select_20 rfl hf (fun hf => ?_) (fun hf => ?_)
    · refine xj_bipush (x := (-2 : Int32)) X dX7_select_38 rfl ?_
      exact xj_iret_wr X hr (x_2a hf) (congrArg (wX ad cA) (x_2b hf)) dX7_select_40
    · refine xj_aload_n X 0 dX7_select_23 rfl rfl ?_
      refine xj_get X x_IW.P inG_X7 0 (wX_at0 ad cA σ) rfl 2 (by decide) mk1_209 (.ref (ad 9)) rfl dX7_select_24 ?_
      refine xj_iload_n X 1 dX7_select_27 rfl rfl ?_
      refine xj_roI (r := b2i (fX1_needsConfirmation σ p1)) (rest := []) (fun _ h => h) (x_runV X (ctX1_needsConfirmation l D cA ad σ p1 _ rfl) (x_cwV X kwX1_needsConfirmation mk2_225 rfl rfl ⟨Nat.le_of_ble_eq_true rfl, Nat.le_of_ble_eq_true rfl⟩) x_IW.P 9 (wX_at9 ad cA σ) rfl rfl rfl (Nat.le_of_ble_eq_true rfl) dX7_select_28 ⟨Nat.zero_le _, Nat.zero_le _⟩) ?_
      refine xj_if_eq (tgt := 41) X dX7_select_31 rfl hf (fun hf => ?_) (fun hf => ?_)
      · exact xj_sub [0, 1] rfl (B_41 σ p1 hf)
      · refine xj_iload_n X 2 dX7_select_34 rfl rfl ?_
        refine xj_if_ne (tgt := 41) X dX7_select_35 rfl hf (fun hf => ?_) (fun hf => ?_)
        · exact xj_sub [0, 1] rfl (B_41 σ p1 hf)
        · refine xj_bipush (x := (-2 : Int32)) X dX7_select_38 rfl ?_
          exact xj_iret_wr X hr (x_2a hf) (congrArg (wX ad cA) (x_2b hf)) dX7_select_40
  · refine xj_iconst (x := (-1 : Int32)) X dX7_select_11 rfl ?_
    exact xj_iret_wr X hr (x_2a hf) (congrArg (wX ad cA) (x_2b hf)) dX7_select_12
set_option maxHeartbeats 4000000 in
set_option maxRecDepth 100000 in
theorem ctX7_verify (l : Launch) (D : va_G) (cA : ClassId) (ad : Nat → Nat) (σ : x_M) (p1 : Int32) (p2 : Int32) (r0 : Int32) (hf : fX7_verify σ p1 p2 = r0) : Met l yX7_verify zX7_verify ({ frames := 0, cells := 0, slots := 0, locals := 0 } : Room) (x_P D cA [.ref (ad 0), .int p1, .int p2] (wX ad cA σ)) (x_R (some (.int r0))) 0 0 (fun _ => False) := by
  refine x_met (cc := cX7_verify) (maxL := 4) (ret := (some .int)) RX7 rfl (by decide) rfl [(0, .ref (ad 0)), (1, .int p1), (2, .int p2)] rfl (Nat.le_of_ble_eq_true rfl) ?_
  intro p e s m args below meth c hr X
  have B_90 : ∀ (v3 : Int32), fX7_verify_90 σ v3 = r0 → x_J 4 p l e ({ frames := 0, cells := 0, slots := 0, locals := 0 } : Room) s m args below meth c 0 0 (x_IR D s (wX ad cA σ)) (MQ below (x_R (some (.int r0))) args s 0 0 (fun _ => False)) 90 [(0, .ref (ad 0)), (3, .int v3)] [] := by
    intro  v3 hf
    rw [fX7_verify_90] at hf
    refine xj_aload_n X 0 dX7_verify_90 rfl rfl ?_
    refine xj_get X x_IR.P inG_X7 0 (wX_at0 ad cA σ) rfl 5 (by decide) mk1_212 (.ref (ad 24)) rfl dX7_verify_91 ?_
    refine xj_get X x_IR.P inG_X4 24 (wX_at24 ad cA σ) rfl 0 (by decide) mk1_200 (.int (σ 24 0)) rfl dX7_verify_94 ?_
    refine xj_if_le (tgt := 105) X dX7_verify_97 rfl hf (fun hf => ?_) (fun hf => ?_)
    · refine xj_iload_n X 1 dX7_verify_105 rfl rfl ?_
      exact xj_iret_ro X hr hf dX7_verify_106
    · refine xj_iload_n X 1 dX7_verify_100 rfl rfl ?_
      refine xj_bipush (x := (32 : Int32)) X dX7_verify_101 rfl ?_
      refine xj_ior X dX7_verify_103 ?_
      refine xj_istore_n (lv' := [(3, .int (v3 ||| ((32 : Int32)))), (0, .ref (ad 0))]) X dX7_verify_104 rfl (Nat.le_of_ble_eq_true rfl) rfl ?_
      refine xj_sub [1, 0] rfl ?_
      refine xj_iload_n X 1 dX7_verify_105 rfl rfl ?_
      exact xj_iret_ro X hr hf dX7_verify_106
  have B_75 : ∀ (v3 : Int32), fX7_verify_75 σ v3 = r0 → x_J 4 p l e ({ frames := 0, cells := 0, slots := 0, locals := 0 } : Room) s m args below meth c 0 0 (x_IR D s (wX ad cA σ)) (MQ below (x_R (some (.int r0))) args s 0 0 (fun _ => False)) 75 [(0, .ref (ad 0)), (3, .int v3)] [] := by
    intro  v3 hf
    rw [fX7_verify_75] at hf
    refine xj_aload_n X 0 dX7_verify_75 rfl rfl ?_
    refine xj_get X x_IR.P inG_X7 0 (wX_at0 ad cA σ) rfl 2 (by decide) mk1_209 (.ref (ad 9)) rfl dX7_verify_76 ?_
    refine xj_get X x_IR.P inG_X1 9 (wX_at9 ad cA σ) rfl 4 (by decide) mk1_112 (.int (σ 9 4)) rfl dX7_verify_79 ?_
    refine xj_if_eq (tgt := 90) X dX7_verify_82 rfl hf (fun hf => ?_) (fun hf => ?_)
    · exact (B_90 v3 hf)
    · refine xj_iload_n X 1 dX7_verify_85 rfl rfl ?_
      refine xj_bipush (x := (16 : Int32)) X dX7_verify_86 rfl ?_
      refine xj_ior X dX7_verify_88 ?_
      refine xj_istore_n (lv' := [(3, .int (v3 ||| ((16 : Int32)))), (0, .ref (ad 0))]) X dX7_verify_89 rfl (Nat.le_of_ble_eq_true rfl) rfl ?_
      refine xj_sub [1, 0] rfl ?_
      exact (B_90 (v3 ||| ((16 : Int32))) hf)
  have B_53 : ∀ (v3 : Int32), fX7_verify_53 σ v3 = r0 → x_J 4 p l e ({ frames := 0, cells := 0, slots := 0, locals := 0 } : Room) s m args below meth c 0 0 (x_IR D s (wX ad cA σ)) (MQ below (x_R (some (.int r0))) args s 0 0 (fun _ => False)) 53 [(0, .ref (ad 0)), (3, .int v3)] [] := by
    intro  v3 hf
    rw [fX7_verify_53] at hf
    refine xj_aload_n X 0 dX7_verify_53 rfl rfl ?_
    refine xj_get X x_IR.P inG_X7 0 (wX_at0 ad cA σ) rfl 2 (by decide) mk1_209 (.ref (ad 9)) rfl dX7_verify_54 ?_
    refine xj_get X x_IR.P inG_X1 9 (wX_at9 ad cA σ) rfl 3 (by decide) mk1_110 (.int (σ 9 3)) rfl dX7_verify_57 ?_
    refine xj_aload_n X 0 dX7_verify_60 rfl rfl ?_
    refine xj_get X x_IR.P inG_X7 0 (wX_at0 ad cA σ) rfl 3 (by decide) mk1_210 (.ref (ad 15)) rfl dX7_verify_61 ?_
    refine xj_get X x_IR.P inG_X5 15 (wX_at15 ad cA σ) rfl 4 (by decide) mk1_144 (.int (σ 15 4)) rfl dX7_verify_64 ?_
    refine xj_icmp_lt (tgt := 75) X dX7_verify_67 rfl hf (fun hf => ?_) (fun hf => ?_)
    · exact (B_75 v3 hf)
    · refine xj_iload_n X 1 dX7_verify_70 rfl rfl ?_
      refine xj_bipush (x := (8 : Int32)) X dX7_verify_71 rfl ?_
      refine xj_ior X dX7_verify_73 ?_
      refine xj_istore_n (lv' := [(3, .int (v3 ||| ((8 : Int32)))), (0, .ref (ad 0))]) X dX7_verify_74 rfl (Nat.le_of_ble_eq_true rfl) rfl ?_
      refine xj_sub [1, 0] rfl ?_
      exact (B_75 (v3 ||| ((8 : Int32))) hf)
  have B_32 : ∀ (v3 : Int32), fX7_verify_32 σ v3 = r0 → x_J 4 p l e ({ frames := 0, cells := 0, slots := 0, locals := 0 } : Room) s m args below meth c 0 0 (x_IR D s (wX ad cA σ)) (MQ below (x_R (some (.int r0))) args s 0 0 (fun _ => False)) 32 [(0, .ref (ad 0)), (3, .int v3)] [] := by
    intro  v3 hf
    rw [fX7_verify_32] at hf
    refine xj_aload_n X 0 dX7_verify_32 rfl rfl ?_
    refine xj_get X x_IR.P inG_X7 0 (wX_at0 ad cA σ) rfl 2 (by decide) mk1_209 (.ref (ad 9)) rfl dX7_verify_33 ?_
    refine xj_get X x_IR.P inG_X1 9 (wX_at9 ad cA σ) rfl 3 (by decide) mk1_110 (.int (σ 9 3)) rfl dX7_verify_36 ?_
    refine xj_aload_n X 0 dX7_verify_39 rfl rfl ?_
    refine xj_get X x_IR.P inG_X7 0 (wX_at0 ad cA σ) rfl 3 (by decide) mk1_210 (.ref (ad 15)) rfl dX7_verify_40 ?_
    refine xj_get X x_IR.P inG_X5 15 (wX_at15 ad cA σ) rfl 3 (by decide) mk1_142 (.int (σ 15 3)) rfl dX7_verify_43 ?_
    refine xj_icmp_lt (tgt := 53) X dX7_verify_46 rfl hf (fun hf => ?_) (fun hf => ?_)
    · exact (B_53 v3 hf)
    · refine xj_iload_n X 1 dX7_verify_49 rfl rfl ?_
      refine xj_iconst (x := (4 : Int32)) X dX7_verify_50 rfl ?_
      refine xj_ior X dX7_verify_51 ?_
      refine xj_istore_n (lv' := [(3, .int (v3 ||| ((4 : Int32)))), (0, .ref (ad 0))]) X dX7_verify_52 rfl (Nat.le_of_ble_eq_true rfl) rfl ?_
      refine xj_sub [1, 0] rfl ?_
      exact (B_53 (v3 ||| ((4 : Int32))) hf)
  have B_17 : ∀ (v2 : Int32) (v3 : Int32), fX7_verify_17 σ v2 v3 = r0 → x_J 4 p l e ({ frames := 0, cells := 0, slots := 0, locals := 0 } : Room) s m args below meth c 0 0 (x_IR D s (wX ad cA σ)) (MQ below (x_R (some (.int r0))) args s 0 0 (fun _ => False)) 17 [(0, .ref (ad 0)), (2, .int v2), (3, .int v3)] [] := by
    intro  v2 v3 hf
    rw [fX7_verify_17] at hf
    refine xj_iload_n X 1 dX7_verify_17 rfl rfl ?_
    refine xj_aload_n X 0 dX7_verify_18 rfl rfl ?_
    refine xj_get X x_IR.P inG_X7 0 (wX_at0 ad cA σ) rfl 3 (by decide) mk1_210 (.ref (ad 15)) rfl dX7_verify_19 ?_
    refine xj_get X x_IR.P inG_X5 15 (wX_at15 ad cA σ) rfl 5 (by decide) mk1_146 (.int (σ 15 5)) rfl dX7_verify_22 ?_
    refine xj_icmp_ge (tgt := 32) X dX7_verify_25 rfl hf (fun hf => ?_) (fun hf => ?_)
    · exact xj_sub [0, 2] rfl (B_32 v3 hf)
    · refine xj_iload_n X 2 dX7_verify_28 rfl rfl ?_
      refine xj_iconst (x := (2 : Int32)) X dX7_verify_29 rfl ?_
      refine xj_ior X dX7_verify_30 ?_
      refine xj_istore_n (lv' := [(3, .int (v3 ||| ((2 : Int32)))), (0, .ref (ad 0)), (2, .int v2)]) X dX7_verify_31 rfl (Nat.le_of_ble_eq_true rfl) rfl ?_
      refine xj_sub [1, 2, 0] rfl ?_
      exact xj_sub [0, 2] rfl (B_32 (v3 ||| ((2 : Int32))) hf)
  rw [fX7_verify] at hf
  refine xj_iconst (x := (0 : Int32)) X dX7_verify_0 rfl ?_
  refine xj_istore_n (lv' := [(3, .int ((0 : Int32))), (0, .ref (ad 0)), (1, .int p1), (2, .int p2)]) X dX7_verify_1 rfl (Nat.le_of_ble_eq_true rfl) rfl ?_
  refine xj_sub [1, 2, 3, 0] rfl ?_
  refine xj_iload_n X 1 dX7_verify_2 rfl rfl ?_
  refine xj_aload_n X 0 dX7_verify_3 rfl rfl ?_
  refine xj_get X x_IR.P inG_X7 0 (wX_at0 ad cA σ) rfl 3 (by decide) mk1_210 (.ref (ad 15)) rfl dX7_verify_4 ?_
  refine xj_get X x_IR.P inG_X5 15 (wX_at15 ad cA σ) rfl 2 (by decide) mk1_140 (.int (σ 15 2)) rfl dX7_verify_7 ?_
  refine xj_icmp_lt (tgt := 17) X dX7_verify_10 rfl hf (fun hf => ?_) (fun hf => ?_)
  · exact xj_sub [0, 2, 3] rfl (B_17 p2 ((0 : Int32)) hf)
  · refine xj_iload_n X 3 dX7_verify_13 rfl rfl ?_
    refine xj_iconst (x := (1 : Int32)) X dX7_verify_14 rfl ?_
    refine xj_ior X dX7_verify_15 ?_
    refine xj_istore_n (lv' := [(3, .int (((0 : Int32)) ||| ((1 : Int32)))), (0, .ref (ad 0)), (1, .int p1), (2, .int p2)]) X dX7_verify_16 rfl (Nat.le_of_ble_eq_true rfl) rfl ?_
    refine xj_sub [1, 2, 3, 0] rfl ?_
    exact xj_sub [0, 2, 3] rfl (B_17 p2 (((0 : Int32)) ||| ((1 : Int32))) hf)
set_option maxHeartbeats 4000000 in
set_option maxRecDepth 100000 in
theorem ctX7_isHitBy (l : Launch) (D : va_G) (cA : ClassId) (ad : Nat → Nat) (σ : x_M) (p1 : Int32) (p2 : Int32) (r0 : Bool) (hf : fX7_isHitBy σ p1 p2 = r0) : Met l yX7_isHitBy zX7_isHitBy ({ frames := 1, cells := 0, slots := 0, locals := 21 } : Room) (x_P D cA [.ref (ad 0), .int p1, .int p2] (wX ad cA σ)) (x_R (some (.int (b2i r0)))) 0 0 (fun _ => False) := by
  refine x_met (cc := cX7_isHitBy) (maxL := 4) (ret := (some .boolean)) RX7 rfl (by decide) rfl [(0, .ref (ad 0)), (1, .int p1), (2, .int p2)] rfl (Nat.le_of_ble_eq_true rfl) ?_
  intro p e s m args below meth c hr X
  rw [fX7_isHitBy] at hf
  refine xj_aload_n X 0 dX7_isHitBy_0 rfl rfl ?_
  refine xj_get X x_IR.P inG_X7 0 (wX_at0 ad cA σ) rfl 3 (by decide) mk1_210 (.ref (ad 15)) rfl dX7_isHitBy_1 ?_
  refine xj_get X x_IR.P inG_X5 15 (wX_at15 ad cA σ) rfl 1 (by decide) mk1_138 (.ref (ad 19)) rfl dX7_isHitBy_4 ?_
  refine xj_iload_n X 1 dX7_isHitBy_7 rfl rfl ?_
  refine xj_roI (r := x_at 3 (σ 19) p1) (rest := []) (fun _ h => h) (x_runS X (c_at l D cA (wX_at19 ad cA σ) (by decide) p1) (x_cwS X kwX7_at mk2_49 rfl rfl ⟨Nat.le_of_ble_eq_true rfl, Nat.le_of_ble_eq_true rfl⟩) x_IR.P rfl rfl (Nat.le_of_ble_eq_true rfl) dX7_isHitBy_8 ⟨Nat.zero_le _, Nat.zero_le _⟩) ?_
  refine xj_aload_n X 0 dX7_isHitBy_11 rfl rfl ?_
  refine xj_get X x_IR.P inG_X7 0 (wX_at0 ad cA σ) rfl 2 (by decide) mk1_209 (.ref (ad 9)) rfl dX7_isHitBy_12 ?_
  refine xj_get X x_IR.P inG_X1 9 (wX_at9 ad cA σ) rfl 1 (by decide) mk1_106 (.ref (ad 13)) rfl dX7_isHitBy_15 ?_
  refine xj_iload_n X 1 dX7_isHitBy_18 rfl rfl ?_
  refine xj_roI (r := x_at 3 (σ 13) p1) (rest := [.int (x_at 3 (σ 19) p1)]) (fun _ h => h) (x_runS X (c_at l D cA (wX_at13 ad cA σ) (by decide) p1) (x_cwS X kwX7_at mk2_49 rfl rfl ⟨Nat.le_of_ble_eq_true rfl, Nat.le_of_ble_eq_true rfl⟩) x_IR.P rfl rfl (Nat.le_of_ble_eq_true rfl) dX7_isHitBy_19 ⟨Nat.zero_le _, Nat.zero_le _⟩) ?_
  refine xj_ior X dX7_isHitBy_22 ?_
  refine xj_istore_n (lv' := [(3, .int ((x_at 3 (σ 19) p1) ||| (x_at 3 (σ 13) p1))), (0, .ref (ad 0)), (1, .int p1), (2, .int p2)]) X dX7_isHitBy_23 rfl (Nat.le_of_ble_eq_true rfl) rfl ?_
  refine xj_sub [1, 2, 3, 0] rfl ?_
  refine xj_iload_n X 2 dX7_isHitBy_24 rfl rfl ?_
  refine xj_iload_n X 3 dX7_isHitBy_25 rfl rfl ?_
  refine xj_iand X dX7_isHitBy_26 ?_
  refine xj_if_eq (tgt := 34) X dX7_isHitBy_27 rfl hf (fun hf => ?_) (fun hf => ?_)
  · refine xj_iconst (x := (0 : Int32)) X dX7_isHitBy_34 rfl ?_
    exact xj_zret_ro X hr (x_b2i hf) dX7_isHitBy_35
  · refine xj_iconst (x := (1 : Int32)) X dX7_isHitBy_30 rfl ?_
    refine xj_goto (tgt := 35) X dX7_isHitBy_31 rfl ?_
    exact xj_zret_ro X hr (x_b2i hf) dX7_isHitBy_35
set_option maxHeartbeats 4000000 in
set_option maxRecDepth 100000 in
theorem ctX7_decideWithoutHost (l : Launch) (D : va_G) (cA : ClassId) (ad : Nat → Nat) (σ : x_M) (p1 : Int32) (r0 : Int32) (hf : fX7_decideWithoutHost σ p1 = r0) : Met l yX7_decideWithoutHost zX7_decideWithoutHost ({ frames := 2, cells := 0, slots := 0, locals := 44 } : Room) (x_P D cA [.ref (ad 0), .int p1] (wX ad cA σ)) (x_R (some (.int r0))) 0 0 (fun _ => False) := by
  refine x_met (cc := cX7_decideWithoutHost) (maxL := 2) (ret := (some .int)) RX7 rfl (by decide) rfl [(0, .ref (ad 0)), (1, .int p1)] rfl (Nat.le_of_ble_eq_true rfl) ?_
  intro p e s m args below meth c hr X
  rw [fX7_decideWithoutHost] at hf
  refine xj_aload_n X 0 dX7_decideWithoutHost_0 rfl rfl ?_
  refine xj_iconst (x := (2 : Int32)) X dX7_decideWithoutHost_1 rfl ?_
  refine xj_iload_n X 1 dX7_decideWithoutHost_2 rfl rfl ?_
  refine xj_roI (r := b2i (fX7_isHitBy σ ((2 : Int32)) p1)) (rest := []) (fun _ h => h) (x_runV X (ctX7_isHitBy l D cA ad σ ((2 : Int32)) p1 _ rfl) (x_cwV X kwX7_isHitBy mk3_1 rfl rfl ⟨Nat.le_of_ble_eq_true rfl, Nat.le_of_ble_eq_true rfl⟩) x_IR.P 0 (wX_at0 ad cA σ) rfl rfl rfl (Nat.le_of_ble_eq_true rfl) dX7_decideWithoutHost_3 ⟨Nat.zero_le _, Nat.zero_le _⟩) ?_
  refine xj_if_eq (tgt := 13) X dX7_decideWithoutHost_6 rfl hf (fun hf => ?_) (fun hf => ?_)
  · refine xj_iconst (x := (1 : Int32)) X dX7_decideWithoutHost_13 rfl ?_
    exact xj_iret_ro X hr hf dX7_decideWithoutHost_14
  · refine xj_iconst (x := (0 : Int32)) X dX7_decideWithoutHost_9 rfl ?_
    refine xj_goto (tgt := 14) X dX7_decideWithoutHost_10 rfl ?_
    exact xj_iret_ro X hr hf dX7_decideWithoutHost_14
set_option maxHeartbeats 4000000 in
set_option maxRecDepth 100000 in
theorem ctX7_decide (l : Launch) (D : va_G) (cA : ClassId) (ad : Nat → Nat) (σ : x_M) (p1 : Int32) (r0 : Int32) (hf : fX7_decide σ p1 = r0) : Met l yX7_decide zX7_decide ({ frames := 3, cells := 0, slots := 0, locals := 65 } : Room) (x_P D cA [.ref (ad 0), .int p1] (wX ad cA σ)) (x_R (some (.int r0))) 0 0 (fun _ => False) := by
  refine x_met (cc := cX7_decide) (maxL := 2) (ret := (some .int)) RX7 rfl (by decide) rfl [(0, .ref (ad 0)), (1, .int p1)] rfl (Nat.le_of_ble_eq_true rfl) ?_
  intro p e s m args below meth c hr X
  have B_47 : ∀ (v1 : Int32), fX7_decide_47 σ v1 = r0 → x_J 2 p l e ({ frames := 3, cells := 0, slots := 0, locals := 65 } : Room) s m args below meth c 0 0 (x_IR D s (wX ad cA σ)) (MQ below (x_R (some (.int r0))) args s 0 0 (fun _ => False)) 47 [(0, .ref (ad 0)), (1, .int v1)] [] := by
    intro  v1 hf
    rw [fX7_decide_47] at hf
    refine xj_aload_n X 0 dX7_decide_47 rfl rfl ?_
    refine xj_iload_n X 1 dX7_decide_48 rfl rfl ?_
    refine xj_roI (r := fX7_decideWithoutHost σ v1) (rest := []) (fun _ h => h) (x_runV X (ctX7_decideWithoutHost l D cA ad σ v1 _ rfl) (x_cwV X kwX7_decideWithoutHost mk3_5 rfl rfl ⟨Nat.le_of_ble_eq_true rfl, Nat.le_of_ble_eq_true rfl⟩) x_IR.P 0 (wX_at0 ad cA σ) rfl rfl rfl (Nat.le_of_ble_eq_true rfl) dX7_decide_49 ⟨Nat.zero_le _, Nat.zero_le _⟩) ?_
    exact xj_iret_ro X hr hf dX7_decide_52
  rw [fX7_decide] at hf
  refine xj_aload_n X 0 dX7_decide_0 rfl rfl ?_
  refine xj_iconst (x := (0 : Int32)) X dX7_decide_1 rfl ?_
  refine xj_iload_n X 1 dX7_decide_2 rfl rfl ?_
  refine xj_roI (r := b2i (fX7_isHitBy σ ((0 : Int32)) p1)) (rest := []) (fun _ h => h) (x_runV X (ctX7_isHitBy l D cA ad σ ((0 : Int32)) p1 _ rfl) (x_cwV X kwX7_isHitBy mk3_1 rfl rfl ⟨Nat.le_of_ble_eq_true rfl, Nat.le_of_ble_eq_true rfl⟩) x_IR.P 0 (wX_at0 ad cA σ) rfl rfl rfl (Nat.le_of_ble_eq_true rfl) dX7_decide_3 ⟨Nat.zero_le _, Nat.zero_le _⟩) ?_
  refine xj_if_eq (tgt := 11) X dX7_decide_6 rfl hf (fun hf => ?_) (fun hf => ?_)
  · refine xj_aload_n X 0 dX7_decide_11 rfl rfl ?_
    refine xj_get X x_IR.P inG_X7 0 (wX_at0 ad cA σ) rfl 3 (by decide) mk1_210 (.ref (ad 15)) rfl dX7_decide_12 ?_
    refine xj_get X x_IR.P inG_X5 15 (wX_at15 ad cA σ) rfl 6 (by decide) mk1_148 (.int (σ 15 6)) rfl dX7_decide_15 ?_
    refine xj_if_eq (tgt := 47) X dX7_decide_18 rfl hf (fun hf => ?_) (fun hf => ?_)
    · exact (B_47 p1 hf)
    · refine xj_aload_n X 0 dX7_decide_21 rfl rfl ?_
      refine xj_get X x_IR.P inG_X7 0 (wX_at0 ad cA σ) rfl 5 (by decide) mk1_212 (.ref (ad 24)) rfl dX7_decide_22 ?_
      refine xj_get X x_IR.P inG_X4 24 (wX_at24 ad cA σ) rfl 0 (by decide) mk1_200 (.int (σ 24 0)) rfl dX7_decide_25 ?_
      refine xj_iconst (x := (3 : Int32)) X dX7_decide_28 rfl ?_
      refine xj_icmp_ge (tgt := 47) X dX7_decide_29 rfl hf (fun hf => ?_) (fun hf => ?_)
      · exact (B_47 p1 hf)
      · refine xj_aload_n X 0 dX7_decide_32 rfl rfl ?_
        refine xj_iconst (x := (1 : Int32)) X dX7_decide_33 rfl ?_
        refine xj_iload_n X 1 dX7_decide_34 rfl rfl ?_
        refine xj_roI (r := b2i (fX7_isHitBy σ ((1 : Int32)) p1)) (rest := []) (fun _ h => h) (x_runV X (ctX7_isHitBy l D cA ad σ ((1 : Int32)) p1 _ rfl) (x_cwV X kwX7_isHitBy mk3_1 rfl rfl ⟨Nat.le_of_ble_eq_true rfl, Nat.le_of_ble_eq_true rfl⟩) x_IR.P 0 (wX_at0 ad cA σ) rfl rfl rfl (Nat.le_of_ble_eq_true rfl) dX7_decide_35 ⟨Nat.zero_le _, Nat.zero_le _⟩) ?_
        refine xj_if_eq (tgt := 45) X dX7_decide_38 rfl hf (fun hf => ?_) (fun hf => ?_)
        · refine xj_iconst (x := (1 : Int32)) X dX7_decide_45 rfl ?_
          exact xj_iret_ro X hr hf dX7_decide_46
        · refine xj_iconst (x := (3 : Int32)) X dX7_decide_41 rfl ?_
          refine xj_goto (tgt := 46) X dX7_decide_42 rfl ?_
          exact xj_iret_ro X hr hf dX7_decide_46
  · refine xj_iconst (x := (0 : Int32)) X dX7_decide_9 rfl ?_
    exact xj_iret_ro X hr hf dX7_decide_10
set_option maxHeartbeats 4000000 in
set_option maxRecDepth 100000 in
theorem ctX6_book (l : Launch) (D : va_G) (cA : ClassId) {ad : Nat → Nat} (hj : x_inj 26 ad) (σ : x_M) (p1 : Int32) (p2 : Int32) (p3 : Int32) (σ0 : x_M) (hf : fX6_book σ p1 p2 p3 = some σ0) : Met l yX6_book zX6_book ({ frames := 1, cells := 0, slots := 0, locals := 22 } : Room) (x_P D cA [.ref (ad 21), .int p1, .int p2, .int p3] (wX ad cA σ)) (x_U D none (wX ad cA σ0) (x_A 26 ad)) 0 0 (x_A 26 ad) := by
  refine x_met (cc := cX6_book) (maxL := 4) (ret := none) RX6 rfl (by decide) rfl [(0, .ref (ad 21)), (1, .int p1), (2, .int p2), (3, .int p3)] rfl (Nat.le_of_ble_eq_true rfl) ?_
  intro p e s m args below meth c hr X
  refine xj_w (A := x_A 26 ad) ?_
  rw [fX6_book] at hf
  refine xj_aload_n X 0 dX6_book_0 rfl rfl ?_
  refine xj_get X x_IW.P inG_X6 21 (wX_at21 ad cA σ) rfl 0 (by decide) mk1_173 (.ref (ad 22)) rfl dX6_book_1 ?_
  refine xj_iload_n X 1 dX6_book_4 rfl rfl ?_
  refine xj_aload_n X 0 dX6_book_5 rfl rfl ?_
  refine xj_get X x_IW.P inG_X6 21 (wX_at21 ad cA σ) rfl 0 (by decide) mk1_173 (.ref (ad 22)) rfl dX6_book_6 ?_
  refine xj_iload_n X 1 dX6_book_9 rfl rfl ?_
  refine xj_roI (r := x_at 4 (σ 22) p1) (rest := [.int p1, .ref (ad 22)]) (fun _ h => h) (x_runSN X (c_at l D cA (wX_at22 ad cA σ) (by decide) p1) (x_cwN X kwX7_at x_nest_11 rfl rfl ⟨Nat.le_of_ble_eq_true rfl, Nat.le_of_ble_eq_true rfl⟩) x_IW.P rfl rfl (Nat.le_of_ble_eq_true rfl) dX6_book_10 ⟨Nat.zero_le _, Nat.zero_le _⟩) ?_
  refine xj_iload_n X 2 dX6_book_13 rfl rfl ?_
  refine xj_iadd X dX6_book_14 ?_
  refine xj_wrV (rest := []) (x_runSN X (c_put l D cA (wX_D hj cA _) (wX_at22 ad cA σ) (by decide) p1 ((x_at 4 (σ 22) p1) + p2) (wX_pu22 ad cA σ p1 ((x_at 4 (σ 22) p1) + p2))) (x_cwN X kwX7_put x_nest_18 rfl rfl ⟨Nat.le_of_ble_eq_true rfl, Nat.le_of_ble_eq_true rfl⟩) x_IW.P rfl rfl (Nat.le_of_ble_eq_true rfl) dX6_book_15 ⟨Nat.zero_le _, Nat.zero_le _⟩) (fun _ _ _ h _ => h) (fun _ h => h) ?_
  refine xj_aload_n X 0 dX6_book_18 rfl rfl ?_
  refine xj_get X x_IW.P inG_X6 21 (wX_at21 ad cA (pu σ 22 4 p1 ((x_at 4 (σ 22) p1) + p2))) rfl 1 (by decide) mk1_175 (.ref (ad 23)) rfl dX6_book_19 ?_
  refine xj_iload_n X 1 dX6_book_22 rfl rfl ?_
  refine xj_aload_n X 0 dX6_book_23 rfl rfl ?_
  refine xj_get X x_IW.P inG_X6 21 (wX_at21 ad cA (pu σ 22 4 p1 ((x_at 4 (σ 22) p1) + p2))) rfl 1 (by decide) mk1_175 (.ref (ad 23)) rfl dX6_book_24 ?_
  refine xj_iload_n X 1 dX6_book_27 rfl rfl ?_
  refine xj_roI (r := x_at 4 (σ 23) p1) (rest := [.int p1, .ref (ad 23)]) (fun _ h => h) (x_runSN X (c_at l D cA (wX_at23 ad cA (pu σ 22 4 p1 ((x_at 4 (σ 22) p1) + p2))) (by decide) p1) (x_cwN X kwX7_at x_nest_11 rfl rfl ⟨Nat.le_of_ble_eq_true rfl, Nat.le_of_ble_eq_true rfl⟩) x_IW.P rfl rfl (Nat.le_of_ble_eq_true rfl) dX6_book_28 ⟨Nat.zero_le _, Nat.zero_le _⟩) ?_
  refine xj_iload_n X 3 dX6_book_31 rfl rfl ?_
  refine xj_iadd X dX6_book_32 ?_
  refine xj_wrV (rest := []) (x_runSN X (c_put l D cA (wX_D hj cA _) (wX_at23 ad cA (pu σ 22 4 p1 ((x_at 4 (σ 22) p1) + p2))) (by decide) p1 ((x_at 4 (σ 23) p1) + p3) (wX_pu23 ad cA (pu σ 22 4 p1 ((x_at 4 (σ 22) p1) + p2)) p1 ((x_at 4 (σ 23) p1) + p3))) (x_cwN X kwX7_put x_nest_18 rfl rfl ⟨Nat.le_of_ble_eq_true rfl, Nat.le_of_ble_eq_true rfl⟩) x_IW.P rfl rfl (Nat.le_of_ble_eq_true rfl) dX6_book_33 ⟨Nat.zero_le _, Nat.zero_le _⟩) (fun _ _ _ h _ => h) (fun _ h => h) ?_
  exact xj_vret_wr X hr (congrArg (wX ad cA) (x_1 hf)) dX6_book_36
set_option maxHeartbeats 4000000 in
set_option maxRecDepth 100000 in
theorem ctX6_open (l : Launch) (D : va_G) (cA : ClassId) {ad : Nat → Nat} (hj : x_inj 26 ad) (σ : x_M) (p1 : Int32) (p2 : Int32) (p3 : Int32) (σ0 : x_M) (hf : fX6_open σ p1 p2 p3 = some σ0) : Met l yX6_open zX6_open ({ frames := 2, cells := 0, slots := 0, locals := 45 } : Room) (x_P D cA [.ref (ad 21), .int p1, .int p2, .int p3] (wX ad cA σ)) (x_U D none (wX ad cA σ0) (x_A 26 ad)) 0 0 (x_A 26 ad) := by
  refine x_met (cc := cX6_open) (maxL := 4) (ret := none) RX6 rfl (by decide) rfl [(0, .ref (ad 21)), (1, .int p1), (2, .int p2), (3, .int p3)] rfl (Nat.le_of_ble_eq_true rfl) ?_
  intro p e s m args below meth c hr X
  refine xj_w (A := x_A 26 ad) ?_
  rw [fX6_open] at hf
  refine xj_aload_n X 0 dX6_open_0 rfl rfl ?_
  refine xj_dup X dX6_open_1 rfl ?_
  refine xj_get X x_IW.P inG_X6 21 (wX_at21 ad cA σ) rfl 2 (by decide) mk1_177 (.int (σ 21 2)) rfl dX6_open_2 ?_
  refine xj_iconst (x := (1 : Int32)) X dX6_open_5 rfl ?_
  refine xj_iadd X dX6_open_6 ?_
  refine xj_put X (wX_D hj cA _) inG_X6 tyX6_ok nmX6 21 (wX_at21 ad cA σ) rfl 2 (by decide) mk1_177 rfl .int rfl rfl rfl (Nat.le_of_ble_eq_true rfl) (wX_st21_2 ad cA σ ((σ 21 2) + ((1 : Int32)))) dX6_open_7 ?_
  refine xj_aload_n X 0 dX6_open_10 rfl rfl ?_
  refine xj_iload_n X 1 dX6_open_11 rfl rfl ?_
  refine xj_put X (wX_D hj cA _) inG_X6 tyX6_ok nmX6 21 (wX_at21 ad cA (up2 σ 21 2 ((σ 21 2) + ((1 : Int32))))) rfl 4 (by decide) mk1_181 rfl .int rfl rfl rfl (Nat.le_of_ble_eq_true rfl) (wX_st21_4 ad cA (up2 σ 21 2 ((σ 21 2) + ((1 : Int32)))) p1) dX6_open_12 ?_
  refine xj_aload_n X 0 dX6_open_15 rfl rfl ?_
  refine xj_iload_n X 2 dX6_open_16 rfl rfl ?_
  refine xj_put X (wX_D hj cA _) inG_X6 tyX6_ok nmX6 21 (wX_at21 ad cA (up2 (up2 σ 21 2 ((σ 21 2) + ((1 : Int32)))) 21 4 p1)) rfl 3 (by decide) mk1_179 rfl .int rfl rfl rfl (Nat.le_of_ble_eq_true rfl) (wX_st21_3 ad cA (up2 (up2 σ 21 2 ((σ 21 2) + ((1 : Int32)))) 21 4 p1) p2) dX6_open_17 ?_
  refine xj_aload_n X 0 dX6_open_20 rfl rfl ?_
  refine xj_iload_n X 3 dX6_open_21 rfl rfl ?_
  refine xj_iconst (x := (1 : Int32)) X dX6_open_22 rfl ?_
  refine xj_iload_n X 1 dX6_open_23 rfl rfl ?_
  obtain ⟨x1_24, hx1_24, hf⟩ := x_bind hf
  refine xj_wrV (rest := []) (x_runV X (ctX6_book l D cA hj (up2 (up2 (up2 σ 21 2 ((σ 21 2) + ((1 : Int32)))) 21 4 p1) 21 3 p2) p3 ((1 : Int32)) p1 x1_24 hx1_24) (x_cwV X kwX6_book mk3_13 rfl rfl ⟨Nat.le_of_ble_eq_true rfl, Nat.le_of_ble_eq_true rfl⟩) x_IW.P 21 (wX_at21 ad cA (up2 (up2 (up2 σ 21 2 ((σ 21 2) + ((1 : Int32)))) 21 4 p1) 21 3 p2)) rfl rfl rfl (Nat.le_of_ble_eq_true rfl) dX6_open_24 ⟨Nat.zero_le _, Nat.zero_le _⟩) (fun _ _ _ h _ => h) (fun _ h => h) ?_
  exact xj_vret_wr X hr (congrArg (wX ad cA) (x_1 hf)) dX6_open_27
set_option maxHeartbeats 4000000 in
set_option maxRecDepth 100000 in
theorem ctX1_countOffline (l : Launch) (D : va_G) (cA : ClassId) {ad : Nat → Nat} (hj : x_inj 26 ad) (σ : x_M) (σ0 : x_M) (hf : fX1_countOffline σ = some σ0) : Met l yX1_countOffline zX1_countOffline ({ frames := 0, cells := 0, slots := 0, locals := 0 } : Room) (x_P D cA [.ref (ad 9)] (wX ad cA σ)) (x_U D none (wX ad cA σ0) (x_A 26 ad)) 0 0 (x_A 26 ad) := by
  refine x_met (cc := cX1_countOffline) (maxL := 1) (ret := none) RX1 rfl (by decide) rfl [(0, .ref (ad 9))] rfl (Nat.le_of_ble_eq_true rfl) ?_
  intro p e s m args below meth c hr X
  refine xj_w (A := x_A 26 ad) ?_
  rw [fX1_countOffline] at hf
  refine xj_aload_n X 0 dX1_countOffline_0 rfl rfl ?_
  refine xj_get X x_IW.P inG_X1 9 (wX_at9 ad cA σ) rfl 3 (by decide) mk1_109 (.int (σ 9 3)) rfl dX1_countOffline_1 ?_
  refine xj_bipush (x := (15 : Int32)) X dX1_countOffline_4 rfl ?_
  refine xj_icmp_ge (tgt := 19) X dX1_countOffline_6 rfl hf (fun hf => ?_) (fun hf => ?_)
  · exact xj_vret_wr X hr (congrArg (wX ad cA) (x_1 hf)) dX1_countOffline_19
  · refine xj_aload_n X 0 dX1_countOffline_9 rfl rfl ?_
    refine xj_dup X dX1_countOffline_10 rfl ?_
    refine xj_get X x_IW.P inG_X1 9 (wX_at9 ad cA σ) rfl 3 (by decide) mk1_109 (.int (σ 9 3)) rfl dX1_countOffline_11 ?_
    refine xj_iconst (x := (1 : Int32)) X dX1_countOffline_14 rfl ?_
    refine xj_iadd X dX1_countOffline_15 ?_
    refine xj_put X (wX_D hj cA _) inG_X1 tyX1_ok nmX1 9 (wX_at9 ad cA σ) rfl 3 (by decide) mk1_109 rfl .int rfl rfl rfl (Nat.le_of_ble_eq_true rfl) (wX_st9_3 ad cA σ ((σ 9 3) + ((1 : Int32)))) dX1_countOffline_16 ?_
    exact xj_vret_wr X hr (congrArg (wX ad cA) (x_1 hf)) dX1_countOffline_19
set_option maxHeartbeats 4000000 in
set_option maxRecDepth 100000 in
theorem ctX7_countIfOffline (l : Launch) (D : va_G) (cA : ClassId) {ad : Nat → Nat} (hj : x_inj 26 ad) (σ : x_M) (p1 : Int32) (σ0 : x_M) (hf : fX7_countIfOffline σ p1 = some σ0) : Met l yX7_countIfOffline zX7_countIfOffline ({ frames := 1, cells := 0, slots := 0, locals := 20 } : Room) (x_P D cA [.ref (ad 0), .int p1] (wX ad cA σ)) (x_U D none (wX ad cA σ0) (x_A 26 ad)) 0 0 (x_A 26 ad) := by
  refine x_met (cc := cX7_countIfOffline) (maxL := 2) (ret := none) RX7 rfl (by decide) rfl [(0, .ref (ad 0)), (1, .int p1)] rfl (Nat.le_of_ble_eq_true rfl) ?_
  intro p e s m args below meth c hr X
  refine xj_w (A := x_A 26 ad) ?_
  rw [fX7_countIfOffline] at hf
  refine xj_iload_n X 1 dX7_countIfOffline_0 rfl rfl ?_
  refine xj_iconst (x := (1 : Int32)) X dX7_countIfOffline_1 rfl ?_
  refine xj_icmp_ne (tgt := 12) X dX7_countIfOffline_2 rfl hf (fun hf => ?_) (fun hf => ?_)
  · exact xj_vret_wr X hr (congrArg (wX ad cA) (x_1 hf)) dX7_countIfOffline_12
  · refine xj_aload_n X 0 dX7_countIfOffline_5 rfl rfl ?_
    refine xj_get X x_IW.P inG_X7 0 (wX_at0 ad cA σ) rfl 2 (by decide) mk1_209 (.ref (ad 9)) rfl dX7_countIfOffline_6 ?_
    obtain ⟨x1_9, hx1_9, hf⟩ := x_bind hf
    refine xj_wrV (rest := []) (x_runV X (ctX1_countOffline l D cA hj σ x1_9 hx1_9) (x_cwV X kwX1_countOffline mk3_22 rfl rfl ⟨Nat.le_of_ble_eq_true rfl, Nat.le_of_ble_eq_true rfl⟩) x_IW.P 9 (wX_at9 ad cA σ) rfl rfl rfl (Nat.le_of_ble_eq_true rfl) dX7_countIfOffline_9 ⟨Nat.zero_le _, Nat.zero_le _⟩) (fun _ _ _ h _ => h) (fun _ h => h) ?_
    exact xj_vret_wr X hr (congrArg (wX ad cA) (x_1 hf)) dX7_countIfOffline_12
set_option maxHeartbeats 4000000 in
set_option maxRecDepth 100000 in
theorem ctX7_start (l : Launch) (D : va_G) (cA : ClassId) {ad : Nat → Nat} (hj : x_inj 26 ad) (σ : x_M) (p1 : Int32) (p2 : Int32) (r0 : Int32) (σ0 : x_M) (hf : fX7_start σ p1 p2 = some (r0, σ0)) : Met l yX7_start zX7_start ({ frames := 4, cells := 0, slots := 0, locals := 86 } : Room) (x_P D cA [.ref (ad 0), .int p1, .int p2] (wX ad cA σ)) (x_U D (some (.int r0)) (wX ad cA σ0) (x_A 26 ad)) 0 0 (x_A 26 ad) := by
  refine x_met (cc := cX7_start) (maxL := 5) (ret := (some .int)) RX7 rfl (by decide) rfl [(0, .ref (ad 0)), (1, .int p1), (2, .int p2)] rfl (Nat.le_of_ble_eq_true rfl) ?_
  intro p e s m args below meth c hr X
  refine xj_w (A := x_A 26 ad) ?_
  rw [fX7_start] at hf
  refine xj_iload_n X 1 dX7_start_0 rfl rfl ?_
  refine xj_iconst (x := (1 : Int32)) X dX7_start_1 rfl ?_
  refine xj_icmp_lt (tgt := 21) X dX7_start_2 rfl hf (fun hf => ?_) (fun hf => ?_)
  · refine xj_iconst (x := (-1 : Int32)) X dX7_start_21 rfl ?_
    exact xj_iret_wr X hr (x_2a hf) (congrArg (wX ad cA) (x_2b hf)) dX7_start_22
  · refine xj_iload_n X 1 dX7_start_5 rfl rfl ?_
    refine xj_ldc X mk2_171 dX7_start_6 ?_
    refine xj_icmp_gt (tgt := 21) X dX7_start_8 rfl hf (fun hf => ?_) (fun hf => ?_)
    · refine xj_iconst (x := (-1 : Int32)) X dX7_start_21 rfl ?_
      exact xj_iret_wr X hr (x_2a hf) (congrArg (wX ad cA) (x_2b hf)) dX7_start_22
    · refine xj_iload_n X 2 dX7_start_11 rfl rfl ?_
      refine xj_if_lt (tgt := 21) X dX7_start_12 rfl hf (fun hf => ?_) (fun hf => ?_)
      · refine xj_iconst (x := (-1 : Int32)) X dX7_start_21 rfl ?_
        exact xj_iret_wr X hr (x_2a hf) (congrArg (wX ad cA) (x_2b hf)) dX7_start_22
      · refine xj_iload_n X 2 dX7_start_15 rfl rfl ?_
        refine xj_bipush (x := (99 : Int32)) X dX7_start_16 rfl ?_
        refine xj_icmp_le (tgt := 23) X dX7_start_18 rfl hf (fun hf => ?_) (fun hf => ?_)
        · refine xj_aload_n X 0 dX7_start_23 rfl rfl ?_
          refine xj_get X x_IW.P inG_X7 0 (wX_at0 ad cA σ) rfl 2 (by decide) mk1_209 (.ref (ad 9)) rfl dX7_start_24 ?_
          refine xj_get X x_IW.P inG_X1 9 (wX_at9 ad cA σ) rfl 2 (by decide) mk1_108 (.int (σ 9 2)) rfl dX7_start_27 ?_
          refine xj_iconst (x := (-1 : Int32)) X dX7_start_30 rfl ?_
          refine xj_icmp_eq (tgt := 44) X dX7_start_31 rfl hf (fun hf => ?_) (fun hf => ?_)
          · refine xj_bipush (x := (-2 : Int32)) X dX7_start_44 rfl ?_
            exact xj_iret_wr X hr (x_2a hf) (congrArg (wX ad cA) (x_2b hf)) dX7_start_46
          · refine xj_aload_n X 0 dX7_start_34 rfl rfl ?_
            refine xj_get X x_IW.P inG_X7 0 (wX_at0 ad cA σ) rfl 4 (by decide) mk1_211 (.ref (ad 21)) rfl dX7_start_35 ?_
            refine xj_roI (r := b2i (fX6_isPending σ)) (rest := []) (fun _ h => h) (x_runV X (ctX6_isPending l D cA ad σ _ rfl) (x_cwV X kwX6_isPending mk2_70 rfl rfl ⟨Nat.le_of_ble_eq_true rfl, Nat.le_of_ble_eq_true rfl⟩) x_IW.P 21 (wX_at21 ad cA σ) rfl rfl rfl (Nat.le_of_ble_eq_true rfl) dX7_start_38 ⟨Nat.zero_le _, Nat.zero_le _⟩) ?_
            refine xj_if_eq (tgt := 47) X dX7_start_41 rfl hf (fun hf => ?_) (fun hf => ?_)
            · refine xj_aload_n X 0 dX7_start_47 rfl rfl ?_
              refine xj_get X x_IW.P inG_X7 0 (wX_at0 ad cA σ) rfl 4 (by decide) mk1_211 (.ref (ad 21)) rfl dX7_start_48 ?_
              refine xj_get X x_IW.P inG_X6 21 (wX_at21 ad cA σ) rfl 2 (by decide) mk1_178 (.int (σ 21 2)) rfl dX7_start_51 ?_
              refine xj_sipush (x := (999 : Int32)) X dX7_start_54 rfl ?_
              refine xj_icmp_lt (tgt := 63) X dX7_start_57 rfl hf (fun hf => ?_) (fun hf => ?_)
              · refine xj_aload_n X 0 dX7_start_63 rfl rfl ?_
                refine xj_iload_n X 1 dX7_start_64 rfl rfl ?_
                refine xj_iload_n X 2 dX7_start_65 rfl rfl ?_
                refine xj_roI (r := fX7_verify σ p1 p2) (rest := []) (fun _ h => h) (x_runV X (ctX7_verify l D cA ad σ p1 p2 _ rfl) (x_cwV X kwX7_verify mk2_233 rfl rfl ⟨Nat.le_of_ble_eq_true rfl, Nat.le_of_ble_eq_true rfl⟩) x_IW.P 0 (wX_at0 ad cA σ) rfl rfl rfl (Nat.le_of_ble_eq_true rfl) dX7_start_66 ⟨Nat.zero_le _, Nat.zero_le _⟩) ?_
                refine xj_istore_n (lv' := [(3, .int (fX7_verify σ p1 p2)), (0, .ref (ad 0)), (1, .int p1), (2, .int p2)]) X dX7_start_69 rfl (Nat.le_of_ble_eq_true rfl) rfl ?_
                refine xj_sub [1, 2, 3, 0] rfl ?_
                refine xj_aload_n X 0 dX7_start_70 rfl rfl ?_
                refine xj_iload_n X 3 dX7_start_71 rfl rfl ?_
                refine xj_roI (r := fX7_decide σ (fX7_verify σ p1 p2)) (rest := []) (fun _ h => h) (x_runV X (ctX7_decide l D cA ad σ (fX7_verify σ p1 p2) _ rfl) (x_cwV X kwX7_decide mk2_237 rfl rfl ⟨Nat.le_of_ble_eq_true rfl, Nat.le_of_ble_eq_true rfl⟩) x_IW.P 0 (wX_at0 ad cA σ) rfl rfl rfl (Nat.le_of_ble_eq_true rfl) dX7_start_72 ⟨Nat.zero_le _, Nat.zero_le _⟩) ?_
                refine xj_istore (lv' := [(4, .int (fX7_decide σ (fX7_verify σ p1 p2))), (0, .ref (ad 0)), (1, .int p1), (2, .int p2), (3, .int (fX7_verify σ p1 p2))]) X dX7_start_75 (Nat.le_of_ble_eq_true rfl) rfl ?_
                refine xj_sub [1, 2, 3, 4, 0] rfl ?_
                refine xj_aload_n X 0 dX7_start_77 rfl rfl ?_
                refine xj_get X x_IW.P inG_X7 0 (wX_at0 ad cA σ) rfl 4 (by decide) mk1_211 (.ref (ad 21)) rfl dX7_start_78 ?_
                refine xj_iload_n X 1 dX7_start_81 rfl rfl ?_
                refine xj_iload_n X 3 dX7_start_82 rfl rfl ?_
                refine xj_iload X 4 dX7_start_83 rfl ?_
                obtain ⟨x1_85, hx1_85, hf⟩ := x_bind hf
                refine xj_wrV (rest := []) (x_runV X (ctX6_open l D cA hj σ p1 (fX7_verify σ p1 p2) (fX7_decide σ (fX7_verify σ p1 p2)) x1_85 hx1_85) (x_cwV X kwX6_open mk3_9 rfl rfl ⟨Nat.le_of_ble_eq_true rfl, Nat.le_of_ble_eq_true rfl⟩) x_IW.P 21 (wX_at21 ad cA σ) rfl rfl rfl (Nat.le_of_ble_eq_true rfl) dX7_start_85 ⟨Nat.zero_le _, Nat.zero_le _⟩) (fun _ _ _ h _ => h) (fun _ h => h) ?_
                refine xj_aload_n X 0 dX7_start_88 rfl rfl ?_
                refine xj_iload X 4 dX7_start_89 rfl ?_
                obtain ⟨x2_91, hx2_91, hf⟩ := x_bind hf
                refine xj_wrV (rest := []) (x_runV X (ctX7_countIfOffline l D cA hj x1_85 (fX7_decide σ (fX7_verify σ p1 p2)) x2_91 hx2_91) (x_cwV X kwX7_countIfOffline mk3_18 rfl rfl ⟨Nat.le_of_ble_eq_true rfl, Nat.le_of_ble_eq_true rfl⟩) x_IW.P 0 (wX_at0 ad cA x1_85) rfl rfl rfl (Nat.le_of_ble_eq_true rfl) dX7_start_91 ⟨Nat.zero_le _, Nat.zero_le _⟩) (fun _ _ _ h _ => h) (fun _ h => h) ?_
                refine xj_iload X 4 dX7_start_94 rfl ?_
                exact xj_iret_wr X hr (x_2a hf) (congrArg (wX ad cA) (x_2b hf)) dX7_start_96
              · refine xj_bipush (x := (-3 : Int32)) X dX7_start_60 rfl ?_
                exact xj_iret_wr X hr (x_2a hf) (congrArg (wX ad cA) (x_2b hf)) dX7_start_62
            · refine xj_bipush (x := (-2 : Int32)) X dX7_start_44 rfl ?_
              exact xj_iret_wr X hr (x_2a hf) (congrArg (wX ad cA) (x_2b hf)) dX7_start_46
        · refine xj_iconst (x := (-1 : Int32)) X dX7_start_21 rfl ?_
          exact xj_iret_wr X hr (x_2a hf) (congrArg (wX ad cA) (x_2b hf)) dX7_start_22
set_option maxHeartbeats 4000000 in
set_option maxRecDepth 100000 in
theorem ctX1_passOnline (l : Launch) (D : va_G) (cA : ClassId) {ad : Nat → Nat} (hj : x_inj 26 ad) (σ : x_M) (σ0 : x_M) (hf : fX1_passOnline σ = some σ0) : Met l yX1_passOnline zX1_passOnline ({ frames := 0, cells := 0, slots := 0, locals := 0 } : Room) (x_P D cA [.ref (ad 9)] (wX ad cA σ)) (x_U D none (wX ad cA σ0) (x_A 26 ad)) 0 0 (x_A 26 ad) := by
  refine x_met (cc := cX1_passOnline) (maxL := 1) (ret := none) RX1 rfl (by decide) rfl [(0, .ref (ad 9))] rfl (Nat.le_of_ble_eq_true rfl) ?_
  intro p e s m args below meth c hr X
  refine xj_w (A := x_A 26 ad) ?_
  rw [fX1_passOnline] at hf
  refine xj_aload_n X 0 dX1_passOnline_0 rfl rfl ?_
  refine xj_iconst (x := (0 : Int32)) X dX1_passOnline_1 rfl ?_
  refine xj_put X (wX_D hj cA _) inG_X1 tyX1_ok nmX1 9 (wX_at9 ad cA σ) rfl 3 (by decide) mk1_109 rfl .int rfl rfl rfl (Nat.le_of_ble_eq_true rfl) (wX_st9_3 ad cA σ ((0 : Int32))) dX1_passOnline_2 ?_
  refine xj_aload_n X 0 dX1_passOnline_5 rfl rfl ?_
  refine xj_iconst (x := (0 : Int32)) X dX1_passOnline_6 rfl ?_
  refine xj_put X (wX_D hj cA _) inG_X1 tyX1_ok nmX1 9 (wX_at9 ad cA (up2 σ 9 3 ((0 : Int32)))) rfl 4 (by decide) mk1_111 rfl .boolean rfl rfl rfl (Nat.le_of_ble_eq_true rfl) (wX_st9_4 ad cA (up2 σ 9 3 ((0 : Int32))) ((0 : Int32))) dX1_passOnline_7 ?_
  exact xj_vret_wr X hr (congrArg (wX ad cA) (x_1 hf)) dX1_passOnline_10
set_option maxHeartbeats 4000000 in
set_option maxRecDepth 100000 in
theorem ctX6_settle (l : Launch) (D : va_G) (cA : ClassId) {ad : Nat → Nat} (hj : x_inj 26 ad) (σ : x_M) (p1 : Int32) (σ0 : x_M) (hf : fX6_settle σ p1 = some σ0) : Met l yX6_settle zX6_settle ({ frames := 2, cells := 0, slots := 0, locals := 45 } : Room) (x_P D cA [.ref (ad 21), .int p1] (wX ad cA σ)) (x_U D none (wX ad cA σ0) (x_A 26 ad)) 0 0 (x_A 26 ad) := by
  refine x_met (cc := cX6_settle) (maxL := 2) (ret := none) RX6 rfl (by decide) rfl [(0, .ref (ad 21)), (1, .int p1)] rfl (Nat.le_of_ble_eq_true rfl) ?_
  intro p e s m args below meth c hr X
  refine xj_w (A := x_A 26 ad) ?_
  rw [fX6_settle] at hf
  refine xj_aload_n X 0 dX6_settle_0 rfl rfl ?_
  refine xj_iconst (x := (3 : Int32)) X dX6_settle_1 rfl ?_
  refine xj_iconst (x := (-1 : Int32)) X dX6_settle_2 rfl ?_
  refine xj_aload_n X 0 dX6_settle_3 rfl rfl ?_
  refine xj_get X x_IW.P inG_X6 21 (wX_at21 ad cA σ) rfl 4 (by decide) mk1_181 (.int (σ 21 4)) rfl dX6_settle_4 ?_
  refine xj_ineg X dX6_settle_7 ?_
  obtain ⟨x1_8, hx1_8, hf⟩ := x_bind hf
  refine xj_wrV (rest := []) (x_runV X (ctX6_book l D cA hj σ ((3 : Int32)) ((-1 : Int32)) (-(σ 21 4)) x1_8 hx1_8) (x_cwV X kwX6_book mk3_13 rfl rfl ⟨Nat.le_of_ble_eq_true rfl, Nat.le_of_ble_eq_true rfl⟩) x_IW.P 21 (wX_at21 ad cA σ) rfl rfl rfl (Nat.le_of_ble_eq_true rfl) dX6_settle_8 ⟨Nat.zero_le _, Nat.zero_le _⟩) (fun _ _ _ h _ => h) (fun _ h => h) ?_
  refine xj_aload_n X 0 dX6_settle_11 rfl rfl ?_
  refine xj_iload_n X 1 dX6_settle_12 rfl rfl ?_
  refine xj_iconst (x := (1 : Int32)) X dX6_settle_13 rfl ?_
  refine xj_aload_n X 0 dX6_settle_14 rfl rfl ?_
  refine xj_get X x_IW.P inG_X6 21 (wX_at21 ad cA x1_8) rfl 4 (by decide) mk1_181 (.int (x1_8 21 4)) rfl dX6_settle_15 ?_
  obtain ⟨x2_18, hx2_18, hf⟩ := x_bind hf
  refine xj_wrV (rest := []) (x_runV X (ctX6_book l D cA hj x1_8 p1 ((1 : Int32)) (x1_8 21 4) x2_18 hx2_18) (x_cwV X kwX6_book mk3_13 rfl rfl ⟨Nat.le_of_ble_eq_true rfl, Nat.le_of_ble_eq_true rfl⟩) x_IW.P 21 (wX_at21 ad cA x1_8) rfl rfl rfl (Nat.le_of_ble_eq_true rfl) dX6_settle_18 ⟨Nat.zero_le _, Nat.zero_le _⟩) (fun _ _ _ h _ => h) (fun _ h => h) ?_
  exact xj_vret_wr X hr (congrArg (wX ad cA) (x_1 hf)) dX6_settle_21
set_option maxHeartbeats 4000000 in
set_option maxRecDepth 100000 in
theorem ctX4_add (l : Launch) (D : va_G) (cA : ClassId) {ad : Nat → Nat} (hj : x_inj 26 ad) (σ : x_M) (p1 : Int32) (σ0 : x_M) (hf : fX4_add σ p1 = some σ0) : Met l yX4_add zX4_add ({ frames := 1, cells := 0, slots := 0, locals := 22 } : Room) (x_P D cA [.ref (ad 24), .int p1] (wX ad cA σ)) (x_U D none (wX ad cA σ0) (x_A 26 ad)) 0 0 (x_A 26 ad) := by
  refine x_met (cc := cX4_add) (maxL := 2) (ret := none) RX4 rfl (by decide) rfl [(0, .ref (ad 24)), (1, .int p1)] rfl (Nat.le_of_ble_eq_true rfl) ?_
  intro p e s m args below meth c hr X
  refine xj_w (A := x_A 26 ad) ?_
  rw [fX4_add] at hf
  refine xj_aload_n X 0 dX4_add_0 rfl rfl ?_
  refine xj_get X x_IW.P inG_X4 24 (wX_at24 ad cA σ) rfl 0 (by decide) mk1_199 (.int (σ 24 0)) rfl dX4_add_1 ?_
  refine xj_iconst (x := (3 : Int32)) X dX4_add_4 rfl ?_
  refine xj_icmp_ge (tgt := 30) X dX4_add_5 rfl hf (fun hf => ?_) (fun hf => ?_)
  · exact xj_vret_wr X hr (congrArg (wX ad cA) (x_1 hf)) dX4_add_30
  · refine xj_aload_n X 0 dX4_add_8 rfl rfl ?_
    refine xj_get X x_IW.P inG_X4 24 (wX_at24 ad cA σ) rfl 1 (by decide) mk1_201 (.ref (ad 25)) rfl dX4_add_9 ?_
    refine xj_aload_n X 0 dX4_add_12 rfl rfl ?_
    refine xj_get X x_IW.P inG_X4 24 (wX_at24 ad cA σ) rfl 0 (by decide) mk1_199 (.int (σ 24 0)) rfl dX4_add_13 ?_
    refine xj_iload_n X 1 dX4_add_16 rfl rfl ?_
    refine xj_wrV (rest := []) (x_runSN X (c_put l D cA (wX_D hj cA _) (wX_at25 ad cA σ) (by decide) (σ 24 0) p1 (wX_pu25 ad cA σ (σ 24 0) p1)) (x_cwN X kwX7_put x_nest_19 rfl rfl ⟨Nat.le_of_ble_eq_true rfl, Nat.le_of_ble_eq_true rfl⟩) x_IW.P rfl rfl (Nat.le_of_ble_eq_true rfl) dX4_add_17 ⟨Nat.zero_le _, Nat.zero_le _⟩) (fun _ _ _ h _ => h) (fun _ h => h) ?_
    refine xj_aload_n X 0 dX4_add_20 rfl rfl ?_
    refine xj_dup X dX4_add_21 rfl ?_
    refine xj_get X x_IW.P inG_X4 24 (wX_at24 ad cA (pu σ 25 3 (σ 24 0) p1)) rfl 0 (by decide) mk1_199 (.int (σ 24 0)) rfl dX4_add_22 ?_
    refine xj_iconst (x := (1 : Int32)) X dX4_add_25 rfl ?_
    refine xj_iadd X dX4_add_26 ?_
    refine xj_put X (wX_D hj cA _) inG_X4 tyX4_ok nmX4 24 (wX_at24 ad cA (pu σ 25 3 (σ 24 0) p1)) rfl 0 (by decide) mk1_199 rfl .int rfl rfl rfl (Nat.le_of_ble_eq_true rfl) (wX_st24_0 ad cA (pu σ 25 3 (σ 24 0) p1) ((σ 24 0) + ((1 : Int32)))) dX4_add_27 ?_
    exact xj_vret_wr X hr (congrArg (wX ad cA) (x_1 hf)) dX4_add_30
set_option maxHeartbeats 4000000 in
set_option maxRecDepth 100000 in
theorem ctX7_answer (l : Launch) (D : va_G) (cA : ClassId) {ad : Nat → Nat} (hj : x_inj 26 ad) (σ : x_M) (p1 : Int32) (r0 : Int32) (σ0 : x_M) (hf : fX7_answer σ p1 = some (r0, σ0)) : Met l yX7_answer zX7_answer ({ frames := 3, cells := 0, slots := 0, locals := 66 } : Room) (x_P D cA [.ref (ad 0), .int p1] (wX ad cA σ)) (x_U D (some (.int r0)) (wX ad cA σ0) (x_A 26 ad)) 0 0 (x_A 26 ad) := by
  refine x_met (cc := cX7_answer) (maxL := 3) (ret := (some .int)) RX7 rfl (by decide) rfl [(0, .ref (ad 0)), (1, .int p1)] rfl (Nat.le_of_ble_eq_true rfl) ?_
  intro p e s m args below meth c hr X
  have B_90 : ∀ (σ : x_M) (v2 : Int32), fX7_answer_90 σ v2 = some (r0, σ0) → x_J 3 p l e ({ frames := 3, cells := 0, slots := 0, locals := 66 } : Room) s m args below meth c 0 0 (x_IW D s (x_A 26 ad) (wX ad cA σ)) (MQ below (x_U D (some (.int r0)) (wX ad cA σ0) (x_A 26 ad)) args s 0 0 (x_A 26 ad)) 90 [(0, .ref (ad 0)), (2, .int v2)] [] := by
    intro  σ v2 hf
    rw [fX7_answer_90] at hf
    refine xj_aload_n X 0 dX7_answer_90 rfl rfl ?_
    refine xj_get X x_IW.P inG_X7 0 (wX_at0 ad cA σ) rfl 4 (by decide) mk1_211 (.ref (ad 21)) rfl dX7_answer_91 ?_
    refine xj_iload_n X 1 dX7_answer_94 rfl rfl ?_
    obtain ⟨x1_95, hx1_95, hf⟩ := x_bind hf
    refine xj_wrV (rest := []) (x_runV X (ctX6_settle l D cA hj σ v2 x1_95 hx1_95) (x_cwV X kwX6_settle mk3_39 rfl rfl ⟨Nat.le_of_ble_eq_true rfl, Nat.le_of_ble_eq_true rfl⟩) x_IW.P 21 (wX_at21 ad cA σ) rfl rfl rfl (Nat.le_of_ble_eq_true rfl) dX7_answer_95 ⟨Nat.zero_le _, Nat.zero_le _⟩) (fun _ _ _ h _ => h) (fun _ h => h) ?_
    refine xj_aload_n X 0 dX7_answer_98 rfl rfl ?_
    refine xj_iload_n X 1 dX7_answer_99 rfl rfl ?_
    obtain ⟨x2_100, hx2_100, hf⟩ := x_bind hf
    refine xj_wrV (rest := []) (x_runV X (ctX7_countIfOffline l D cA hj x1_95 v2 x2_100 hx2_100) (x_cwV X kwX7_countIfOffline mk3_18 rfl rfl ⟨Nat.le_of_ble_eq_true rfl, Nat.le_of_ble_eq_true rfl⟩) x_IW.P 0 (wX_at0 ad cA x1_95) rfl rfl rfl (Nat.le_of_ble_eq_true rfl) dX7_answer_100 ⟨Nat.zero_le _, Nat.zero_le _⟩) (fun _ _ _ h _ => h) (fun _ h => h) ?_
    refine xj_iload_n X 1 dX7_answer_103 rfl rfl ?_
    exact xj_iret_wr X hr (x_2a hf) (congrArg (wX ad cA) (x_2b hf)) dX7_answer_104
  refine xj_w (A := x_A 26 ad) ?_
  rw [fX7_answer] at hf
  refine xj_iload_n X 1 dX7_answer_0 rfl rfl ?_
  refine xj_if_lt (tgt := 9) X dX7_answer_1 rfl hf (fun hf => ?_) (fun hf => ?_)
  · refine xj_iconst (x := (-1 : Int32)) X dX7_answer_9 rfl ?_
    exact xj_iret_wr X hr (x_2a hf) (congrArg (wX ad cA) (x_2b hf)) dX7_answer_10
  · refine xj_iload_n X 1 dX7_answer_4 rfl rfl ?_
    refine xj_iconst (x := (2 : Int32)) X dX7_answer_5 rfl ?_
    refine xj_icmp_le (tgt := 11) X dX7_answer_6 rfl hf (fun hf => ?_) (fun hf => ?_)
    · refine xj_aload_n X 0 dX7_answer_11 rfl rfl ?_
      refine xj_get X x_IW.P inG_X7 0 (wX_at0 ad cA σ) rfl 4 (by decide) mk1_211 (.ref (ad 21)) rfl dX7_answer_12 ?_
      refine xj_roI (r := b2i (fX6_isPending σ)) (rest := []) (fun _ h => h) (x_runV X (ctX6_isPending l D cA ad σ _ rfl) (x_cwV X kwX6_isPending mk2_70 rfl rfl ⟨Nat.le_of_ble_eq_true rfl, Nat.le_of_ble_eq_true rfl⟩) x_IW.P 21 (wX_at21 ad cA σ) rfl rfl rfl (Nat.le_of_ble_eq_true rfl) dX7_answer_15 ⟨Nat.zero_le _, Nat.zero_le _⟩) ?_
      refine xj_if_ne (tgt := 24) X dX7_answer_18 rfl hf (fun hf => ?_) (fun hf => ?_)
      · refine xj_iconst (x := (0 : Int32)) X dX7_answer_24 rfl ?_
        refine xj_istore_n (lv' := [(2, .int ((0 : Int32))), (0, .ref (ad 0)), (1, .int p1)]) X dX7_answer_25 rfl (Nat.le_of_ble_eq_true rfl) rfl ?_
        refine xj_sub [1, 2, 0] rfl ?_
        refine xj_iload_n X 1 dX7_answer_26 rfl rfl ?_
        refine xj_iconst (x := (1 : Int32)) X dX7_answer_27 rfl ?_
        refine xj_icmp_ne (tgt := 43) X dX7_answer_28 rfl hf (fun hf => ?_) (fun hf => ?_)
        · refine xj_iload_n X 1 dX7_answer_43 rfl rfl ?_
          refine xj_iconst (x := (2 : Int32)) X dX7_answer_44 rfl ?_
          refine xj_icmp_ne (tgt := 90) X dX7_answer_45 rfl hf (fun hf => ?_) (fun hf => ?_)
          · exact xj_sub [0, 2] rfl (B_90 σ ((0 : Int32)) hf)
          · refine xj_aload_n X 0 dX7_answer_48 rfl rfl ?_
            refine xj_get X x_IW.P inG_X7 0 (wX_at0 ad cA σ) rfl 4 (by decide) mk1_211 (.ref (ad 21)) rfl dX7_answer_49 ?_
            refine xj_dup X dX7_answer_52 rfl ?_
            refine xj_get X x_IW.P inG_X6 21 (wX_at21 ad cA σ) rfl 3 (by decide) mk1_180 (.int (σ 21 3)) rfl dX7_answer_53 ?_
            refine xj_bipush (x := (64 : Int32)) X dX7_answer_56 rfl ?_
            refine xj_ior X dX7_answer_58 ?_
            refine xj_put X (wX_D hj cA _) inG_X6 tyX6_ok nmX6 21 (wX_at21 ad cA σ) rfl 3 (by decide) mk1_180 rfl .int rfl rfl rfl (Nat.le_of_ble_eq_true rfl) (wX_st21_3 ad cA σ ((σ 21 3) ||| ((64 : Int32)))) dX7_answer_59 ?_
            refine xj_aload_n X 0 dX7_answer_62 rfl rfl ?_
            refine xj_get X x_IW.P inG_X7 0 (wX_at0 ad cA (up2 σ 21 3 ((σ 21 3) ||| ((64 : Int32))))) rfl 5 (by decide) mk1_212 (.ref (ad 24)) rfl dX7_answer_63 ?_
            refine xj_aload_n X 0 dX7_answer_66 rfl rfl ?_
            refine xj_get X x_IW.P inG_X7 0 (wX_at0 ad cA (up2 σ 21 3 ((σ 21 3) ||| ((64 : Int32))))) rfl 4 (by decide) mk1_211 (.ref (ad 21)) rfl dX7_answer_67 ?_
            refine xj_get X x_IW.P inG_X6 21 (wX_at21 ad cA (up2 σ 21 3 ((σ 21 3) ||| ((64 : Int32))))) rfl 2 (by decide) mk1_178 (.int (σ 21 2)) rfl dX7_answer_70 ?_
            refine xj_iconst (x := (1 : Int32)) X dX7_answer_73 rfl ?_
            refine xj_isub X dX7_answer_74 ?_
            obtain ⟨x3_75, hx3_75, hf⟩ := x_bind hf
            refine xj_wrV (rest := []) (x_runV X (ctX4_add l D cA hj (up2 σ 21 3 ((σ 21 3) ||| ((64 : Int32)))) ((σ 21 2) - ((1 : Int32))) x3_75 hx3_75) (x_cwV X kwX4_add mk3_34 rfl rfl ⟨Nat.le_of_ble_eq_true rfl, Nat.le_of_ble_eq_true rfl⟩) x_IW.P 24 (wX_at24 ad cA (up2 σ 21 3 ((σ 21 3) ||| ((64 : Int32))))) rfl rfl rfl (Nat.le_of_ble_eq_true rfl) dX7_answer_75 ⟨Nat.zero_le _, Nat.zero_le _⟩) (fun _ _ _ h _ => h) (fun _ h => h) ?_
            refine xj_aload_n X 0 dX7_answer_78 rfl rfl ?_
            refine xj_aload_n X 0 dX7_answer_79 rfl rfl ?_
            refine xj_get X x_IW.P inG_X7 0 (wX_at0 ad cA x3_75) rfl 4 (by decide) mk1_211 (.ref (ad 21)) rfl dX7_answer_80 ?_
            refine xj_get X x_IW.P inG_X6 21 (wX_at21 ad cA x3_75) rfl 3 (by decide) mk1_180 (.int (x3_75 21 3)) rfl dX7_answer_83 ?_
            refine xj_roI (r := fX7_decideWithoutHost x3_75 (x3_75 21 3)) (rest := []) (fun _ h => h) (x_runV X (ctX7_decideWithoutHost l D cA ad x3_75 (x3_75 21 3) _ rfl) (x_cwV X kwX7_decideWithoutHost mk3_5 rfl rfl ⟨Nat.le_of_ble_eq_true rfl, Nat.le_of_ble_eq_true rfl⟩) x_IW.P 0 (wX_at0 ad cA x3_75) rfl rfl rfl (Nat.le_of_ble_eq_true rfl) dX7_answer_86 ⟨Nat.zero_le _, Nat.zero_le _⟩) ?_
            refine xj_istore_n (lv' := [(2, .int (fX7_decideWithoutHost x3_75 (x3_75 21 3))), (0, .ref (ad 0)), (1, .int p1)]) X dX7_answer_89 rfl (Nat.le_of_ble_eq_true rfl) rfl ?_
            refine xj_sub [1, 2, 0] rfl ?_
            exact xj_sub [0, 2] rfl (B_90 x3_75 (fX7_decideWithoutHost x3_75 (x3_75 21 3)) hf)
        · refine xj_aload_n X 0 dX7_answer_31 rfl rfl ?_
          refine xj_get X x_IW.P inG_X7 0 (wX_at0 ad cA σ) rfl 2 (by decide) mk1_209 (.ref (ad 9)) rfl dX7_answer_32 ?_
          obtain ⟨x4_35, hx4_35, hf⟩ := x_bind hf
          refine xj_wrV (rest := []) (x_runV X (ctX1_passOnline l D cA hj σ x4_35 hx4_35) (x_cwV X kwX1_passOnline mk3_30 rfl rfl ⟨Nat.le_of_ble_eq_true rfl, Nat.le_of_ble_eq_true rfl⟩) x_IW.P 9 (wX_at9 ad cA σ) rfl rfl rfl (Nat.le_of_ble_eq_true rfl) dX7_answer_35 ⟨Nat.zero_le _, Nat.zero_le _⟩) (fun _ _ _ h _ => h) (fun _ h => h) ?_
          refine xj_iconst (x := (2 : Int32)) X dX7_answer_38 rfl ?_
          refine xj_istore_n (lv' := [(2, .int ((2 : Int32))), (0, .ref (ad 0)), (1, .int p1)]) X dX7_answer_39 rfl (Nat.le_of_ble_eq_true rfl) rfl ?_
          refine xj_sub [1, 2, 0] rfl ?_
          refine xj_goto (tgt := 90) X dX7_answer_40 rfl ?_
          exact xj_sub [0, 2] rfl (B_90 x4_35 ((2 : Int32)) hf)
      · refine xj_bipush (x := (-2 : Int32)) X dX7_answer_21 rfl ?_
        exact xj_iret_wr X hr (x_2a hf) (congrArg (wX ad cA) (x_2b hf)) dX7_answer_23
    · refine xj_iconst (x := (-1 : Int32)) X dX7_answer_9 rfl ?_
      exact xj_iret_wr X hr (x_2a hf) (congrArg (wX ad cA) (x_2b hf)) dX7_answer_10
set_option maxHeartbeats 4000000 in
set_option maxRecDepth 100000 in
theorem ctX4_first (l : Launch) (D : va_G) (cA : ClassId) (ad : Nat → Nat) (σ : x_M) (r0 : Int32) (hf : fX4_first σ = r0) : Met l yX4_first zX4_first ({ frames := 1, cells := 0, slots := 0, locals := 21 } : Room) (x_P D cA [.ref (ad 24)] (wX ad cA σ)) (x_R (some (.int r0))) 0 0 (fun _ => False) := by
  refine x_met (cc := cX4_first) (maxL := 1) (ret := (some .int)) RX4 rfl (by decide) rfl [(0, .ref (ad 24))] rfl (Nat.le_of_ble_eq_true rfl) ?_
  intro p e s m args below meth c hr X
  rw [fX4_first] at hf
  refine xj_aload_n X 0 dX4_first_0 rfl rfl ?_
  refine xj_get X x_IR.P inG_X4 24 (wX_at24 ad cA σ) rfl 1 (by decide) mk1_201 (.ref (ad 25)) rfl dX4_first_1 ?_
  refine xj_iconst (x := (0 : Int32)) X dX4_first_4 rfl ?_
  refine xj_roI (r := x_at 3 (σ 25) ((0 : Int32))) (rest := []) (fun _ h => h) (x_runSN X (c_at l D cA (wX_at25 ad cA σ) (by decide) ((0 : Int32))) (x_cwN X kwX7_at x_nest_20 rfl rfl ⟨Nat.le_of_ble_eq_true rfl, Nat.le_of_ble_eq_true rfl⟩) x_IR.P rfl rfl (Nat.le_of_ble_eq_true rfl) dX4_first_5 ⟨Nat.zero_le _, Nat.zero_le _⟩) ?_
  exact xj_iret_ro X hr hf dX4_first_8
set_option maxHeartbeats 4000000 in
set_option maxRecDepth 100000 in
theorem ctX4_dropFirst (l : Launch) (D : va_G) (cA : ClassId) {ad : Nat → Nat} (hj : x_inj 26 ad) (σ : x_M) (σ0 : x_M) (hf : fX4_dropFirst σ = some σ0) : Met l yX4_dropFirst zX4_dropFirst ({ frames := 1, cells := 0, slots := 0, locals := 22 } : Room) (x_P D cA [.ref (ad 24)] (wX ad cA σ)) (x_U D none (wX ad cA σ0) (x_A 26 ad)) 0 0 (x_A 26 ad) := by
  refine x_met (cc := cX4_dropFirst) (maxL := 2) (ret := none) RX4 rfl (by decide) rfl [(0, .ref (ad 24))] rfl (Nat.le_of_ble_eq_true rfl) ?_
  intro p e s m args below meth c hr X
  have B_10 : ∀ (n : Nat) (σ : x_M) (v1 : Int32), fX4_dropFirst_10 n σ v1 = some σ0 → x_J 2 p l e ({ frames := 1, cells := 0, slots := 0, locals := 22 } : Room) s m args below meth c 0 0 (x_IW D s (x_A 26 ad) (wX ad cA σ)) (MQ below (x_U D none (wX ad cA σ0) (x_A 26 ad)) args s 0 0 (x_A 26 ad)) 10 [(0, .ref (ad 24)), (1, .int v1)] [] := by
    intro n
    induction n with
    | zero => intro σ v1 hf; rw [fX4_dropFirst_10] at hf; cases hf
    | succ n ih =>
      intro σ v1 hf
      rw [fX4_dropFirst_10] at hf
      refine xj_iload_n X 1 dX4_dropFirst_10 rfl rfl ?_
      refine xj_aload_n X 0 dX4_dropFirst_11 rfl rfl ?_
      refine xj_get X x_IW.P inG_X4 24 (wX_at24 ad cA σ) rfl 0 (by decide) mk1_199 (.int (σ 24 0)) rfl dX4_dropFirst_12 ?_
      refine xj_iconst (x := (1 : Int32)) X dX4_dropFirst_15 rfl ?_
      refine xj_isub X dX4_dropFirst_16 ?_
      refine xj_icmp_ge (tgt := 44) X dX4_dropFirst_17 rfl hf (fun hf => ?_) (fun hf => ?_)
      · refine xj_aload_n X 0 dX4_dropFirst_44 rfl rfl ?_
        refine xj_dup X dX4_dropFirst_45 rfl ?_
        refine xj_get X x_IW.P inG_X4 24 (wX_at24 ad cA σ) rfl 0 (by decide) mk1_199 (.int (σ 24 0)) rfl dX4_dropFirst_46 ?_
        refine xj_iconst (x := (1 : Int32)) X dX4_dropFirst_49 rfl ?_
        refine xj_isub X dX4_dropFirst_50 ?_
        refine xj_put X (wX_D hj cA _) inG_X4 tyX4_ok nmX4 24 (wX_at24 ad cA σ) rfl 0 (by decide) mk1_199 rfl .int rfl rfl rfl (Nat.le_of_ble_eq_true rfl) (wX_st24_0 ad cA σ ((σ 24 0) - ((1 : Int32)))) dX4_dropFirst_51 ?_
        exact xj_vret_wr X hr (congrArg (wX ad cA) (x_1 hf)) dX4_dropFirst_54
      · refine xj_aload_n X 0 dX4_dropFirst_20 rfl rfl ?_
        refine xj_get X x_IW.P inG_X4 24 (wX_at24 ad cA σ) rfl 1 (by decide) mk1_201 (.ref (ad 25)) rfl dX4_dropFirst_21 ?_
        refine xj_iload_n X 1 dX4_dropFirst_24 rfl rfl ?_
        refine xj_aload_n X 0 dX4_dropFirst_25 rfl rfl ?_
        refine xj_get X x_IW.P inG_X4 24 (wX_at24 ad cA σ) rfl 1 (by decide) mk1_201 (.ref (ad 25)) rfl dX4_dropFirst_26 ?_
        refine xj_iload_n X 1 dX4_dropFirst_29 rfl rfl ?_
        refine xj_iconst (x := (1 : Int32)) X dX4_dropFirst_30 rfl ?_
        refine xj_iadd X dX4_dropFirst_31 ?_
        refine xj_roI (r := x_at 3 (σ 25) (v1 + ((1 : Int32)))) (rest := [.int v1, .ref (ad 25)]) (fun _ h => h) (x_runSN X (c_at l D cA (wX_at25 ad cA σ) (by decide) (v1 + ((1 : Int32)))) (x_cwN X kwX7_at x_nest_20 rfl rfl ⟨Nat.le_of_ble_eq_true rfl, Nat.le_of_ble_eq_true rfl⟩) x_IW.P rfl rfl (Nat.le_of_ble_eq_true rfl) dX4_dropFirst_32 ⟨Nat.zero_le _, Nat.zero_le _⟩) ?_
        refine xj_wrV (rest := []) (x_runSN X (c_put l D cA (wX_D hj cA _) (wX_at25 ad cA σ) (by decide) v1 (x_at 3 (σ 25) (v1 + ((1 : Int32)))) (wX_pu25 ad cA σ v1 (x_at 3 (σ 25) (v1 + ((1 : Int32)))))) (x_cwN X kwX7_put x_nest_19 rfl rfl ⟨Nat.le_of_ble_eq_true rfl, Nat.le_of_ble_eq_true rfl⟩) x_IW.P rfl rfl (Nat.le_of_ble_eq_true rfl) dX4_dropFirst_35 ⟨Nat.zero_le _, Nat.zero_le _⟩) (fun _ _ _ h _ => h) (fun _ h => h) ?_
        refine xj_iinc (y := v1 + (1 : Int32)) (lv' := [(1, .int (v1 + (1 : Int32))), (0, .ref (ad 24))]) X 1 dX4_dropFirst_38 rfl rfl (Nat.le_of_ble_eq_true rfl) rfl ?_
        refine xj_sub [1, 0] rfl ?_
        refine xj_goto (tgt := 10) X dX4_dropFirst_41 rfl ?_
        exact ih (pu σ 25 3 v1 (x_at 3 (σ 25) (v1 + ((1 : Int32))))) (v1 + (1 : Int32)) hf
  refine xj_w (A := x_A 26 ad) ?_
  rw [fX4_dropFirst] at hf
  refine xj_aload_n X 0 dX4_dropFirst_0 rfl rfl ?_
  refine xj_get X x_IW.P inG_X4 24 (wX_at24 ad cA σ) rfl 0 (by decide) mk1_199 (.int (σ 24 0)) rfl dX4_dropFirst_1 ?_
  refine xj_if_ne (tgt := 8) X dX4_dropFirst_4 rfl hf (fun hf => ?_) (fun hf => ?_)
  · refine xj_iconst (x := (0 : Int32)) X dX4_dropFirst_8 rfl ?_
    refine xj_istore_n (lv' := [(1, .int ((0 : Int32))), (0, .ref (ad 24))]) X dX4_dropFirst_9 rfl (Nat.le_of_ble_eq_true rfl) rfl ?_
    refine xj_sub [1, 0] rfl ?_
    exact (B_10 x_fuel σ ((0 : Int32)) hf)
  · exact xj_vret_wr X hr (congrArg (wX ad cA) (x_1 hf)) dX4_dropFirst_7
