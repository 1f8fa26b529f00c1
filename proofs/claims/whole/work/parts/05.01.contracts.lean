set_option maxHeartbeats 4000000 in
set_option maxRecDepth 100000 in
theorem ctX1_renew (l : Launch) (D : va_G) (cA : ClassId) {ad : Nat → Nat} (hj : x_inj 26 ad) (σ : x_M) (σ0 : x_M) (hf : fX1_renew σ = some σ0) : Met l yX1_renew zX1_renew ({ frames := 1, cells := 0, slots := 0, locals := 22 } : Room) (x_P D cA [.ref (ad 9)] (wX ad cA σ)) (x_U D none (wX ad cA σ0) (x_A 26 ad)) 0 0 (x_A 26 ad) := by
  refine x_met (cc := cX1_renew) (maxL := 2) (ret := none) RX1 rfl (by decide) rfl [(0, .ref (ad 9))] rfl (Nat.le_of_ble_eq_true rfl) ?_
  intro p e s m args below meth c hr X
  have B_25 : ∀ (n : Nat) (σ : x_M) (v1 : Int32), fX1_renew_25 n σ v1 = some σ0 → x_J 2 p l e ({ frames := 1, cells := 0, slots := 0, locals := 22 } : Room) s m args below meth c 0 0 (x_IW D s (x_A 26 ad) (wX ad cA σ)) (MQ below (x_U D none (wX ad cA σ0) (x_A 26 ad)) args s 0 0 (x_A 26 ad)) 25 [(0, .ref (ad 9)), (1, .int v1)] [] := by
    intro n
    induction n with
    | zero => intro σ v1 hf; rw [fX1_renew_25] at hf; cases hf
    | succ n ih =>
      intro σ v1 hf
      rw [fX1_renew_25] at hf
      refine xj_iload_n X 1 dX1_renew_25 rfl rfl ?_
      refine xj_iconst (x := (3 : Int32)) X dX1_renew_26 rfl ?_
      refine xj_icmp_ge (tgt := 45) X dX1_renew_27 rfl hf (fun hf => ?_) (fun hf => ?_)
      · exact xj_vret_wr X hr (congrArg (wX ad cA) (x_1 hf)) dX1_renew_45
      · refine xj_aload_n X 0 dX1_renew_30 rfl rfl ?_
        refine xj_get X x_IW.P inG_X1 9 (wX_at9 ad cA σ) rfl 1 (by decide) mk1_105 (.ref (ad 13)) rfl dX1_renew_31 ?_
        refine xj_iload_n X 1 dX1_renew_34 rfl rfl ?_
        refine xj_iconst (x := (0 : Int32)) X dX1_renew_35 rfl ?_
        refine xj_wrV (rest := []) (x_runSN X (c_put l D cA (wX_D hj cA _) (wX_at13 ad cA σ) (by decide) v1 ((0 : Int32)) (wX_pu13 ad cA σ v1 ((0 : Int32)))) (x_cwN X kwX7_put x_nest_12 rfl rfl ⟨Nat.le_of_ble_eq_true rfl, Nat.le_of_ble_eq_true rfl⟩) x_IW.P rfl rfl (Nat.le_of_ble_eq_true rfl) dX1_renew_36 ⟨Nat.zero_le _, Nat.zero_le _⟩) (fun _ _ _ h _ => h) (fun _ h => h) ?_
        refine xj_iinc (y := v1 + (1 : Int32)) (lv' := [(1, .int (v1 + (1 : Int32))), (0, .ref (ad 9))]) X 1 dX1_renew_39 rfl rfl (Nat.le_of_ble_eq_true rfl) rfl ?_
        refine xj_sub [1, 0] rfl ?_
        refine xj_goto (tgt := 25) X dX1_renew_42 rfl ?_
        exact ih (pu σ 13 3 v1 ((0 : Int32))) (v1 + (1 : Int32)) hf
  refine xj_w (A := x_A 26 ad) ?_
  rw [fX1_renew] at hf
  refine xj_aload_n X 0 dX1_renew_0 rfl rfl ?_
  refine xj_get X x_IW.P inG_X1 9 (wX_at9 ad cA σ) rfl 0 (by decide) mk1_103 (.ref (ad 10)) rfl dX1_renew_1 ?_
  refine xj_iconst (x := (0 : Int32)) X dX1_renew_4 rfl ?_
  refine xj_put X (wX_D hj cA _) inG_X3 tyX3_ok nmX3 10 (wX_at10 ad cA σ) rfl 1 (by decide) mk1_92 rfl .int rfl rfl rfl (Nat.le_of_ble_eq_true rfl) (wX_st10_1 ad cA σ ((0 : Int32))) dX1_renew_5 ?_
  refine xj_aload_n X 0 dX1_renew_8 rfl rfl ?_
  refine xj_iconst (x := (-1 : Int32)) X dX1_renew_9 rfl ?_
  refine xj_put X (wX_D hj cA _) inG_X1 tyX1_ok nmX1 9 (wX_at9 ad cA (up2 σ 10 1 ((0 : Int32)))) rfl 2 (by decide) mk1_107 rfl .int rfl rfl rfl (Nat.le_of_ble_eq_true rfl) (wX_st9_2 ad cA (up2 σ 10 1 ((0 : Int32))) ((-1 : Int32))) dX1_renew_10 ?_
  refine xj_aload_n X 0 dX1_renew_13 rfl rfl ?_
  refine xj_iconst (x := (0 : Int32)) X dX1_renew_14 rfl ?_
  refine xj_put X (wX_D hj cA _) inG_X1 tyX1_ok nmX1 9 (wX_at9 ad cA (up2 (up2 σ 10 1 ((0 : Int32))) 9 2 ((-1 : Int32)))) rfl 3 (by decide) mk1_109 rfl .int rfl rfl rfl (Nat.le_of_ble_eq_true rfl) (wX_st9_3 ad cA (up2 (up2 σ 10 1 ((0 : Int32))) 9 2 ((-1 : Int32))) ((0 : Int32))) dX1_renew_15 ?_
  refine xj_aload_n X 0 dX1_renew_18 rfl rfl ?_
  refine xj_iconst (x := (1 : Int32)) X dX1_renew_19 rfl ?_
  refine xj_put X (wX_D hj cA _) inG_X1 tyX1_ok nmX1 9 (wX_at9 ad cA (up2 (up2 (up2 σ 10 1 ((0 : Int32))) 9 2 ((-1 : Int32))) 9 3 ((0 : Int32)))) rfl 4 (by decide) mk1_111 rfl .boolean rfl rfl rfl (Nat.le_of_ble_eq_true rfl) (wX_st9_4 ad cA (up2 (up2 (up2 σ 10 1 ((0 : Int32))) 9 2 ((-1 : Int32))) 9 3 ((0 : Int32))) ((1 : Int32))) dX1_renew_20 ?_
  refine xj_iconst (x := (0 : Int32)) X dX1_renew_23 rfl ?_
  refine xj_istore_n (lv' := [(1, .int ((0 : Int32))), (0, .ref (ad 9))]) X dX1_renew_24 rfl (Nat.le_of_ble_eq_true rfl) rfl ?_
  refine xj_sub [1, 0] rfl ?_
  exact (B_25 x_fuel (up2 (up2 (up2 (up2 σ 10 1 ((0 : Int32))) 9 2 ((-1 : Int32))) 9 3 ((0 : Int32))) 9 4 ((1 : Int32))) ((0 : Int32)) hf)
set_option maxHeartbeats 4000000 in
set_option maxRecDepth 100000 in
theorem ctX2_priorityIn (l : Launch) (D : va_G) (cA : ClassId) (ad : Nat → Nat) (σ : x_M) (p1 : Int32) (r0 : Int32) (hf : fX2_priorityIn σ p1 = some r0) : Met l yX2_priorityIn zX2_priorityIn ({ frames := 2, cells := 0, slots := 0, locals := 48 } : Room) (x_P D cA [.ref (ad 3), .int p1] (wX ad cA σ)) (x_R (some (.int r0))) 0 0 (fun _ => False) := by
  refine x_met (cc := cX2_priorityIn) (maxL := 2) (ret := (some .int)) RX2 rfl (by decide) rfl [(0, .ref (ad 3)), (1, .int p1)] rfl (Nat.le_of_ble_eq_true rfl) ?_
  intro p e s m args below meth c hr X
  rw [fX2_priorityIn] at hf
  refine xj_aload_n X 0 dX2_priorityIn_0 rfl rfl ?_
  refine xj_iload_n X 1 dX2_priorityIn_1 rfl rfl ?_
  refine xj_iconst (x := (1 : Int32)) X dX2_priorityIn_2 rfl ?_
  refine xj_iadd X dX2_priorityIn_3 ?_
  refine xj_iload_n X 1 dX2_priorityIn_4 rfl rfl ?_
  refine xj_sipush (x := (135 : Int32)) X dX2_priorityIn_5 rfl ?_
  refine xj_iconst (x := (1 : Int32)) X dX2_priorityIn_8 rfl ?_
  refine xj_iconst (x := (1 : Int32)) X dX2_priorityIn_9 rfl ?_
  obtain ⟨x1_10, hx1_10, hf⟩ := x_bind hf
  refine xj_roI (r := x1_10) (rest := []) (fun _ h => h) (x_runV X (ctX2_childFrom l D cA ad σ (p1 + ((1 : Int32))) p1 ((135 : Int32)) ((1 : Int32)) ((1 : Int32)) _ hx1_10) (x_cwV X kwX2_childFrom mk2_83 rfl rfl ⟨Nat.le_of_ble_eq_true rfl, Nat.le_of_ble_eq_true rfl⟩) x_IR.P 3 (wX_at3 ad cA σ) rfl rfl rfl (Nat.le_of_ble_eq_true rfl) dX2_priorityIn_10 ⟨Nat.zero_le _, Nat.zero_le _⟩) ?_
  exact xj_iret_ro X hr (x_1 hf) dX2_priorityIn_13
set_option maxHeartbeats 4000000 in
set_option maxRecDepth 100000 in
theorem ctX1_indicatorIn (l : Launch) (D : va_G) (cA : ClassId) (ad : Nat → Nat) (σ : x_M) (p1 : Int32) (r0 : Int32) (hf : fX1_indicatorIn σ p1 = some r0) : Met l yX1_indicatorIn zX1_indicatorIn ({ frames := 3, cells := 0, slots := 0, locals := 69 } : Room) (x_P D cA [.ref (ad 9), .int p1, .ref (ad 3), .ref (ad 1)] (wX ad cA σ)) (x_R (some (.int r0))) 0 0 (fun _ => False) := by
  refine x_met (cc := cX1_indicatorIn) (maxL := 5) (ret := (some .int)) RX1 rfl (by decide) rfl [(0, .ref (ad 9)), (1, .int p1), (2, .ref (ad 3)), (3, .ref (ad 1))] rfl (Nat.le_of_ble_eq_true rfl) ?_
  intro p e s m args below meth c hr X
  rw [fX1_indicatorIn] at hf
  refine xj_aload_n X 2 dX1_indicatorIn_0 rfl rfl ?_
  refine xj_iload_n X 1 dX1_indicatorIn_1 rfl rfl ?_
  obtain ⟨x1_2, hx1_2, hf⟩ := x_bind hf
  refine xj_roI (r := x1_2) (rest := []) (fun _ h => h) (x_runV X (ctX2_priorityIn l D cA ad σ p1 _ hx1_2) (x_cwV X kwX2_priorityIn mk2_101 rfl rfl ⟨Nat.le_of_ble_eq_true rfl, Nat.le_of_ble_eq_true rfl⟩) x_IR.P 3 (wX_at3 ad cA σ) rfl rfl rfl (Nat.le_of_ble_eq_true rfl) dX1_indicatorIn_2 ⟨Nat.zero_le _, Nat.zero_le _⟩) ?_
  refine xj_istore (lv' := [(4, .int x1_2), (0, .ref (ad 9)), (1, .int p1), (2, .ref (ad 3)), (3, .ref (ad 1))]) X dX1_indicatorIn_5 (Nat.le_of_ble_eq_true rfl) rfl ?_
  refine xj_sub [1, 2, 3, 4, 0] rfl ?_
  refine xj_iload X 4 dX1_indicatorIn_7 rfl ?_
  refine xj_iconst (x := (-1 : Int32)) X dX1_indicatorIn_9 rfl ?_
  refine xj_icmp_ne (tgt := 17) X dX1_indicatorIn_10 rfl hf (fun hf => ?_) (fun hf => ?_)
  · refine xj_aload_n X 3 dX1_indicatorIn_17 rfl rfl ?_
    refine xj_get X x_IR.P inG_X0 1 (wX_at1 ad cA σ) rfl 0 (by decide) mk1_27 (.ref (ad 2)) rfl dX1_indicatorIn_18 ?_
    refine xj_aload_n X 2 dX1_indicatorIn_21 rfl rfl ?_
    refine xj_get X x_IR.P inG_X2 3 (wX_at3 ad cA σ) rfl 4 (by decide) mk1_53 (.ref (ad 8)) rfl dX1_indicatorIn_22 ?_
    refine xj_iload X 4 dX1_indicatorIn_25 rfl ?_
    refine xj_roI (r := x_at 24 (σ 8) x1_2) (rest := [.ref (ad 2)]) (fun _ h => h) (x_runSN X (c_at l D cA (wX_at8 ad cA σ) (by decide) x1_2) (x_cwN X kwX7_at x_nest_13 rfl rfl ⟨Nat.le_of_ble_eq_true rfl, Nat.le_of_ble_eq_true rfl⟩) x_IR.P rfl rfl (Nat.le_of_ble_eq_true rfl) dX1_indicatorIn_27 ⟨Nat.zero_le _, Nat.zero_le _⟩) ?_
    refine xj_roI (r := x_at 120 (σ 2) (x_at 24 (σ 8) x1_2)) (rest := []) (fun _ h => h) (x_runSN X (c_at l D cA (wX_at2 ad cA σ) (by decide) (x_at 24 (σ 8) x1_2)) (x_cwN X kwX7_at x_nest_13 rfl rfl ⟨Nat.le_of_ble_eq_true rfl, Nat.le_of_ble_eq_true rfl⟩) x_IR.P rfl rfl (Nat.le_of_ble_eq_true rfl) dX1_indicatorIn_30 ⟨Nat.zero_le _, Nat.zero_le _⟩) ?_
    exact xj_iret_ro X hr (x_1 hf) dX1_indicatorIn_33
  · refine xj_iconst (x := (0 : Int32)) X dX1_indicatorIn_13 rfl ?_
    refine xj_goto (tgt := 33) X dX1_indicatorIn_14 rfl ?_
    exact xj_iret_ro X hr (x_1 hf) dX1_indicatorIn_33
set_option maxHeartbeats 4000000 in
set_option maxRecDepth 100000 in
theorem ctX3_add_10 (l : Launch) (D : va_G) (cA : ClassId) {ad : Nat → Nat} (hj : x_inj 26 ad) (σ : x_M) (p2 : Int32) (p3 : Int32) (σ0 : x_M) (hf : fX3_add_10 σ p2 p3 = some σ0) : Met l yX3_add zX3_add ({ frames := 1, cells := 0, slots := 0, locals := 22 } : Room) (x_P D cA [.ref (ad 10), .ref (ad 1), .int p2, .int p3] (wX ad cA σ)) (x_U D none (wX ad cA σ0) (x_A 26 ad)) 0 0 (x_A 26 ad) := by
  refine x_met (cc := cX3_add) (maxL := 5) (ret := none) RX3 rfl (by decide) rfl [(0, .ref (ad 10)), (1, .ref (ad 1)), (2, .int p2), (3, .int p3)] rfl (Nat.le_of_ble_eq_true rfl) ?_
  intro p e s m args below meth c hr X
  have B_19 : ∀ (n : Nat) (σ : x_M) (v2 : Int32) (v3 : Int32) (v4 : Int32), fX3_add_10_19 n σ v2 v3 v4 = some σ0 → x_J 5 p l e ({ frames := 1, cells := 0, slots := 0, locals := 22 } : Room) s m args below meth c 0 0 (x_IW D s (x_A 26 ad) (wX ad cA σ)) (MQ below (x_U D none (wX ad cA σ0) (x_A 26 ad)) args s 0 0 (x_A 26 ad)) 19 [(0, .ref (ad 10)), (1, .ref (ad 1)), (2, .int v2), (3, .int v3), (4, .int v4)] [] := by
    intro n
    induction n with
    | zero => intro σ v2 v3 v4 hf; rw [fX3_add_10_19] at hf; cases hf
    | succ n ih =>
      intro σ v2 v3 v4 hf
      rw [fX3_add_10_19] at hf
      refine xj_iload X 4 dX3_add_19 rfl ?_
      refine xj_iload_n X 3 dX3_add_21 rfl rfl ?_
      refine xj_icmp_ge (tgt := 59) X dX3_add_22 rfl hf (fun hf => ?_) (fun hf => ?_)
      · refine xj_aload_n X 0 dX3_add_59 rfl rfl ?_
        refine xj_get X x_IW.P inG_X3 10 (wX_at10 ad cA σ) rfl 0 (by decide) mk1_89 (.ref (ad 11)) rfl dX3_add_60 ?_
        refine xj_aload_n X 0 dX3_add_63 rfl rfl ?_
        refine xj_get X x_IW.P inG_X3 10 (wX_at10 ad cA σ) rfl 1 (by decide) mk1_91 (.int (σ 10 1)) rfl dX3_add_64 ?_
        refine xj_iload_n X 3 dX3_add_67 rfl rfl ?_
        refine xj_wrV (rest := []) (x_runSN X (c_put l D cA (wX_D hj cA _) (wX_at11 ad cA σ) (by decide) (σ 10 1) v3 (wX_pu11 ad cA σ (σ 10 1) v3)) (x_cwN X kwX7_put x_nest_15 rfl rfl ⟨Nat.le_of_ble_eq_true rfl, Nat.le_of_ble_eq_true rfl⟩) x_IW.P rfl rfl (Nat.le_of_ble_eq_true rfl) dX3_add_68 ⟨Nat.zero_le _, Nat.zero_le _⟩) (fun _ _ _ h _ => h) (fun _ h => h) ?_
        refine xj_aload_n X 0 dX3_add_71 rfl rfl ?_
        refine xj_dup X dX3_add_72 rfl ?_
        refine xj_get X x_IW.P inG_X3 10 (wX_at10 ad cA (pu σ 11 6 (σ 10 1) v3)) rfl 1 (by decide) mk1_91 (.int (σ 10 1)) rfl dX3_add_73 ?_
        refine xj_iconst (x := (1 : Int32)) X dX3_add_76 rfl ?_
        refine xj_iadd X dX3_add_77 ?_
        refine xj_put X (wX_D hj cA _) inG_X3 tyX3_ok nmX3 10 (wX_at10 ad cA (pu σ 11 6 (σ 10 1) v3)) rfl 1 (by decide) mk1_91 rfl .int rfl rfl rfl (Nat.le_of_ble_eq_true rfl) (wX_st10_1 ad cA (pu σ 11 6 (σ 10 1) v3) ((σ 10 1) + ((1 : Int32)))) dX3_add_78 ?_
        exact xj_vret_wr X hr (congrArg (wX ad cA) (x_1 hf)) dX3_add_81
      · refine xj_aload_n X 0 dX3_add_25 rfl rfl ?_
        refine xj_get X x_IW.P inG_X3 10 (wX_at10 ad cA σ) rfl 2 (by decide) mk1_95 (.ref (ad 12)) rfl dX3_add_26 ?_
        refine xj_aload_n X 0 dX3_add_29 rfl rfl ?_
        refine xj_get X x_IW.P inG_X3 10 (wX_at10 ad cA σ) rfl 1 (by decide) mk1_91 (.int (σ 10 1)) rfl dX3_add_30 ?_
        refine xj_bipush (x := (16 : Int32)) X dX3_add_33 rfl ?_
        refine xj_imul X dX3_add_35 ?_
        refine xj_iload X 4 dX3_add_36 rfl ?_
        refine xj_iadd X dX3_add_38 ?_
        refine xj_aload_n X 1 dX3_add_39 rfl rfl ?_
        refine xj_get X x_IW.P inG_X0 1 (wX_at1 ad cA σ) rfl 0 (by decide) mk1_25 (.ref (ad 2)) rfl dX3_add_40 ?_
        refine xj_iload_n X 2 dX3_add_43 rfl rfl ?_
        refine xj_iload X 4 dX3_add_44 rfl ?_
        refine xj_iadd X dX3_add_46 ?_
        refine xj_roI (r := x_at 120 (σ 2) (v2 + v4)) (rest := [.int (((σ 10 1) * ((16 : Int32))) + v4), .ref (ad 12)]) (fun _ h => h) (x_runSN X (c_at l D cA (wX_at2 ad cA σ) (by decide) (v2 + v4)) (x_cwN X kwX7_at x_nest_14 rfl rfl ⟨Nat.le_of_ble_eq_true rfl, Nat.le_of_ble_eq_true rfl⟩) x_IW.P rfl rfl (Nat.le_of_ble_eq_true rfl) dX3_add_47 ⟨Nat.zero_le _, Nat.zero_le _⟩) ?_
        refine xj_wrV (rest := []) (x_runSN X (c_put l D cA (wX_D hj cA _) (wX_at12 ad cA σ) (by decide) (((σ 10 1) * ((16 : Int32))) + v4) (x_at 120 (σ 2) (v2 + v4)) (wX_pu12 ad cA σ (((σ 10 1) * ((16 : Int32))) + v4) (x_at 120 (σ 2) (v2 + v4)))) (x_cwN X kwX7_put x_nest_15 rfl rfl ⟨Nat.le_of_ble_eq_true rfl, Nat.le_of_ble_eq_true rfl⟩) x_IW.P rfl rfl (Nat.le_of_ble_eq_true rfl) dX3_add_50 ⟨Nat.zero_le _, Nat.zero_le _⟩) (fun _ _ _ h _ => h) (fun _ h => h) ?_
        refine xj_iinc (y := v4 + (1 : Int32)) (lv' := [(4, .int (v4 + (1 : Int32))), (0, .ref (ad 10)), (1, .ref (ad 1)), (2, .int v2), (3, .int v3)]) X 4 dX3_add_53 rfl rfl (Nat.le_of_ble_eq_true rfl) rfl ?_
        refine xj_sub [1, 2, 3, 4, 0] rfl ?_
        refine xj_goto (tgt := 19) X dX3_add_56 rfl ?_
        exact ih (pu σ 12 96 (((σ 10 1) * ((16 : Int32))) + v4) (x_at 120 (σ 2) (v2 + v4))) v2 v3 (v4 + (1 : Int32)) hf
  refine xj_w (A := x_A 26 ad) ?_
  rw [fX3_add_10] at hf
  refine xj_aload_n X 0 dX3_add_0 rfl rfl ?_
  refine xj_get X x_IW.P inG_X3 10 (wX_at10 ad cA σ) rfl 1 (by decide) mk1_91 (.int (σ 10 1)) rfl dX3_add_1 ?_
  refine xj_bipush (x := (6 : Int32)) X dX3_add_4 rfl ?_
  refine xj_icmp_ge (tgt := 15) X dX3_add_6 rfl hf (fun hf => ?_) (fun hf => ?_)
  · exact xj_vret_wr X hr (congrArg (wX ad cA) (x_1 hf)) dX3_add_15
  · refine xj_iload_n X 3 dX3_add_9 rfl rfl ?_
    refine xj_bipush (x := (16 : Int32)) X dX3_add_10 rfl ?_
    refine xj_icmp_le (tgt := 16) X dX3_add_12 rfl hf (fun hf => ?_) (fun hf => ?_)
    · refine xj_iconst (x := (0 : Int32)) X dX3_add_16 rfl ?_
      refine xj_istore (lv' := [(4, .int ((0 : Int32))), (0, .ref (ad 10)), (1, .ref (ad 1)), (2, .int p2), (3, .int p3)]) X dX3_add_17 (Nat.le_of_ble_eq_true rfl) rfl ?_
      refine xj_sub [1, 2, 3, 4, 0] rfl ?_
      exact (B_19 x_fuel σ p2 p3 ((0 : Int32)) hf)
    · exact xj_vret_wr X hr (congrArg (wX ad cA) (x_1 hf)) dX3_add_15
set_option maxHeartbeats 4000000 in
set_option maxRecDepth 100000 in
theorem ctX1_readApplications (l : Launch) (D : va_G) (cA : ClassId) {ad : Nat → Nat} (hj : x_inj 26 ad) (σ : x_M) (σ0 : x_M) (hf : fX1_readApplications σ = some σ0) : Met l yX1_readApplications zX1_readApplications ({ frames := 4, cells := 0, slots := 0, locals := 93 } : Room) (x_P D cA [.ref (ad 9), .ref (ad 3), .ref (ad 1)] (wX ad cA σ)) (x_U D none (wX ad cA σ0) (x_A 26 ad)) 0 0 (x_A 26 ad) := by
  refine x_met (cc := cX1_readApplications) (maxL := 5) (ret := none) RX1 rfl (by decide) rfl [(0, .ref (ad 9)), (1, .ref (ad 3)), (2, .ref (ad 1))] rfl (Nat.le_of_ble_eq_true rfl) ?_
  intro p e s m args below meth c hr X
  have B_2 : ∀ (n : Nat) (σ : x_M) (v3 : Int32), fX1_readApplications_2 n σ v3 = some σ0 → x_J 5 p l e ({ frames := 4, cells := 0, slots := 0, locals := 93 } : Room) s m args below meth c 0 0 (x_IW D s (x_A 26 ad) (wX ad cA σ)) (MQ below (x_U D none (wX ad cA σ0) (x_A 26 ad)) args s 0 0 (x_A 26 ad)) 2 [(0, .ref (ad 9)), (1, .ref (ad 3)), (2, .ref (ad 1)), (3, .int v3)] [] := by
    intro n
    induction n with
    | zero => intro σ v3 hf; rw [fX1_readApplications_2] at hf; cases hf
    | succ n ih =>
      intro σ v3 hf
      rw [fX1_readApplications_2] at hf
      refine xj_iload_n X 3 dX1_readApplications_2 rfl rfl ?_
      refine xj_aload_n X 1 dX1_readApplications_3 rfl rfl ?_
      refine xj_get X x_IW.P inG_X2 3 (wX_at3 ad cA σ) rfl 5 (by decide) mk1_55 (.int (σ 3 5)) rfl dX1_readApplications_4 ?_
      refine xj_icmp_ge (tgt := 76) X dX1_readApplications_7 rfl hf (fun hf => ?_) (fun hf => ?_)
      · exact xj_vret_wr X hr (congrArg (wX ad cA) (x_1 hf)) dX1_readApplications_76
      · refine xj_aload_n X 1 dX1_readApplications_10 rfl rfl ?_
        refine xj_iload_n X 3 dX1_readApplications_11 rfl rfl ?_
        obtain ⟨x1_12, hx1_12, hf⟩ := x_bind hf
        refine xj_roI (r := x1_12) (rest := []) (fun _ h => h) (x_runV X (ctX2_identifierIn l D cA ad σ v3 _ hx1_12) (x_cwV X kwX2_identifierIn mk2_96 rfl rfl ⟨Nat.le_of_ble_eq_true rfl, Nat.le_of_ble_eq_true rfl⟩) x_IW.P 3 (wX_at3 ad cA σ) rfl rfl rfl (Nat.le_of_ble_eq_true rfl) dX1_readApplications_12 ⟨Nat.zero_le _, Nat.zero_le _⟩) ?_
        refine xj_istore (lv' := [(4, .int x1_12), (0, .ref (ad 9)), (1, .ref (ad 3)), (2, .ref (ad 1)), (3, .int v3)]) X dX1_readApplications_15 (Nat.le_of_ble_eq_true rfl) rfl ?_
        refine xj_sub [1, 2, 3, 4, 0] rfl ?_
        refine xj_iload X 4 dX1_readApplications_17 rfl ?_
        refine xj_iconst (x := (-1 : Int32)) X dX1_readApplications_19 rfl ?_
        refine xj_icmp_eq (tgt := 70) X dX1_readApplications_20 rfl hf (fun hf => ?_) (fun hf => ?_)
        · refine xj_iinc (y := v3 + (1 : Int32)) (lv' := [(3, .int (v3 + (1 : Int32))), (0, .ref (ad 9)), (1, .ref (ad 3)), (2, .ref (ad 1)), (4, .int x1_12)]) X 3 dX1_readApplications_70 rfl rfl (Nat.le_of_ble_eq_true rfl) rfl ?_
          refine xj_sub [1, 2, 3, 0, 4] rfl ?_
          refine xj_goto (tgt := 2) X dX1_readApplications_73 rfl ?_
          exact xj_sub [0, 1, 2, 3] rfl (ih σ (v3 + (1 : Int32)) hf)
        · refine xj_aload_n X 0 dX1_readApplications_23 rfl rfl ?_
          refine xj_get X x_IW.P inG_X1 9 (wX_at9 ad cA σ) rfl 5 (by decide) mk1_113 (.ref (ad 14)) rfl dX1_readApplications_24 ?_
          refine xj_aload_n X 0 dX1_readApplications_27 rfl rfl ?_
          refine xj_get X x_IW.P inG_X1 9 (wX_at9 ad cA σ) rfl 0 (by decide) mk1_103 (.ref (ad 10)) rfl dX1_readApplications_28 ?_
          refine xj_get X x_IW.P inG_X3 10 (wX_at10 ad cA σ) rfl 1 (by decide) mk1_92 (.int (σ 10 1)) rfl dX1_readApplications_31 ?_
          refine xj_aload_n X 0 dX1_readApplications_34 rfl rfl ?_
          refine xj_iload_n X 3 dX1_readApplications_35 rfl rfl ?_
          refine xj_aload_n X 1 dX1_readApplications_36 rfl rfl ?_
          refine xj_aload_n X 2 dX1_readApplications_37 rfl rfl ?_
          obtain ⟨x2_38, hx2_38, hf⟩ := x_bind hf
          refine xj_roI (r := x2_38) (rest := [.int (σ 10 1), .ref (ad 14)]) (fun _ h => h) (x_runV X (ctX1_indicatorIn l D cA ad σ v3 _ hx2_38) (x_cwV X kwX1_indicatorIn mk2_97 rfl rfl ⟨Nat.le_of_ble_eq_true rfl, Nat.le_of_ble_eq_true rfl⟩) x_IW.P 9 (wX_at9 ad cA σ) rfl rfl rfl (Nat.le_of_ble_eq_true rfl) dX1_readApplications_38 ⟨Nat.zero_le _, Nat.zero_le _⟩) ?_
          refine xj_wrV (rest := []) (x_runSN X (c_put l D cA (wX_D hj cA _) (wX_at14 ad cA σ) (by decide) (σ 10 1) x2_38 (wX_pu14 ad cA σ (σ 10 1) x2_38)) (x_cwN X kwX7_put x_nest_12 rfl rfl ⟨Nat.le_of_ble_eq_true rfl, Nat.le_of_ble_eq_true rfl⟩) x_IW.P rfl rfl (Nat.le_of_ble_eq_true rfl) dX1_readApplications_41 ⟨Nat.zero_le _, Nat.zero_le _⟩) (fun _ _ _ h _ => h) (fun _ h => h) ?_
          refine xj_aload_n X 0 dX1_readApplications_44 rfl rfl ?_
          refine xj_get X x_IW.P inG_X1 9 (wX_at9 ad cA (pu σ 14 6 (σ 10 1) x2_38)) rfl 0 (by decide) mk1_103 (.ref (ad 10)) rfl dX1_readApplications_45 ?_
          refine xj_aload_n X 2 dX1_readApplications_48 rfl rfl ?_
          refine xj_aload_n X 1 dX1_readApplications_49 rfl rfl ?_
          refine xj_get X x_IW.P inG_X2 3 (wX_at3 ad cA (pu σ 14 6 (σ 10 1) x2_38)) rfl 4 (by decide) mk1_53 (.ref (ad 8)) rfl dX1_readApplications_50 ?_
          refine xj_iload X 4 dX1_readApplications_53 rfl ?_
          refine xj_roI (r := x_at 24 (σ 8) x1_12) (rest := [.ref (ad 1), .ref (ad 10)]) (fun _ h => h) (x_runSN X (c_at l D cA (wX_at8 ad cA (pu σ 14 6 (σ 10 1) x2_38)) (by decide) x1_12) (x_cwN X kwX7_at x_nest_13 rfl rfl ⟨Nat.le_of_ble_eq_true rfl, Nat.le_of_ble_eq_true rfl⟩) x_IW.P rfl rfl (Nat.le_of_ble_eq_true rfl) dX1_readApplications_55 ⟨Nat.zero_le _, Nat.zero_le _⟩) ?_
          refine xj_aload_n X 1 dX1_readApplications_58 rfl rfl ?_
          refine xj_get X x_IW.P inG_X2 3 (wX_at3 ad cA (pu σ 14 6 (σ 10 1) x2_38)) rfl 1 (by decide) mk1_47 (.ref (ad 5)) rfl dX1_readApplications_59 ?_
          refine xj_iload X 4 dX1_readApplications_62 rfl ?_
          refine xj_roI (r := x_at 24 (σ 5) x1_12) (rest := [.int (x_at 24 (σ 8) x1_12), .ref (ad 1), .ref (ad 10)]) (fun _ h => h) (x_runSN X (c_at l D cA (wX_at5 ad cA (pu σ 14 6 (σ 10 1) x2_38)) (by decide) x1_12) (x_cwN X kwX7_at x_nest_13 rfl rfl ⟨Nat.le_of_ble_eq_true rfl, Nat.le_of_ble_eq_true rfl⟩) x_IW.P rfl rfl (Nat.le_of_ble_eq_true rfl) dX1_readApplications_64 ⟨Nat.zero_le _, Nat.zero_le _⟩) ?_
          obtain ⟨x3_67, hx3_67, hf⟩ := x_bind hf
          refine xj_wrV (rest := []) (x_runV X (ctX3_add_10 l D cA hj (pu σ 14 6 (σ 10 1) x2_38) (x_at 24 (σ 8) x1_12) (x_at 24 (σ 5) x1_12) x3_67 hx3_67) (x_cwV X kwX3_add mk2_106 rfl rfl ⟨Nat.le_of_ble_eq_true rfl, Nat.le_of_ble_eq_true rfl⟩) x_IW.P 10 (wX_at10 ad cA (pu σ 14 6 (σ 10 1) x2_38)) rfl rfl rfl (Nat.le_of_ble_eq_true rfl) dX1_readApplications_67 ⟨Nat.zero_le _, Nat.zero_le _⟩) (fun _ _ _ h _ => h) (fun _ h => h) ?_
          refine xj_iinc (y := v3 + (1 : Int32)) (lv' := [(3, .int (v3 + (1 : Int32))), (0, .ref (ad 9)), (1, .ref (ad 3)), (2, .ref (ad 1)), (4, .int x1_12)]) X 3 dX1_readApplications_70 rfl rfl (Nat.le_of_ble_eq_true rfl) rfl ?_
          refine xj_sub [1, 2, 3, 0, 4] rfl ?_
          refine xj_goto (tgt := 2) X dX1_readApplications_73 rfl ?_
          exact xj_sub [0, 1, 2, 3] rfl (ih x3_67 (v3 + (1 : Int32)) hf)
  refine xj_w (A := x_A 26 ad) ?_
  rw [fX1_readApplications] at hf
  refine xj_iconst (x := (0 : Int32)) X dX1_readApplications_0 rfl ?_
  refine xj_istore_n (lv' := [(3, .int ((0 : Int32))), (0, .ref (ad 9)), (1, .ref (ad 3)), (2, .ref (ad 1))]) X dX1_readApplications_1 rfl (Nat.le_of_ble_eq_true rfl) rfl ?_
  refine xj_sub [1, 2, 3, 0] rfl ?_
  exact (B_2 x_fuel σ ((0 : Int32)) hf)
set_option maxHeartbeats 4000000 in
set_option maxRecDepth 100000 in
theorem ctX7_insertCard (l : Launch) (D : va_G) (cA : ClassId) {ad : Nat → Nat} (hj : x_inj 26 ad) (σ : x_M) (r0 : Int32) (σ0 : x_M) (hf : fX7_insertCard σ = some (r0, σ0)) : Met l yX7_insertCard zX7_insertCard ({ frames := 5, cells := 0, slots := 0, locals := 117 } : Room) (x_P D cA [.ref (ad 0)] (wX ad cA σ)) (x_U D (some (.int r0)) (wX ad cA σ0) (x_A 26 ad)) 0 0 (x_A 26 ad) := by
  refine x_met (cc := cX7_insertCard) (maxL := 1) (ret := (some .int)) RX7 rfl (by decide) rfl [(0, .ref (ad 0))] rfl (Nat.le_of_ble_eq_true rfl) ?_
  intro p e s m args below meth c hr X
  refine xj_w (A := x_A 26 ad) ?_
  rw [fX7_insertCard] at hf
  refine xj_aload_n X 0 dX7_insertCard_0 rfl rfl ?_
  refine xj_get X x_IW.P inG_X7 0 (wX_at0 ad cA σ) rfl 1 (by decide) mk1_208 (.ref (ad 3)) rfl dX7_insertCard_1 ?_
  refine xj_aload_n X 0 dX7_insertCard_4 rfl rfl ?_
  refine xj_get X x_IW.P inG_X7 0 (wX_at0 ad cA σ) rfl 0 (by decide) mk1_207 (.ref (ad 1)) rfl dX7_insertCard_5 ?_
  obtain ⟨x1_8, hx1_8, hf⟩ := x_bind hf
  refine xj_wrV (rest := []) (x_runV X (ctX2_read l D cA hj σ x1_8 hx1_8) (x_cwV X kwX2_read mk2_5 rfl rfl ⟨Nat.le_of_ble_eq_true rfl, Nat.le_of_ble_eq_true rfl⟩) x_IW.P 3 (wX_at3 ad cA σ) rfl rfl rfl (Nat.le_of_ble_eq_true rfl) dX7_insertCard_8 ⟨Nat.zero_le _, Nat.zero_le _⟩) (fun _ _ _ h _ => h) (fun _ h => h) ?_
  refine xj_aload_n X 0 dX7_insertCard_11 rfl rfl ?_
  refine xj_get X x_IW.P inG_X7 0 (wX_at0 ad cA x1_8) rfl 1 (by decide) mk1_208 (.ref (ad 3)) rfl dX7_insertCard_12 ?_
  refine xj_roI (r := b2i (fX2_isBroken x1_8)) (rest := []) (fun _ h => h) (x_runV X (ctX2_isBroken l D cA ad x1_8 _ rfl) (x_cwV X kwX2_isBroken mk2_33 rfl rfl ⟨Nat.le_of_ble_eq_true rfl, Nat.le_of_ble_eq_true rfl⟩) x_IW.P 3 (wX_at3 ad cA x1_8) rfl rfl rfl (Nat.le_of_ble_eq_true rfl) dX7_insertCard_15 ⟨Nat.zero_le _, Nat.zero_le _⟩) ?_
  refine xj_if_ne (tgt := 31) X dX7_insertCard_18 rfl hf (fun hf => ?_) (fun hf => ?_)
  · refine xj_bipush (x := (-2 : Int32)) X dX7_insertCard_31 rfl ?_
    exact xj_iret_wr X hr (x_2a hf) (congrArg (wX ad cA) (x_2b hf)) dX7_insertCard_33
  · refine xj_aload_n X 0 dX7_insertCard_21 rfl rfl ?_
    refine xj_get X x_IW.P inG_X7 0 (wX_at0 ad cA x1_8) rfl 4 (by decide) mk1_211 (.ref (ad 21)) rfl dX7_insertCard_22 ?_
    refine xj_roI (r := b2i (fX6_isPending x1_8)) (rest := []) (fun _ h => h) (x_runV X (ctX6_isPending l D cA ad x1_8 _ rfl) (x_cwV X kwX6_isPending mk2_70 rfl rfl ⟨Nat.le_of_ble_eq_true rfl, Nat.le_of_ble_eq_true rfl⟩) x_IW.P 21 (wX_at21 ad cA x1_8) rfl rfl rfl (Nat.le_of_ble_eq_true rfl) dX7_insertCard_25 ⟨Nat.zero_le _, Nat.zero_le _⟩) ?_
    refine xj_if_eq (tgt := 34) X dX7_insertCard_28 rfl hf (fun hf => ?_) (fun hf => ?_)
    · refine xj_aload_n X 0 dX7_insertCard_34 rfl rfl ?_
      refine xj_get X x_IW.P inG_X7 0 (wX_at0 ad cA x1_8) rfl 1 (by decide) mk1_208 (.ref (ad 3)) rfl dX7_insertCard_35 ?_
      obtain ⟨x2_38, hx2_38, hf⟩ := x_bind hf
      refine xj_roI (r := x2_38) (rest := []) (fun _ h => h) (x_runV X (ctX2_applicationCount l D cA ad x1_8 _ hx2_38) (x_cwV X kwX2_applicationCount mk2_75 rfl rfl ⟨Nat.le_of_ble_eq_true rfl, Nat.le_of_ble_eq_true rfl⟩) x_IW.P 3 (wX_at3 ad cA x1_8) rfl rfl rfl (Nat.le_of_ble_eq_true rfl) dX7_insertCard_38 ⟨Nat.zero_le _, Nat.zero_le _⟩) ?_
      refine xj_bipush (x := (6 : Int32)) X dX7_insertCard_41 rfl ?_
      refine xj_icmp_le (tgt := 49) X dX7_insertCard_43 rfl hf (fun hf => ?_) (fun hf => ?_)
      · refine xj_aload_n X 0 dX7_insertCard_49 rfl rfl ?_
        refine xj_get X x_IW.P inG_X7 0 (wX_at0 ad cA x1_8) rfl 2 (by decide) mk1_209 (.ref (ad 9)) rfl dX7_insertCard_50 ?_
        obtain ⟨x3_53, hx3_53, hf⟩ := x_bind hf
        refine xj_wrV (rest := []) (x_runV X (ctX1_renew l D cA hj x1_8 x3_53 hx3_53) (x_cwV X kwX1_renew mk2_87 rfl rfl ⟨Nat.le_of_ble_eq_true rfl, Nat.le_of_ble_eq_true rfl⟩) x_IW.P 9 (wX_at9 ad cA x1_8) rfl rfl rfl (Nat.le_of_ble_eq_true rfl) dX7_insertCard_53 ⟨Nat.zero_le _, Nat.zero_le _⟩) (fun _ _ _ h _ => h) (fun _ h => h) ?_
        refine xj_aload_n X 0 dX7_insertCard_56 rfl rfl ?_
        refine xj_get X x_IW.P inG_X7 0 (wX_at0 ad cA x3_53) rfl 2 (by decide) mk1_209 (.ref (ad 9)) rfl dX7_insertCard_57 ?_
        refine xj_aload_n X 0 dX7_insertCard_60 rfl rfl ?_
        refine xj_get X x_IW.P inG_X7 0 (wX_at0 ad cA x3_53) rfl 1 (by decide) mk1_208 (.ref (ad 3)) rfl dX7_insertCard_61 ?_
        refine xj_aload_n X 0 dX7_insertCard_64 rfl rfl ?_
        refine xj_get X x_IW.P inG_X7 0 (wX_at0 ad cA x3_53) rfl 0 (by decide) mk1_207 (.ref (ad 1)) rfl dX7_insertCard_65 ?_
        obtain ⟨x4_68, hx4_68, hf⟩ := x_bind hf
        refine xj_wrV (rest := []) (x_runV X (ctX1_readApplications l D cA hj x3_53 x4_68 hx4_68) (x_cwV X kwX1_readApplications mk2_92 rfl rfl ⟨Nat.le_of_ble_eq_true rfl, Nat.le_of_ble_eq_true rfl⟩) x_IW.P 9 (wX_at9 ad cA x3_53) rfl rfl rfl (Nat.le_of_ble_eq_true rfl) dX7_insertCard_68 ⟨Nat.zero_le _, Nat.zero_le _⟩) (fun _ _ _ h _ => h) (fun _ h => h) ?_
        refine xj_aload_n X 0 dX7_insertCard_71 rfl rfl ?_
        refine xj_get X x_IW.P inG_X7 0 (wX_at0 ad cA x4_68) rfl 2 (by decide) mk1_209 (.ref (ad 9)) rfl dX7_insertCard_72 ?_
        refine xj_get X x_IW.P inG_X1 9 (wX_at9 ad cA x4_68) rfl 0 (by decide) mk1_104 (.ref (ad 10)) rfl dX7_insertCard_75 ?_
        refine xj_get X x_IW.P inG_X3 10 (wX_at10 ad cA x4_68) rfl 1 (by decide) mk1_94 (.int (x4_68 10 1)) rfl dX7_insertCard_78 ?_
        exact xj_iret_wr X hr (x_2a hf) (congrArg (wX ad cA) (x_2b hf)) dX7_insertCard_81
      · refine xj_bipush (x := (-3 : Int32)) X dX7_insertCard_46 rfl ?_
        exact xj_iret_wr X hr (x_2a hf) (congrArg (wX ad cA) (x_2b hf)) dX7_insertCard_48
    · refine xj_bipush (x := (-2 : Int32)) X dX7_insertCard_31 rfl ?_
      exact xj_iret_wr X hr (x_2a hf) (congrArg (wX ad cA) (x_2b hf)) dX7_insertCard_33
set_option maxHeartbeats 4000000 in
set_option maxRecDepth 100000 in
theorem ctX1_hasApplication (l : Launch) (D : va_G) (cA : ClassId) (ad : Nat → Nat) (σ : x_M) (p1 : Int32) (r0 : Bool) (hf : fX1_hasApplication σ p1 = r0) : Met l yX1_hasApplication zX1_hasApplication ({ frames := 0, cells := 0, slots := 0, locals := 0 } : Room) (x_P D cA [.ref (ad 9), .int p1] (wX ad cA σ)) (x_R (some (.int (b2i r0)))) 0 0 (fun _ => False) := by
  refine x_met (cc := cX1_hasApplication) (maxL := 2) (ret := (some .boolean)) RX1 rfl (by decide) rfl [(0, .ref (ad 9)), (1, .int p1)] rfl (Nat.le_of_ble_eq_true rfl) ?_
  intro p e s m args below meth c hr X
  rw [fX1_hasApplication] at hf
  refine xj_iload_n X 1 dX1_hasApplication_0 rfl rfl ?_
  refine xj_if_lt (tgt := 19) X dX1_hasApplication_1 rfl hf (fun hf => ?_) (fun hf => ?_)
  · refine xj_iconst (x := (0 : Int32)) X dX1_hasApplication_19 rfl ?_
    exact xj_zret_ro X hr (x_b2i hf) dX1_hasApplication_20
  · refine xj_iload_n X 1 dX1_hasApplication_4 rfl rfl ?_
    refine xj_aload_n X 0 dX1_hasApplication_5 rfl rfl ?_
    refine xj_get X x_IR.P inG_X1 9 (wX_at9 ad cA σ) rfl 0 (by decide) mk1_103 (.ref (ad 10)) rfl dX1_hasApplication_6 ?_
    refine xj_get X x_IR.P inG_X3 10 (wX_at10 ad cA σ) rfl 1 (by decide) mk1_92 (.int (σ 10 1)) rfl dX1_hasApplication_9 ?_
    refine xj_icmp_ge (tgt := 19) X dX1_hasApplication_12 rfl hf (fun hf => ?_) (fun hf => ?_)
    · refine xj_iconst (x := (0 : Int32)) X dX1_hasApplication_19 rfl ?_
      exact xj_zret_ro X hr (x_b2i hf) dX1_hasApplication_20
    · refine xj_iconst (x := (1 : Int32)) X dX1_hasApplication_15 rfl ?_
      refine xj_goto (tgt := 20) X dX1_hasApplication_16 rfl ?_
      exact xj_zret_ro X hr (x_b2i hf) dX1_hasApplication_20
set_option maxHeartbeats 4000000 in
set_option maxRecDepth 100000 in
theorem ctX1_priority (l : Launch) (D : va_G) (cA : ClassId) (ad : Nat → Nat) (σ : x_M) (p1 : Int32) (r0 : Int32) (hf : fX1_priority σ p1 = r0) : Met l yX1_priority zX1_priority ({ frames := 1, cells := 0, slots := 0, locals := 21 } : Room) (x_P D cA [.ref (ad 9), .int p1] (wX ad cA σ)) (x_R (some (.int r0))) 0 0 (fun _ => False) := by
  refine x_met (cc := cX1_priority) (maxL := 2) (ret := (some .int)) RX1 rfl (by decide) rfl [(0, .ref (ad 9)), (1, .int p1)] rfl (Nat.le_of_ble_eq_true rfl) ?_
  intro p e s m args below meth c hr X
  rw [fX1_priority] at hf
  refine xj_aload_n X 0 dX1_priority_0 rfl rfl ?_
  refine xj_get X x_IR.P inG_X1 9 (wX_at9 ad cA σ) rfl 5 (by decide) mk1_113 (.ref (ad 14)) rfl dX1_priority_1 ?_
  refine xj_iload_n X 1 dX1_priority_4 rfl rfl ?_
  refine xj_roI (r := x_at 6 (σ 14) p1) (rest := []) (fun _ h => h) (x_runSN X (c_at l D cA (wX_at14 ad cA σ) (by decide) p1) (x_cwN X kwX7_at x_nest_13 rfl rfl ⟨Nat.le_of_ble_eq_true rfl, Nat.le_of_ble_eq_true rfl⟩) x_IR.P rfl rfl (Nat.le_of_ble_eq_true rfl) dX1_priority_5 ⟨Nat.zero_le _, Nat.zero_le _⟩) ?_
  refine xj_bipush (x := (15 : Int32)) X dX1_priority_8 rfl ?_
  refine xj_iand X dX1_priority_10 ?_
  exact xj_iret_ro X hr hf dX1_priority_11
set_option maxHeartbeats 4000000 in
set_option maxRecDepth 100000 in
theorem ctX7_priorityOf (l : Launch) (D : va_G) (cA : ClassId) (ad : Nat → Nat) (σ : x_M) (p1 : Int32) (r0 : Int32) (hf : fX7_priorityOf σ p1 = r0) : Met l yX7_priorityOf zX7_priorityOf ({ frames := 2, cells := 0, slots := 0, locals := 42 } : Room) (x_P D cA [.ref (ad 0), .int p1] (wX ad cA σ)) (x_R (some (.int r0))) 0 0 (fun _ => False) := by
  refine x_met (cc := cX7_priorityOf) (maxL := 2) (ret := (some .int)) RX7 rfl (by decide) rfl [(0, .ref (ad 0)), (1, .int p1)] rfl (Nat.le_of_ble_eq_true rfl) ?_
  intro p e s m args below meth c hr X
  rw [fX7_priorityOf] at hf
  refine xj_aload_n X 0 dX7_priorityOf_0 rfl rfl ?_
  refine xj_get X x_IR.P inG_X7 0 (wX_at0 ad cA σ) rfl 2 (by decide) mk1_209 (.ref (ad 9)) rfl dX7_priorityOf_1 ?_
  refine xj_iload_n X 1 dX7_priorityOf_4 rfl rfl ?_
  refine xj_roI (r := b2i (fX1_hasApplication σ p1)) (rest := []) (fun _ h => h) (x_runV X (ctX1_hasApplication l D cA ad σ p1 _ rfl) (x_cwV X kwX1_hasApplication mk2_116 rfl rfl ⟨Nat.le_of_ble_eq_true rfl, Nat.le_of_ble_eq_true rfl⟩) x_IR.P 9 (wX_at9 ad cA σ) rfl rfl rfl (Nat.le_of_ble_eq_true rfl) dX7_priorityOf_5 ⟨Nat.zero_le _, Nat.zero_le _⟩) ?_
  refine xj_if_ne (tgt := 13) X dX7_priorityOf_8 rfl hf (fun hf => ?_) (fun hf => ?_)
  · refine xj_aload_n X 0 dX7_priorityOf_13 rfl rfl ?_
    refine xj_get X x_IR.P inG_X7 0 (wX_at0 ad cA σ) rfl 2 (by decide) mk1_209 (.ref (ad 9)) rfl dX7_priorityOf_14 ?_
    refine xj_iload_n X 1 dX7_priorityOf_17 rfl rfl ?_
    refine xj_roI (r := fX1_priority σ p1) (rest := []) (fun _ h => h) (x_runV X (ctX1_priority l D cA ad σ p1 _ rfl) (x_cwV X kwX1_priority mk2_120 rfl rfl ⟨Nat.le_of_ble_eq_true rfl, Nat.le_of_ble_eq_true rfl⟩) x_IR.P 9 (wX_at9 ad cA σ) rfl rfl rfl (Nat.le_of_ble_eq_true rfl) dX7_priorityOf_18 ⟨Nat.zero_le _, Nat.zero_le _⟩) ?_
    exact xj_iret_ro X hr hf dX7_priorityOf_21
  · refine xj_iconst (x := (-1 : Int32)) X dX7_priorityOf_11 rfl ?_
    exact xj_iret_ro X hr hf dX7_priorityOf_12
set_option maxHeartbeats 4000000 in
set_option maxRecDepth 100000 in
theorem ctX7_replaceCode_13 (l : Launch) (D : va_G) (cA : ClassId) {ad : Nat → Nat} (hj : x_inj 26 ad) (σ : x_M) (p1 : Int32) (p2 : Int32) (r0 : Int32) (σ0 : x_M) (hf : fX7_replaceCode_13 σ p1 p2 = some (r0, σ0)) : Met l yX7_replaceCode zX7_replaceCode ({ frames := 1, cells := 0, slots := 0, locals := 22 } : Room) (x_P D cA [.ref (ad 13), .int p1, .int p2] (wX ad cA σ)) (x_U D (some (.int r0)) (wX ad cA σ0) (x_A 26 ad)) 0 0 (x_A 26 ad) := by
  refine x_met (cc := cX7_replaceCode) (maxL := 4) (ret := (some .int)) RX7 rfl (by decide) rfl [(0, .ref (ad 13)), (1, .int p1), (2, .int p2)] rfl (Nat.le_of_ble_eq_true rfl) ?_
  intro p e s m args below meth c hr X
  refine xj_w (A := x_A 26 ad) ?_
  rw [fX7_replaceCode_13] at hf
  refine xj_iload_n X 1 dX7_replaceCode_0 rfl rfl ?_
  refine xj_if_lt (tgt := 19) X dX7_replaceCode_1 rfl hf (fun hf => ?_) (fun hf => ?_)
  · refine xj_iconst (x := (-1 : Int32)) X dX7_replaceCode_19 rfl ?_
    exact xj_iret_wr X hr (x_2a hf) (congrArg (wX ad cA) (x_2b hf)) dX7_replaceCode_20
  · refine xj_iload_n X 1 dX7_replaceCode_4 rfl rfl ?_
    refine xj_iconst (x := (3 : Int32)) X dX7_replaceCode_5 rfl ?_
    refine xj_icmp_ge (tgt := 19) X dX7_replaceCode_6 rfl hf (fun hf => ?_) (fun hf => ?_)
    · refine xj_iconst (x := (-1 : Int32)) X dX7_replaceCode_19 rfl ?_
      exact xj_iret_wr X hr (x_2a hf) (congrArg (wX ad cA) (x_2b hf)) dX7_replaceCode_20
    · refine xj_iload_n X 2 dX7_replaceCode_9 rfl rfl ?_
      refine xj_if_lt (tgt := 19) X dX7_replaceCode_10 rfl hf (fun hf => ?_) (fun hf => ?_)
      · refine xj_iconst (x := (-1 : Int32)) X dX7_replaceCode_19 rfl ?_
        exact xj_iret_wr X hr (x_2a hf) (congrArg (wX ad cA) (x_2b hf)) dX7_replaceCode_20
      · refine xj_iload_n X 2 dX7_replaceCode_13 rfl rfl ?_
        refine xj_bipush (x := (127 : Int32)) X dX7_replaceCode_14 rfl ?_
        refine xj_icmp_le (tgt := 21) X dX7_replaceCode_16 rfl hf (fun hf => ?_) (fun hf => ?_)
        · refine xj_aload_n X 0 dX7_replaceCode_21 rfl rfl ?_
          refine xj_iload_n X 1 dX7_replaceCode_22 rfl rfl ?_
          refine xj_roI (r := x_at 3 (σ 13) p1) (rest := []) (fun _ h => h) (x_runS X (c_at l D cA (wX_at13 ad cA σ) (by decide) p1) (x_cwS X kwX7_at mk2_49 rfl rfl ⟨Nat.le_of_ble_eq_true rfl, Nat.le_of_ble_eq_true rfl⟩) x_IW.P rfl rfl (Nat.le_of_ble_eq_true rfl) dX7_replaceCode_23 ⟨Nat.zero_le _, Nat.zero_le _⟩) ?_
          refine xj_istore_n (lv' := [(3, .int (x_at 3 (σ 13) p1)), (0, .ref (ad 13)), (1, .int p1), (2, .int p2)]) X dX7_replaceCode_26 rfl (Nat.le_of_ble_eq_true rfl) rfl ?_
          refine xj_sub [1, 2, 3, 0] rfl ?_
          refine xj_aload_n X 0 dX7_replaceCode_27 rfl rfl ?_
          refine xj_iload_n X 1 dX7_replaceCode_28 rfl rfl ?_
          refine xj_iload_n X 2 dX7_replaceCode_29 rfl rfl ?_
          refine xj_wrV (rest := []) (x_runS X (c_put l D cA (wX_D hj cA _) (wX_at13 ad cA σ) (by decide) p1 p2 (wX_pu13 ad cA σ p1 p2)) (x_cwS X kwX7_put mk2_131 rfl rfl ⟨Nat.le_of_ble_eq_true rfl, Nat.le_of_ble_eq_true rfl⟩) x_IW.P rfl rfl (Nat.le_of_ble_eq_true rfl) dX7_replaceCode_30 ⟨Nat.zero_le _, Nat.zero_le _⟩) (fun _ _ _ h _ => h) (fun _ h => h) ?_
          refine xj_iload_n X 3 dX7_replaceCode_33 rfl rfl ?_
          exact xj_iret_wr X hr (x_2a hf) (congrArg (wX ad cA) (x_2b hf)) dX7_replaceCode_34
        · refine xj_iconst (x := (-1 : Int32)) X dX7_replaceCode_19 rfl ?_
          exact xj_iret_wr X hr (x_2a hf) (congrArg (wX ad cA) (x_2b hf)) dX7_replaceCode_20
set_option maxHeartbeats 4000000 in
set_option maxRecDepth 100000 in
theorem ctX7_setIssuerCode (l : Launch) (D : va_G) (cA : ClassId) {ad : Nat → Nat} (hj : x_inj 26 ad) (σ : x_M) (p1 : Int32) (p2 : Int32) (r0 : Int32) (σ0 : x_M) (hf : fX7_setIssuerCode σ p1 p2 = some (r0, σ0)) : Met l yX7_setIssuerCode zX7_setIssuerCode ({ frames := 2, cells := 0, slots := 0, locals := 45 } : Room) (x_P D cA [.ref (ad 0), .int p1, .int p2] (wX ad cA σ)) (x_U D (some (.int r0)) (wX ad cA σ0) (x_A 26 ad)) 0 0 (x_A 26 ad) := by
  refine x_met (cc := cX7_setIssuerCode) (maxL := 3) (ret := (some .int)) RX7 rfl (by decide) rfl [(0, .ref (ad 0)), (1, .int p1), (2, .int p2)] rfl (Nat.le_of_ble_eq_true rfl) ?_
  intro p e s m args below meth c hr X
  refine xj_w (A := x_A 26 ad) ?_
  rw [fX7_setIssuerCode] at hf
  refine xj_aload_n X 0 dX7_setIssuerCode_0 rfl rfl ?_
  refine xj_get X x_IW.P inG_X7 0 (wX_at0 ad cA σ) rfl 2 (by decide) mk1_209 (.ref (ad 9)) rfl dX7_setIssuerCode_1 ?_
  refine xj_get X x_IW.P inG_X1 9 (wX_at9 ad cA σ) rfl 1 (by decide) mk1_106 (.ref (ad 13)) rfl dX7_setIssuerCode_4 ?_
  refine xj_iload_n X 1 dX7_setIssuerCode_7 rfl rfl ?_
  refine xj_iload_n X 2 dX7_setIssuerCode_8 rfl rfl ?_
  obtain ⟨x1_9, hx1_9, hf⟩ := x_bind hf
  refine xj_wrI (r := x1_9.1) (rest := []) (x_runS X (ctX7_replaceCode_13 l D cA hj σ p1 p2 x1_9.1 x1_9.2 hx1_9) (x_cwS X kwX7_replaceCode mk2_128 rfl rfl ⟨Nat.le_of_ble_eq_true rfl, Nat.le_of_ble_eq_true rfl⟩) x_IW.P rfl rfl (Nat.le_of_ble_eq_true rfl) dX7_setIssuerCode_9 ⟨Nat.zero_le _, Nat.zero_le _⟩) (fun _ _ _ h _ => h) (fun _ h => h) ?_
  exact xj_iret_wr X hr (x_2a hf) (congrArg (wX ad cA) (x_2b hf)) dX7_setIssuerCode_12
set_option maxHeartbeats 4000000 in
set_option maxRecDepth 100000 in
theorem ctX3_add_16 (l : Launch) (D : va_G) (cA : ClassId) {ad : Nat → Nat} (hj : x_inj 26 ad) (σ : x_M) (p2 : Int32) (p3 : Int32) (σ0 : x_M) (hf : fX3_add_16 σ p2 p3 = some σ0) : Met l yX3_add zX3_add ({ frames := 1, cells := 0, slots := 0, locals := 22 } : Room) (x_P D cA [.ref (ad 16), .ref (ad 1), .int p2, .int p3] (wX ad cA σ)) (x_U D none (wX ad cA σ0) (x_A 26 ad)) 0 0 (x_A 26 ad) := by
  refine x_met (cc := cX3_add) (maxL := 5) (ret := none) RX3 rfl (by decide) rfl [(0, .ref (ad 16)), (1, .ref (ad 1)), (2, .int p2), (3, .int p3)] rfl (Nat.le_of_ble_eq_true rfl) ?_
  intro p e s m args below meth c hr X
  have B_19 : ∀ (n : Nat) (σ : x_M) (v2 : Int32) (v3 : Int32) (v4 : Int32), fX3_add_16_19 n σ v2 v3 v4 = some σ0 → x_J 5 p l e ({ frames := 1, cells := 0, slots := 0, locals := 22 } : Room) s m args below meth c 0 0 (x_IW D s (x_A 26 ad) (wX ad cA σ)) (MQ below (x_U D none (wX ad cA σ0) (x_A 26 ad)) args s 0 0 (x_A 26 ad)) 19 [(0, .ref (ad 16)), (1, .ref (ad 1)), (2, .int v2), (3, .int v3), (4, .int v4)] [] := by
    intro n
    induction n with
    | zero => intro σ v2 v3 v4 hf; rw [fX3_add_16_19] at hf; cases hf
    | succ n ih =>
      intro σ v2 v3 v4 hf
      rw [fX3_add_16_19] at hf
      refine xj_iload X 4 dX3_add_19 rfl ?_
      refine xj_iload_n X 3 dX3_add_21 rfl rfl ?_
      refine xj_icmp_ge (tgt := 59) X dX3_add_22 rfl hf (fun hf => ?_) (fun hf => ?_)
      · refine xj_aload_n X 0 dX3_add_59 rfl rfl ?_
        refine xj_get X x_IW.P inG_X3 16 (wX_at16 ad cA σ) rfl 0 (by decide) mk1_89 (.ref (ad 17)) rfl dX3_add_60 ?_
        refine xj_aload_n X 0 dX3_add_63 rfl rfl ?_
        refine xj_get X x_IW.P inG_X3 16 (wX_at16 ad cA σ) rfl 1 (by decide) mk1_91 (.int (σ 16 1)) rfl dX3_add_64 ?_
        refine xj_iload_n X 3 dX3_add_67 rfl rfl ?_
        refine xj_wrV (rest := []) (x_runSN X (c_put l D cA (wX_D hj cA _) (wX_at17 ad cA σ) (by decide) (σ 16 1) v3 (wX_pu17 ad cA σ (σ 16 1) v3)) (x_cwN X kwX7_put x_nest_15 rfl rfl ⟨Nat.le_of_ble_eq_true rfl, Nat.le_of_ble_eq_true rfl⟩) x_IW.P rfl rfl (Nat.le_of_ble_eq_true rfl) dX3_add_68 ⟨Nat.zero_le _, Nat.zero_le _⟩) (fun _ _ _ h _ => h) (fun _ h => h) ?_
        refine xj_aload_n X 0 dX3_add_71 rfl rfl ?_
        refine xj_dup X dX3_add_72 rfl ?_
        refine xj_get X x_IW.P inG_X3 16 (wX_at16 ad cA (pu σ 17 6 (σ 16 1) v3)) rfl 1 (by decide) mk1_91 (.int (σ 16 1)) rfl dX3_add_73 ?_
        refine xj_iconst (x := (1 : Int32)) X dX3_add_76 rfl ?_
        refine xj_iadd X dX3_add_77 ?_
        refine xj_put X (wX_D hj cA _) inG_X3 tyX3_ok nmX3 16 (wX_at16 ad cA (pu σ 17 6 (σ 16 1) v3)) rfl 1 (by decide) mk1_91 rfl .int rfl rfl rfl (Nat.le_of_ble_eq_true rfl) (wX_st16_1 ad cA (pu σ 17 6 (σ 16 1) v3) ((σ 16 1) + ((1 : Int32)))) dX3_add_78 ?_
        exact xj_vret_wr X hr (congrArg (wX ad cA) (x_1 hf)) dX3_add_81
      · refine xj_aload_n X 0 dX3_add_25 rfl rfl ?_
        refine xj_get X x_IW.P inG_X3 16 (wX_at16 ad cA σ) rfl 2 (by decide) mk1_95 (.ref (ad 18)) rfl dX3_add_26 ?_
        refine xj_aload_n X 0 dX3_add_29 rfl rfl ?_
        refine xj_get X x_IW.P inG_X3 16 (wX_at16 ad cA σ) rfl 1 (by decide) mk1_91 (.int (σ 16 1)) rfl dX3_add_30 ?_
        refine xj_bipush (x := (16 : Int32)) X dX3_add_33 rfl ?_
        refine xj_imul X dX3_add_35 ?_
        refine xj_iload X 4 dX3_add_36 rfl ?_
        refine xj_iadd X dX3_add_38 ?_
        refine xj_aload_n X 1 dX3_add_39 rfl rfl ?_
        refine xj_get X x_IW.P inG_X0 1 (wX_at1 ad cA σ) rfl 0 (by decide) mk1_25 (.ref (ad 2)) rfl dX3_add_40 ?_
        refine xj_iload_n X 2 dX3_add_43 rfl rfl ?_
        refine xj_iload X 4 dX3_add_44 rfl ?_
        refine xj_iadd X dX3_add_46 ?_
        refine xj_roI (r := x_at 120 (σ 2) (v2 + v4)) (rest := [.int (((σ 16 1) * ((16 : Int32))) + v4), .ref (ad 18)]) (fun _ h => h) (x_runSN X (c_at l D cA (wX_at2 ad cA σ) (by decide) (v2 + v4)) (x_cwN X kwX7_at x_nest_14 rfl rfl ⟨Nat.le_of_ble_eq_true rfl, Nat.le_of_ble_eq_true rfl⟩) x_IW.P rfl rfl (Nat.le_of_ble_eq_true rfl) dX3_add_47 ⟨Nat.zero_le _, Nat.zero_le _⟩) ?_
        refine xj_wrV (rest := []) (x_runSN X (c_put l D cA (wX_D hj cA _) (wX_at18 ad cA σ) (by decide) (((σ 16 1) * ((16 : Int32))) + v4) (x_at 120 (σ 2) (v2 + v4)) (wX_pu18 ad cA σ (((σ 16 1) * ((16 : Int32))) + v4) (x_at 120 (σ 2) (v2 + v4)))) (x_cwN X kwX7_put x_nest_15 rfl rfl ⟨Nat.le_of_ble_eq_true rfl, Nat.le_of_ble_eq_true rfl⟩) x_IW.P rfl rfl (Nat.le_of_ble_eq_true rfl) dX3_add_50 ⟨Nat.zero_le _, Nat.zero_le _⟩) (fun _ _ _ h _ => h) (fun _ h => h) ?_
        refine xj_iinc (y := v4 + (1 : Int32)) (lv' := [(4, .int (v4 + (1 : Int32))), (0, .ref (ad 16)), (1, .ref (ad 1)), (2, .int v2), (3, .int v3)]) X 4 dX3_add_53 rfl rfl (Nat.le_of_ble_eq_true rfl) rfl ?_
        refine xj_sub [1, 2, 3, 4, 0] rfl ?_
        refine xj_goto (tgt := 19) X dX3_add_56 rfl ?_
        exact ih (pu σ 18 96 (((σ 16 1) * ((16 : Int32))) + v4) (x_at 120 (σ 2) (v2 + v4))) v2 v3 (v4 + (1 : Int32)) hf
  refine xj_w (A := x_A 26 ad) ?_
  rw [fX3_add_16] at hf
  refine xj_aload_n X 0 dX3_add_0 rfl rfl ?_
  refine xj_get X x_IW.P inG_X3 16 (wX_at16 ad cA σ) rfl 1 (by decide) mk1_91 (.int (σ 16 1)) rfl dX3_add_1 ?_
  refine xj_bipush (x := (6 : Int32)) X dX3_add_4 rfl ?_
  refine xj_icmp_ge (tgt := 15) X dX3_add_6 rfl hf (fun hf => ?_) (fun hf => ?_)
  · exact xj_vret_wr X hr (congrArg (wX ad cA) (x_1 hf)) dX3_add_15
  · refine xj_iload_n X 3 dX3_add_9 rfl rfl ?_
    refine xj_bipush (x := (16 : Int32)) X dX3_add_10 rfl ?_
    refine xj_icmp_le (tgt := 16) X dX3_add_12 rfl hf (fun hf => ?_) (fun hf => ?_)
    · refine xj_iconst (x := (0 : Int32)) X dX3_add_16 rfl ?_
      refine xj_istore (lv' := [(4, .int ((0 : Int32))), (0, .ref (ad 16)), (1, .ref (ad 1)), (2, .int p2), (3, .int p3)]) X dX3_add_17 (Nat.le_of_ble_eq_true rfl) rfl ?_
      refine xj_sub [1, 2, 3, 4, 0] rfl ?_
      exact (B_19 x_fuel σ p2 p3 ((0 : Int32)) hf)
    · exact xj_vret_wr X hr (congrArg (wX ad cA) (x_1 hf)) dX3_add_15
set_option maxHeartbeats 4000000 in
set_option maxRecDepth 100000 in
theorem ctX5_support (l : Launch) (D : va_G) (cA : ClassId) {ad : Nat → Nat} (hj : x_inj 26 ad) (σ : x_M) (p2 : Bool) (σ0 : x_M) (hf : fX5_support σ p2 = some σ0) : Met l yX5_support zX5_support ({ frames := 2, cells := 0, slots := 0, locals := 46 } : Room) (x_P D cA [.ref (ad 15), .ref (ad 1), .int (b2i p2)] (wX ad cA σ)) (x_U D none (wX ad cA σ0) (x_A 26 ad)) 0 0 (x_A 26 ad) := by
  refine x_met (cc := cX5_support) (maxL := 3) (ret := none) RX5 rfl (by decide) rfl [(0, .ref (ad 15)), (1, .ref (ad 1)), (2, .int (b2i p2))] rfl (Nat.le_of_ble_eq_true rfl) ?_
  intro p e s m args below meth c hr X
  have B_20 : ∀ (σ : x_M) (w1 : Int32) (w2 : Int32), fX5_support_20 σ w1 w2 = some σ0 → x_J 3 p l e ({ frames := 2, cells := 0, slots := 0, locals := 46 } : Room) s m args below meth c 0 0 (x_IW D s (x_A 26 ad) (wX ad cA σ)) (MQ below (x_U D none (wX ad cA σ0) (x_A 26 ad)) args s 0 0 (x_A 26 ad)) 20 [(0, .ref (ad 15)), (1, .ref (ad 1))] [.int w2, .int w1, .ref (ad 20)] := by
    intro  σ w1 w2 hf
    rw [fX5_support_20] at hf
    refine xj_wrV (rest := []) (x_runSN X (c_put l D cA (wX_D hj cA _) (wX_at20 ad cA σ) (by decide) w1 w2 (wX_pu20 ad cA σ w1 w2)) (x_cwN X kwX7_put x_nest_16 rfl rfl ⟨Nat.le_of_ble_eq_true rfl, Nat.le_of_ble_eq_true rfl⟩) x_IW.P rfl rfl (Nat.le_of_ble_eq_true rfl) dX5_support_20 ⟨Nat.zero_le _, Nat.zero_le _⟩) (fun _ _ _ h _ => h) (fun _ h => h) ?_
    refine xj_aload_n X 0 dX5_support_23 rfl rfl ?_
    refine xj_get X x_IW.P inG_X5 15 (wX_at15 ad cA (pu σ 20 5 w1 w2)) rfl 0 (by decide) mk1_135 (.ref (ad 16)) rfl dX5_support_24 ?_
    refine xj_aload_n X 1 dX5_support_27 rfl rfl ?_
    refine xj_iconst (x := (0 : Int32)) X dX5_support_28 rfl ?_
    refine xj_aload_n X 1 dX5_support_29 rfl rfl ?_
    refine xj_get X x_IW.P inG_X0 1 (wX_at1 ad cA (pu σ 20 5 w1 w2)) rfl 1 (by decide) mk1_30 (.int (σ 1 1)) rfl dX5_support_30 ?_
    obtain ⟨x1_33, hx1_33, hf⟩ := x_bind hf
    refine xj_wrV (rest := []) (x_runV X (ctX3_add_16 l D cA hj (pu σ 20 5 w1 w2) ((0 : Int32)) (σ 1 1) x1_33 hx1_33) (x_cwV X kwX3_add mk2_141 rfl rfl ⟨Nat.le_of_ble_eq_true rfl, Nat.le_of_ble_eq_true rfl⟩) x_IW.P 16 (wX_at16 ad cA (pu σ 20 5 w1 w2)) rfl rfl rfl (Nat.le_of_ble_eq_true rfl) dX5_support_33 ⟨Nat.zero_le _, Nat.zero_le _⟩) (fun _ _ _ h _ => h) (fun _ h => h) ?_
    exact xj_vret_wr X hr (congrArg (wX ad cA) (x_1 hf)) dX5_support_36
  refine xj_w (A := x_A 26 ad) ?_
  rw [fX5_support] at hf
  refine xj_aload_n X 0 dX5_support_0 rfl rfl ?_
  refine xj_get X x_IW.P inG_X5 15 (wX_at15 ad cA σ) rfl 7 (by decide) mk1_149 (.ref (ad 20)) rfl dX5_support_1 ?_
  refine xj_aload_n X 0 dX5_support_4 rfl rfl ?_
  refine xj_get X x_IW.P inG_X5 15 (wX_at15 ad cA σ) rfl 0 (by decide) mk1_135 (.ref (ad 16)) rfl dX5_support_5 ?_
  refine xj_get X x_IW.P inG_X3 16 (wX_at16 ad cA σ) rfl 1 (by decide) mk1_93 (.int (σ 16 1)) rfl dX5_support_8 ?_
  refine xj_iload_n X 2 dX5_support_11 rfl rfl ?_
  refine xj_if_eq (tgt := 19) X dX5_support_12 rfl hf (fun hf => ?_) (fun hf => ?_)
  · refine xj_iconst (x := (0 : Int32)) X dX5_support_19 rfl ?_
    exact xj_sub [0, 1] rfl (B_20 σ (σ 16 1) ((0 : Int32)) hf)
  · refine xj_iconst (x := (1 : Int32)) X dX5_support_15 rfl ?_
    refine xj_goto (tgt := 20) X dX5_support_16 rfl ?_
    exact xj_sub [0, 1] rfl (B_20 σ (σ 16 1) ((1 : Int32)) hf)
set_option maxHeartbeats 4000000 in
set_option maxRecDepth 100000 in
theorem ctX7_addIdentifier (l : Launch) (D : va_G) (cA : ClassId) {ad : Nat → Nat} (hj : x_inj 26 ad) (σ : x_M) (p1 : Bool) (r0 : Int32) (σ0 : x_M) (hf : fX7_addIdentifier σ p1 = some (r0, σ0)) : Met l yX7_addIdentifier zX7_addIdentifier ({ frames := 3, cells := 0, slots := 0, locals := 68 } : Room) (x_P D cA [.ref (ad 0), .int (b2i p1)] (wX ad cA σ)) (x_U D (some (.int r0)) (wX ad cA σ0) (x_A 26 ad)) 0 0 (x_A 26 ad) := by
  refine x_met (cc := cX7_addIdentifier) (maxL := 2) (ret := (some .int)) RX7 rfl (by decide) rfl [(0, .ref (ad 0)), (1, .int (b2i p1))] rfl (Nat.le_of_ble_eq_true rfl) ?_
  intro p e s m args below meth c hr X
  refine xj_w (A := x_A 26 ad) ?_
  rw [fX7_addIdentifier] at hf
  refine xj_aload_n X 0 dX7_addIdentifier_0 rfl rfl ?_
  refine xj_get X x_IW.P inG_X7 0 (wX_at0 ad cA σ) rfl 0 (by decide) mk1_207 (.ref (ad 1)) rfl dX7_addIdentifier_1 ?_
  refine xj_get X x_IW.P inG_X0 1 (wX_at1 ad cA σ) rfl 1 (by decide) mk1_29 (.int (σ 1 1)) rfl dX7_addIdentifier_4 ?_
  refine xj_iconst (x := (5 : Int32)) X dX7_addIdentifier_7 rfl ?_
  refine xj_icmp_lt (tgt := 23) X dX7_addIdentifier_8 rfl hf (fun hf => ?_) (fun hf => ?_)
  · refine xj_bipush (x := (-2 : Int32)) X dX7_addIdentifier_23 rfl ?_
    exact xj_iret_wr X hr (x_2a hf) (congrArg (wX ad cA) (x_2b hf)) dX7_addIdentifier_25
  · refine xj_aload_n X 0 dX7_addIdentifier_11 rfl rfl ?_
    refine xj_get X x_IW.P inG_X7 0 (wX_at0 ad cA σ) rfl 0 (by decide) mk1_207 (.ref (ad 1)) rfl dX7_addIdentifier_12 ?_
    refine xj_get X x_IW.P inG_X0 1 (wX_at1 ad cA σ) rfl 1 (by decide) mk1_29 (.int (σ 1 1)) rfl dX7_addIdentifier_15 ?_
    refine xj_bipush (x := (16 : Int32)) X dX7_addIdentifier_18 rfl ?_
    refine xj_icmp_le (tgt := 26) X dX7_addIdentifier_20 rfl hf (fun hf => ?_) (fun hf => ?_)
    · refine xj_aload_n X 0 dX7_addIdentifier_26 rfl rfl ?_
      refine xj_get X x_IW.P inG_X7 0 (wX_at0 ad cA σ) rfl 3 (by decide) mk1_210 (.ref (ad 15)) rfl dX7_addIdentifier_27 ?_
      refine xj_get X x_IW.P inG_X5 15 (wX_at15 ad cA σ) rfl 0 (by decide) mk1_136 (.ref (ad 16)) rfl dX7_addIdentifier_30 ?_
      refine xj_get X x_IW.P inG_X3 16 (wX_at16 ad cA σ) rfl 1 (by decide) mk1_94 (.int (σ 16 1)) rfl dX7_addIdentifier_33 ?_
      refine xj_iconst (x := (5 : Int32)) X dX7_addIdentifier_36 rfl ?_
      refine xj_icmp_lt (tgt := 43) X dX7_addIdentifier_37 rfl hf (fun hf => ?_) (fun hf => ?_)
      · refine xj_aload_n X 0 dX7_addIdentifier_43 rfl rfl ?_
        refine xj_get X x_IW.P inG_X7 0 (wX_at0 ad cA σ) rfl 3 (by decide) mk1_210 (.ref (ad 15)) rfl dX7_addIdentifier_44 ?_
        refine xj_aload_n X 0 dX7_addIdentifier_47 rfl rfl ?_
        refine xj_get X x_IW.P inG_X7 0 (wX_at0 ad cA σ) rfl 0 (by decide) mk1_207 (.ref (ad 1)) rfl dX7_addIdentifier_48 ?_
        refine xj_iload_n X 1 dX7_addIdentifier_51 rfl rfl ?_
        obtain ⟨x1_52, hx1_52, hf⟩ := x_bind hf
        refine xj_wrV (rest := []) (x_runV X (ctX5_support l D cA hj σ p1 x1_52 hx1_52) (x_cwV X kwX5_support mk2_136 rfl rfl ⟨Nat.le_of_ble_eq_true rfl, Nat.le_of_ble_eq_true rfl⟩) x_IW.P 15 (wX_at15 ad cA σ) rfl rfl rfl (Nat.le_of_ble_eq_true rfl) dX7_addIdentifier_52 ⟨Nat.zero_le _, Nat.zero_le _⟩) (fun _ _ _ h _ => h) (fun _ h => h) ?_
        refine xj_aload_n X 0 dX7_addIdentifier_55 rfl rfl ?_
        refine xj_get X x_IW.P inG_X7 0 (wX_at0 ad cA x1_52) rfl 3 (by decide) mk1_210 (.ref (ad 15)) rfl dX7_addIdentifier_56 ?_
        refine xj_get X x_IW.P inG_X5 15 (wX_at15 ad cA x1_52) rfl 0 (by decide) mk1_136 (.ref (ad 16)) rfl dX7_addIdentifier_59 ?_
        refine xj_get X x_IW.P inG_X3 16 (wX_at16 ad cA x1_52) rfl 1 (by decide) mk1_94 (.int (x1_52 16 1)) rfl dX7_addIdentifier_62 ?_
        exact xj_iret_wr X hr (x_2a hf) (congrArg (wX ad cA) (x_2b hf)) dX7_addIdentifier_65
      · refine xj_bipush (x := (-3 : Int32)) X dX7_addIdentifier_40 rfl ?_
        exact xj_iret_wr X hr (x_2a hf) (congrArg (wX ad cA) (x_2b hf)) dX7_addIdentifier_42
    · refine xj_bipush (x := (-2 : Int32)) X dX7_addIdentifier_23 rfl ?_
      exact xj_iret_wr X hr (x_2a hf) (congrArg (wX ad cA) (x_2b hf)) dX7_addIdentifier_25
set_option maxHeartbeats 4000000 in
set_option maxRecDepth 100000 in
theorem ctX3_valueAt_16 (l : Launch) (D : va_G) (cA : ClassId) (ad : Nat → Nat) (σ : x_M) (p1 : Int32) (p2 : Int32) (r0 : Int32) (hf : fX3_valueAt_16 σ p1 p2 = r0) : Met l yX3_valueAt zX3_valueAt ({ frames := 1, cells := 0, slots := 0, locals := 21 } : Room) (x_P D cA [.ref (ad 16), .int p1, .int p2] (wX ad cA σ)) (x_R (some (.int r0))) 0 0 (fun _ => False) := by
  refine x_met (cc := cX3_valueAt) (maxL := 3) (ret := (some .int)) RX3 rfl (by decide) rfl [(0, .ref (ad 16)), (1, .int p1), (2, .int p2)] rfl (Nat.le_of_ble_eq_true rfl) ?_
  intro p e s m args below meth c hr X
  rw [fX3_valueAt_16] at hf
  refine xj_aload_n X 0 dX3_valueAt_0 rfl rfl ?_
  refine xj_get X x_IR.P inG_X3 16 (wX_at16 ad cA σ) rfl 2 (by decide) mk1_95 (.ref (ad 18)) rfl dX3_valueAt_1 ?_
  refine xj_iload_n X 1 dX3_valueAt_4 rfl rfl ?_
  refine xj_bipush (x := (16 : Int32)) X dX3_valueAt_5 rfl ?_
  refine xj_imul X dX3_valueAt_7 ?_
  refine xj_iload_n X 2 dX3_valueAt_8 rfl rfl ?_
  refine xj_iadd X dX3_valueAt_9 ?_
  refine xj_roI (r := x_at 96 (σ 18) ((p1 * ((16 : Int32))) + p2)) (rest := []) (fun _ h => h) (x_runSN X (c_at l D cA (wX_at18 ad cA σ) (by decide) ((p1 * ((16 : Int32))) + p2)) (x_cwN X kwX7_at x_nest_14 rfl rfl ⟨Nat.le_of_ble_eq_true rfl, Nat.le_of_ble_eq_true rfl⟩) x_IR.P rfl rfl (Nat.le_of_ble_eq_true rfl) dX3_valueAt_10 ⟨Nat.zero_le _, Nat.zero_le _⟩) ?_
  exact xj_iret_ro X hr hf dX3_valueAt_13
set_option maxHeartbeats 4000000 in
set_option maxRecDepth 100000 in
theorem ctX3_copyDown_16 (l : Launch) (D : va_G) (cA : ClassId) {ad : Nat → Nat} (hj : x_inj 26 ad) (σ : x_M) (p1 : Int32) (σ0 : x_M) (hf : fX3_copyDown_16 σ p1 = some σ0) : Met l yX3_copyDown zX3_copyDown ({ frames := 2, cells := 0, slots := 0, locals := 43 } : Room) (x_P D cA [.ref (ad 16), .int p1] (wX ad cA σ)) (x_U D none (wX ad cA σ0) (x_A 26 ad)) 0 0 (x_A 26 ad) := by
  refine x_met (cc := cX3_copyDown) (maxL := 3) (ret := none) RX3 rfl (by decide) rfl [(0, .ref (ad 16)), (1, .int p1)] rfl (Nat.le_of_ble_eq_true rfl) ?_
  intro p e s m args below meth c hr X
  have B_20 : ∀ (n : Nat) (σ : x_M) (v1 : Int32) (v2 : Int32), fX3_copyDown_16_20 n σ v1 v2 = some σ0 → x_J 3 p l e ({ frames := 2, cells := 0, slots := 0, locals := 43 } : Room) s m args below meth c 0 0 (x_IW D s (x_A 26 ad) (wX ad cA σ)) (MQ below (x_U D none (wX ad cA σ0) (x_A 26 ad)) args s 0 0 (x_A 26 ad)) 20 [(0, .ref (ad 16)), (1, .int v1), (2, .int v2)] [] := by
    intro n
    induction n with
    | zero => intro σ v1 v2 hf; rw [fX3_copyDown_16_20] at hf; cases hf
    | succ n ih =>
      intro σ v1 v2 hf
      rw [fX3_copyDown_16_20] at hf
      refine xj_iload_n X 2 dX3_copyDown_20 rfl rfl ?_
      refine xj_bipush (x := (16 : Int32)) X dX3_copyDown_21 rfl ?_
      refine xj_icmp_ge (tgt := 53) X dX3_copyDown_23 rfl hf (fun hf => ?_) (fun hf => ?_)
      · exact xj_vret_wr X hr (congrArg (wX ad cA) (x_1 hf)) dX3_copyDown_53
      · refine xj_aload_n X 0 dX3_copyDown_26 rfl rfl ?_
        refine xj_get X x_IW.P inG_X3 16 (wX_at16 ad cA σ) rfl 2 (by decide) mk1_95 (.ref (ad 18)) rfl dX3_copyDown_27 ?_
        refine xj_iload_n X 1 dX3_copyDown_30 rfl rfl ?_
        refine xj_bipush (x := (16 : Int32)) X dX3_copyDown_31 rfl ?_
        refine xj_imul X dX3_copyDown_33 ?_
        refine xj_iload_n X 2 dX3_copyDown_34 rfl rfl ?_
        refine xj_iadd X dX3_copyDown_35 ?_
        refine xj_aload_n X 0 dX3_copyDown_36 rfl rfl ?_
        refine xj_iload_n X 1 dX3_copyDown_37 rfl rfl ?_
        refine xj_iconst (x := (1 : Int32)) X dX3_copyDown_38 rfl ?_
        refine xj_iadd X dX3_copyDown_39 ?_
        refine xj_iload_n X 2 dX3_copyDown_40 rfl rfl ?_
        refine xj_roI (r := fX3_valueAt_16 σ (v1 + ((1 : Int32))) v2) (rest := [.int ((v1 * ((16 : Int32))) + v2), .ref (ad 18)]) (fun _ h => h) (x_runV X (ctX3_valueAt_16 l D cA ad σ (v1 + ((1 : Int32))) v2 _ rfl) (x_cwV X kwX3_valueAt mk2_159 rfl rfl ⟨Nat.le_of_ble_eq_true rfl, Nat.le_of_ble_eq_true rfl⟩) x_IW.P 16 (wX_at16 ad cA σ) rfl rfl rfl (Nat.le_of_ble_eq_true rfl) dX3_copyDown_41 ⟨Nat.zero_le _, Nat.zero_le _⟩) ?_
        refine xj_wrV (rest := []) (x_runSN X (c_put l D cA (wX_D hj cA _) (wX_at18 ad cA σ) (by decide) ((v1 * ((16 : Int32))) + v2) (fX3_valueAt_16 σ (v1 + ((1 : Int32))) v2) (wX_pu18 ad cA σ ((v1 * ((16 : Int32))) + v2) (fX3_valueAt_16 σ (v1 + ((1 : Int32))) v2))) (x_cwN X kwX7_put x_nest_15 rfl rfl ⟨Nat.le_of_ble_eq_true rfl, Nat.le_of_ble_eq_true rfl⟩) x_IW.P rfl rfl (Nat.le_of_ble_eq_true rfl) dX3_copyDown_44 ⟨Nat.zero_le _, Nat.zero_le _⟩) (fun _ _ _ h _ => h) (fun _ h => h) ?_
        refine xj_iinc (y := v2 + (1 : Int32)) (lv' := [(2, .int (v2 + (1 : Int32))), (0, .ref (ad 16)), (1, .int v1)]) X 2 dX3_copyDown_47 rfl rfl (Nat.le_of_ble_eq_true rfl) rfl ?_
        refine xj_sub [1, 2, 0] rfl ?_
        refine xj_goto (tgt := 20) X dX3_copyDown_50 rfl ?_
        exact ih (pu σ 18 96 ((v1 * ((16 : Int32))) + v2) (fX3_valueAt_16 σ (v1 + ((1 : Int32))) v2)) v1 (v2 + (1 : Int32)) hf
  refine xj_w (A := x_A 26 ad) ?_
  rw [fX3_copyDown_16] at hf
  refine xj_aload_n X 0 dX3_copyDown_0 rfl rfl ?_
  refine xj_get X x_IW.P inG_X3 16 (wX_at16 ad cA σ) rfl 0 (by decide) mk1_89 (.ref (ad 17)) rfl dX3_copyDown_1 ?_
  refine xj_iload_n X 1 dX3_copyDown_4 rfl rfl ?_
  refine xj_aload_n X 0 dX3_copyDown_5 rfl rfl ?_
  refine xj_get X x_IW.P inG_X3 16 (wX_at16 ad cA σ) rfl 0 (by decide) mk1_89 (.ref (ad 17)) rfl dX3_copyDown_6 ?_
  refine xj_iload_n X 1 dX3_copyDown_9 rfl rfl ?_
  refine xj_iconst (x := (1 : Int32)) X dX3_copyDown_10 rfl ?_
  refine xj_iadd X dX3_copyDown_11 ?_
  refine xj_roI (r := x_at 6 (σ 17) (p1 + ((1 : Int32)))) (rest := [.int p1, .ref (ad 17)]) (fun _ h => h) (x_runSN X (c_at l D cA (wX_at17 ad cA σ) (by decide) (p1 + ((1 : Int32)))) (x_cwN X kwX7_at x_nest_14 rfl rfl ⟨Nat.le_of_ble_eq_true rfl, Nat.le_of_ble_eq_true rfl⟩) x_IW.P rfl rfl (Nat.le_of_ble_eq_true rfl) dX3_copyDown_12 ⟨Nat.zero_le _, Nat.zero_le _⟩) ?_
  refine xj_wrV (rest := []) (x_runSN X (c_put l D cA (wX_D hj cA _) (wX_at17 ad cA σ) (by decide) p1 (x_at 6 (σ 17) (p1 + ((1 : Int32)))) (wX_pu17 ad cA σ p1 (x_at 6 (σ 17) (p1 + ((1 : Int32)))))) (x_cwN X kwX7_put x_nest_15 rfl rfl ⟨Nat.le_of_ble_eq_true rfl, Nat.le_of_ble_eq_true rfl⟩) x_IW.P rfl rfl (Nat.le_of_ble_eq_true rfl) dX3_copyDown_15 ⟨Nat.zero_le _, Nat.zero_le _⟩) (fun _ _ _ h _ => h) (fun _ h => h) ?_
  refine xj_iconst (x := (0 : Int32)) X dX3_copyDown_18 rfl ?_
  refine xj_istore_n (lv' := [(2, .int ((0 : Int32))), (0, .ref (ad 16)), (1, .int p1)]) X dX3_copyDown_19 rfl (Nat.le_of_ble_eq_true rfl) rfl ?_
  refine xj_sub [1, 2, 0] rfl ?_
  exact (B_20 x_fuel (pu σ 17 6 p1 (x_at 6 (σ 17) (p1 + ((1 : Int32))))) p1 ((0 : Int32)) hf)
set_option maxHeartbeats 4000000 in
set_option maxRecDepth 100000 in
theorem ctX3_drop_16 (l : Launch) (D : va_G) (cA : ClassId) {ad : Nat → Nat} (hj : x_inj 26 ad) (σ : x_M) (p1 : Int32) (σ0 : x_M) (hf : fX3_drop_16 σ p1 = some σ0) : Met l yX3_drop zX3_drop ({ frames := 3, cells := 0, slots := 0, locals := 65 } : Room) (x_P D cA [.ref (ad 16), .int p1] (wX ad cA σ)) (x_U D none (wX ad cA σ0) (x_A 26 ad)) 0 0 (x_A 26 ad) := by
  refine x_met (cc := cX3_drop) (maxL := 3) (ret := none) RX3 rfl (by decide) rfl [(0, .ref (ad 16)), (1, .int p1)] rfl (Nat.le_of_ble_eq_true rfl) ?_
  intro p e s m args below meth c hr X
  have B_15 : ∀ (n : Nat) (σ : x_M) (v2 : Int32), fX3_drop_16_15 n σ v2 = some σ0 → x_J 3 p l e ({ frames := 3, cells := 0, slots := 0, locals := 65 } : Room) s m args below meth c 0 0 (x_IW D s (x_A 26 ad) (wX ad cA σ)) (MQ below (x_U D none (wX ad cA σ0) (x_A 26 ad)) args s 0 0 (x_A 26 ad)) 15 [(0, .ref (ad 16)), (2, .int v2)] [] := by
    intro n
    induction n with
    | zero => intro σ v2 hf; rw [fX3_drop_16_15] at hf; cases hf
    | succ n ih =>
      intro σ v2 hf
      rw [fX3_drop_16_15] at hf
      refine xj_iload_n X 1 dX3_drop_15 rfl rfl ?_
      refine xj_aload_n X 0 dX3_drop_16 rfl rfl ?_
      refine xj_get X x_IW.P inG_X3 16 (wX_at16 ad cA σ) rfl 1 (by decide) mk1_91 (.int (σ 16 1)) rfl dX3_drop_17 ?_
      refine xj_iconst (x := (1 : Int32)) X dX3_drop_20 rfl ?_
      refine xj_isub X dX3_drop_21 ?_
      refine xj_icmp_ge (tgt := 36) X dX3_drop_22 rfl hf (fun hf => ?_) (fun hf => ?_)
      · refine xj_aload_n X 0 dX3_drop_36 rfl rfl ?_
        refine xj_dup X dX3_drop_37 rfl ?_
        refine xj_get X x_IW.P inG_X3 16 (wX_at16 ad cA σ) rfl 1 (by decide) mk1_91 (.int (σ 16 1)) rfl dX3_drop_38 ?_
        refine xj_iconst (x := (1 : Int32)) X dX3_drop_41 rfl ?_
        refine xj_isub X dX3_drop_42 ?_
        refine xj_put X (wX_D hj cA _) inG_X3 tyX3_ok nmX3 16 (wX_at16 ad cA σ) rfl 1 (by decide) mk1_91 rfl .int rfl rfl rfl (Nat.le_of_ble_eq_true rfl) (wX_st16_1 ad cA σ ((σ 16 1) - ((1 : Int32)))) dX3_drop_43 ?_
        exact xj_vret_wr X hr (congrArg (wX ad cA) (x_1 hf)) dX3_drop_46
      · refine xj_aload_n X 0 dX3_drop_25 rfl rfl ?_
        refine xj_iload_n X 1 dX3_drop_26 rfl rfl ?_
        obtain ⟨x1_27, hx1_27, hf⟩ := x_bind hf
        refine xj_wrV (rest := []) (x_runV X (ctX3_copyDown_16 l D cA hj σ v2 x1_27 hx1_27) (x_cwV X kwX3_copyDown mk2_155 rfl rfl ⟨Nat.le_of_ble_eq_true rfl, Nat.le_of_ble_eq_true rfl⟩) x_IW.P 16 (wX_at16 ad cA σ) rfl rfl rfl (Nat.le_of_ble_eq_true rfl) dX3_drop_27 ⟨Nat.zero_le _, Nat.zero_le _⟩) (fun _ _ _ h _ => h) (fun _ h => h) ?_
        refine xj_iinc (y := v2 + (1 : Int32)) (lv' := [(2, .int (v2 + (1 : Int32))), (0, .ref (ad 16))]) X 1 dX3_drop_30 rfl rfl (Nat.le_of_ble_eq_true rfl) rfl ?_
        refine xj_sub [1, 0] rfl ?_
        refine xj_goto (tgt := 15) X dX3_drop_33 rfl ?_
        exact ih x1_27 (v2 + (1 : Int32)) hf
  refine xj_w (A := x_A 26 ad) ?_
  rw [fX3_drop_16] at hf
  refine xj_iload_n X 1 dX3_drop_0 rfl rfl ?_
  refine xj_if_lt (tgt := 12) X dX3_drop_1 rfl hf (fun hf => ?_) (fun hf => ?_)
  · exact xj_vret_wr X hr (congrArg (wX ad cA) (x_1 hf)) dX3_drop_12
  · refine xj_iload_n X 1 dX3_drop_4 rfl rfl ?_
    refine xj_aload_n X 0 dX3_drop_5 rfl rfl ?_
    refine xj_get X x_IW.P inG_X3 16 (wX_at16 ad cA σ) rfl 1 (by decide) mk1_91 (.int (σ 16 1)) rfl dX3_drop_6 ?_
    refine xj_icmp_lt (tgt := 13) X dX3_drop_9 rfl hf (fun hf => ?_) (fun hf => ?_)
    · refine xj_iload_n X 1 dX3_drop_13 rfl rfl ?_
      refine xj_istore_n (lv' := [(2, .int p1), (0, .ref (ad 16)), (1, .int p1)]) X dX3_drop_14 rfl (Nat.le_of_ble_eq_true rfl) rfl ?_
      refine xj_sub [1, 2, 0] rfl ?_
      exact xj_sub [0, 2] rfl (B_15 x_fuel σ p1 hf)
    · exact xj_vret_wr X hr (congrArg (wX ad cA) (x_1 hf)) dX3_drop_12
set_option maxHeartbeats 4000000 in
set_option maxRecDepth 100000 in
theorem ctX5_dropSupport (l : Launch) (D : va_G) (cA : ClassId) {ad : Nat → Nat} (hj : x_inj 26 ad) (σ : x_M) (p1 : Int32) (σ0 : x_M) (hf : fX5_dropSupport σ p1 = some σ0) : Met l yX5_dropSupport zX5_dropSupport ({ frames := 4, cells := 0, slots := 0, locals := 87 } : Room) (x_P D cA [.ref (ad 15), .int p1] (wX ad cA σ)) (x_U D none (wX ad cA σ0) (x_A 26 ad)) 0 0 (x_A 26 ad) := by
  refine x_met (cc := cX5_dropSupport) (maxL := 3) (ret := none) RX5 rfl (by decide) rfl [(0, .ref (ad 15)), (1, .int p1)] rfl (Nat.le_of_ble_eq_true rfl) ?_
  intro p e s m args below meth c hr X
  have B_2 : ∀ (n : Nat) (σ : x_M) (v1 : Int32) (v2 : Int32), fX5_dropSupport_2 n σ v1 v2 = some σ0 → x_J 3 p l e ({ frames := 4, cells := 0, slots := 0, locals := 87 } : Room) s m args below meth c 0 0 (x_IW D s (x_A 26 ad) (wX ad cA σ)) (MQ below (x_U D none (wX ad cA σ0) (x_A 26 ad)) args s 0 0 (x_A 26 ad)) 2 [(0, .ref (ad 15)), (1, .int v1), (2, .int v2)] [] := by
    intro n
    induction n with
    | zero => intro σ v1 v2 hf; rw [fX5_dropSupport_2] at hf; cases hf
    | succ n ih =>
      intro σ v1 v2 hf
      rw [fX5_dropSupport_2] at hf
      refine xj_iload_n X 2 dX5_dropSupport_2 rfl rfl ?_
      refine xj_aload_n X 0 dX5_dropSupport_3 rfl rfl ?_
      refine xj_get X x_IW.P inG_X5 15 (wX_at15 ad cA σ) rfl 0 (by decide) mk1_135 (.ref (ad 16)) rfl dX5_dropSupport_4 ?_
      refine xj_get X x_IW.P inG_X3 16 (wX_at16 ad cA σ) rfl 1 (by decide) mk1_93 (.int (σ 16 1)) rfl dX5_dropSupport_7 ?_
      refine xj_iconst (x := (1 : Int32)) X dX5_dropSupport_10 rfl ?_
      refine xj_isub X dX5_dropSupport_11 ?_
      refine xj_icmp_ge (tgt := 39) X dX5_dropSupport_12 rfl hf (fun hf => ?_) (fun hf => ?_)
      · refine xj_aload_n X 0 dX5_dropSupport_39 rfl rfl ?_
        refine xj_get X x_IW.P inG_X5 15 (wX_at15 ad cA σ) rfl 0 (by decide) mk1_135 (.ref (ad 16)) rfl dX5_dropSupport_40 ?_
        refine xj_iload_n X 1 dX5_dropSupport_43 rfl rfl ?_
        obtain ⟨x1_44, hx1_44, hf⟩ := x_bind hf
        refine xj_wrV (rest := []) (x_runV X (ctX3_drop_16 l D cA hj σ v1 x1_44 hx1_44) (x_cwV X kwX3_drop mk2_151 rfl rfl ⟨Nat.le_of_ble_eq_true rfl, Nat.le_of_ble_eq_true rfl⟩) x_IW.P 16 (wX_at16 ad cA σ) rfl rfl rfl (Nat.le_of_ble_eq_true rfl) dX5_dropSupport_44 ⟨Nat.zero_le _, Nat.zero_le _⟩) (fun _ _ _ h _ => h) (fun _ h => h) ?_
        exact xj_vret_wr X hr (congrArg (wX ad cA) (x_1 hf)) dX5_dropSupport_47
      · refine xj_aload_n X 0 dX5_dropSupport_15 rfl rfl ?_
        refine xj_get X x_IW.P inG_X5 15 (wX_at15 ad cA σ) rfl 7 (by decide) mk1_149 (.ref (ad 20)) rfl dX5_dropSupport_16 ?_
        refine xj_iload_n X 2 dX5_dropSupport_19 rfl rfl ?_
        refine xj_aload_n X 0 dX5_dropSupport_20 rfl rfl ?_
        refine xj_get X x_IW.P inG_X5 15 (wX_at15 ad cA σ) rfl 7 (by decide) mk1_149 (.ref (ad 20)) rfl dX5_dropSupport_21 ?_
        refine xj_iload_n X 2 dX5_dropSupport_24 rfl rfl ?_
        refine xj_iconst (x := (1 : Int32)) X dX5_dropSupport_25 rfl ?_
        refine xj_iadd X dX5_dropSupport_26 ?_
        refine xj_roI (r := x_at 5 (σ 20) (v2 + ((1 : Int32)))) (rest := [.int v2, .ref (ad 20)]) (fun _ h => h) (x_runSN X (c_at l D cA (wX_at20 ad cA σ) (by decide) (v2 + ((1 : Int32)))) (x_cwN X kwX7_at x_nest_17 rfl rfl ⟨Nat.le_of_ble_eq_true rfl, Nat.le_of_ble_eq_true rfl⟩) x_IW.P rfl rfl (Nat.le_of_ble_eq_true rfl) dX5_dropSupport_27 ⟨Nat.zero_le _, Nat.zero_le _⟩) ?_
        refine xj_wrV (rest := []) (x_runSN X (c_put l D cA (wX_D hj cA _) (wX_at20 ad cA σ) (by decide) v2 (x_at 5 (σ 20) (v2 + ((1 : Int32)))) (wX_pu20 ad cA σ v2 (x_at 5 (σ 20) (v2 + ((1 : Int32)))))) (x_cwN X kwX7_put x_nest_16 rfl rfl ⟨Nat.le_of_ble_eq_true rfl, Nat.le_of_ble_eq_true rfl⟩) x_IW.P rfl rfl (Nat.le_of_ble_eq_true rfl) dX5_dropSupport_30 ⟨Nat.zero_le _, Nat.zero_le _⟩) (fun _ _ _ h _ => h) (fun _ h => h) ?_
        refine xj_iinc (y := v2 + (1 : Int32)) (lv' := [(2, .int (v2 + (1 : Int32))), (0, .ref (ad 15)), (1, .int v1)]) X 2 dX5_dropSupport_33 rfl rfl (Nat.le_of_ble_eq_true rfl) rfl ?_
        refine xj_sub [1, 2, 0] rfl ?_
        refine xj_goto (tgt := 2) X dX5_dropSupport_36 rfl ?_
        exact ih (pu σ 20 5 v2 (x_at 5 (σ 20) (v2 + ((1 : Int32))))) v1 (v2 + (1 : Int32)) hf
  refine xj_w (A := x_A 26 ad) ?_
  rw [fX5_dropSupport] at hf
  refine xj_iload_n X 1 dX5_dropSupport_0 rfl rfl ?_
  refine xj_istore_n (lv' := [(2, .int p1), (0, .ref (ad 15)), (1, .int p1)]) X dX5_dropSupport_1 rfl (Nat.le_of_ble_eq_true rfl) rfl ?_
  refine xj_sub [1, 2, 0] rfl ?_
  exact (B_2 x_fuel σ p1 p1 hf)
set_option maxHeartbeats 4000000 in
set_option maxRecDepth 100000 in
theorem ctX7_removeIdentifier (l : Launch) (D : va_G) (cA : ClassId) {ad : Nat → Nat} (hj : x_inj 26 ad) (σ : x_M) (p1 : Int32) (r0 : Int32) (σ0 : x_M) (hf : fX7_removeIdentifier σ p1 = some (r0, σ0)) : Met l yX7_removeIdentifier zX7_removeIdentifier ({ frames := 5, cells := 0, slots := 0, locals := 109 } : Room) (x_P D cA [.ref (ad 0), .int p1] (wX ad cA σ)) (x_U D (some (.int r0)) (wX ad cA σ0) (x_A 26 ad)) 0 0 (x_A 26 ad) := by
  refine x_met (cc := cX7_removeIdentifier) (maxL := 2) (ret := (some .int)) RX7 rfl (by decide) rfl [(0, .ref (ad 0)), (1, .int p1)] rfl (Nat.le_of_ble_eq_true rfl) ?_
  intro p e s m args below meth c hr X
  refine xj_w (A := x_A 26 ad) ?_
  rw [fX7_removeIdentifier] at hf
  refine xj_iload_n X 1 dX7_removeIdentifier_0 rfl rfl ?_
  refine xj_if_lt (tgt := 18) X dX7_removeIdentifier_1 rfl hf (fun hf => ?_) (fun hf => ?_)
  · refine xj_iconst (x := (-1 : Int32)) X dX7_removeIdentifier_18 rfl ?_
    exact xj_iret_wr X hr (x_2a hf) (congrArg (wX ad cA) (x_2b hf)) dX7_removeIdentifier_19
  · refine xj_iload_n X 1 dX7_removeIdentifier_4 rfl rfl ?_
    refine xj_aload_n X 0 dX7_removeIdentifier_5 rfl rfl ?_
    refine xj_get X x_IW.P inG_X7 0 (wX_at0 ad cA σ) rfl 3 (by decide) mk1_210 (.ref (ad 15)) rfl dX7_removeIdentifier_6 ?_
    refine xj_get X x_IW.P inG_X5 15 (wX_at15 ad cA σ) rfl 0 (by decide) mk1_136 (.ref (ad 16)) rfl dX7_removeIdentifier_9 ?_
    refine xj_get X x_IW.P inG_X3 16 (wX_at16 ad cA σ) rfl 1 (by decide) mk1_94 (.int (σ 16 1)) rfl dX7_removeIdentifier_12 ?_
    refine xj_icmp_lt (tgt := 20) X dX7_removeIdentifier_15 rfl hf (fun hf => ?_) (fun hf => ?_)
    · refine xj_aload_n X 0 dX7_removeIdentifier_20 rfl rfl ?_
      refine xj_get X x_IW.P inG_X7 0 (wX_at0 ad cA σ) rfl 3 (by decide) mk1_210 (.ref (ad 15)) rfl dX7_removeIdentifier_21 ?_
      refine xj_iload_n X 1 dX7_removeIdentifier_24 rfl rfl ?_
      obtain ⟨x1_25, hx1_25, hf⟩ := x_bind hf
      refine xj_wrV (rest := []) (x_runV X (ctX5_dropSupport l D cA hj σ p1 x1_25 hx1_25) (x_cwV X kwX5_dropSupport mk2_146 rfl rfl ⟨Nat.le_of_ble_eq_true rfl, Nat.le_of_ble_eq_true rfl⟩) x_IW.P 15 (wX_at15 ad cA σ) rfl rfl rfl (Nat.le_of_ble_eq_true rfl) dX7_removeIdentifier_25 ⟨Nat.zero_le _, Nat.zero_le _⟩) (fun _ _ _ h _ => h) (fun _ h => h) ?_
      refine xj_aload_n X 0 dX7_removeIdentifier_28 rfl rfl ?_
      refine xj_get X x_IW.P inG_X7 0 (wX_at0 ad cA x1_25) rfl 3 (by decide) mk1_210 (.ref (ad 15)) rfl dX7_removeIdentifier_29 ?_
      refine xj_get X x_IW.P inG_X5 15 (wX_at15 ad cA x1_25) rfl 0 (by decide) mk1_136 (.ref (ad 16)) rfl dX7_removeIdentifier_32 ?_
      refine xj_get X x_IW.P inG_X3 16 (wX_at16 ad cA x1_25) rfl 1 (by decide) mk1_94 (.int (x1_25 16 1)) rfl dX7_removeIdentifier_35 ?_
      exact xj_iret_wr X hr (x_2a hf) (congrArg (wX ad cA) (x_2b hf)) dX7_removeIdentifier_38
    · refine xj_iconst (x := (-1 : Int32)) X dX7_removeIdentifier_18 rfl ?_
      exact xj_iret_wr X hr (x_2a hf) (congrArg (wX ad cA) (x_2b hf)) dX7_removeIdentifier_19
set_option maxHeartbeats 4000000 in
set_option maxRecDepth 100000 in
theorem ctX7_replaceCode_19 (l : Launch) (D : va_G) (cA : ClassId) {ad : Nat → Nat} (hj : x_inj 26 ad) (σ : x_M) (p1 : Int32) (p2 : Int32) (r0 : Int32) (σ0 : x_M) (hf : fX7_replaceCode_19 σ p1 p2 = some (r0, σ0)) : Met l yX7_replaceCode zX7_replaceCode ({ frames := 1, cells := 0, slots := 0, locals := 22 } : Room) (x_P D cA [.ref (ad 19), .int p1, .int p2] (wX ad cA σ)) (x_U D (some (.int r0)) (wX ad cA σ0) (x_A 26 ad)) 0 0 (x_A 26 ad) := by
  refine x_met (cc := cX7_replaceCode) (maxL := 4) (ret := (some .int)) RX7 rfl (by decide) rfl [(0, .ref (ad 19)), (1, .int p1), (2, .int p2)] rfl (Nat.le_of_ble_eq_true rfl) ?_
  intro p e s m args below meth c hr X
  refine xj_w (A := x_A 26 ad) ?_
  rw [fX7_replaceCode_19] at hf
  refine xj_iload_n X 1 dX7_replaceCode_0 rfl rfl ?_
  refine xj_if_lt (tgt := 19) X dX7_replaceCode_1 rfl hf (fun hf => ?_) (fun hf => ?_)
  · refine xj_iconst (x := (-1 : Int32)) X dX7_replaceCode_19 rfl ?_
    exact xj_iret_wr X hr (x_2a hf) (congrArg (wX ad cA) (x_2b hf)) dX7_replaceCode_20
  · refine xj_iload_n X 1 dX7_replaceCode_4 rfl rfl ?_
    refine xj_iconst (x := (3 : Int32)) X dX7_replaceCode_5 rfl ?_
    refine xj_icmp_ge (tgt := 19) X dX7_replaceCode_6 rfl hf (fun hf => ?_) (fun hf => ?_)
    · refine xj_iconst (x := (-1 : Int32)) X dX7_replaceCode_19 rfl ?_
      exact xj_iret_wr X hr (x_2a hf) (congrArg (wX ad cA) (x_2b hf)) dX7_replaceCode_20
    · refine xj_iload_n X 2 dX7_replaceCode_9 rfl rfl ?_
      refine xj_if_lt (tgt := 19) X dX7_replaceCode_10 rfl hf (fun hf => ?_) (fun hf => ?_)
      · refine xj_iconst (x := (-1 : Int32)) X dX7_replaceCode_19 rfl ?_
        exact xj_iret_wr X hr (x_2a hf) (congrArg (wX ad cA) (x_2b hf)) dX7_replaceCode_20
      · refine xj_iload_n X 2 dX7_replaceCode_13 rfl rfl ?_
        refine xj_bipush (x := (127 : Int32)) X dX7_replaceCode_14 rfl ?_
        refine xj_icmp_le (tgt := 21) X dX7_replaceCode_16 rfl hf (fun hf => ?_) (fun hf => ?_)
        · refine xj_aload_n X 0 dX7_replaceCode_21 rfl rfl ?_
          refine xj_iload_n X 1 dX7_replaceCode_22 rfl rfl ?_
          refine xj_roI (r := x_at 3 (σ 19) p1) (rest := []) (fun _ h => h) (x_runS X (c_at l D cA (wX_at19 ad cA σ) (by decide) p1) (x_cwS X kwX7_at mk2_49 rfl rfl ⟨Nat.le_of_ble_eq_true rfl, Nat.le_of_ble_eq_true rfl⟩) x_IW.P rfl rfl (Nat.le_of_ble_eq_true rfl) dX7_replaceCode_23 ⟨Nat.zero_le _, Nat.zero_le _⟩) ?_
          refine xj_istore_n (lv' := [(3, .int (x_at 3 (σ 19) p1)), (0, .ref (ad 19)), (1, .int p1), (2, .int p2)]) X dX7_replaceCode_26 rfl (Nat.le_of_ble_eq_true rfl) rfl ?_
          refine xj_sub [1, 2, 3, 0] rfl ?_
          refine xj_aload_n X 0 dX7_replaceCode_27 rfl rfl ?_
          refine xj_iload_n X 1 dX7_replaceCode_28 rfl rfl ?_
          refine xj_iload_n X 2 dX7_replaceCode_29 rfl rfl ?_
          refine xj_wrV (rest := []) (x_runS X (c_put l D cA (wX_D hj cA _) (wX_at19 ad cA σ) (by decide) p1 p2 (wX_pu19 ad cA σ p1 p2)) (x_cwS X kwX7_put mk2_131 rfl rfl ⟨Nat.le_of_ble_eq_true rfl, Nat.le_of_ble_eq_true rfl⟩) x_IW.P rfl rfl (Nat.le_of_ble_eq_true rfl) dX7_replaceCode_30 ⟨Nat.zero_le _, Nat.zero_le _⟩) (fun _ _ _ h _ => h) (fun _ h => h) ?_
          refine xj_iload_n X 3 dX7_replaceCode_33 rfl rfl ?_
          exact xj_iret_wr X hr (x_2a hf) (congrArg (wX ad cA) (x_2b hf)) dX7_replaceCode_34
        · refine xj_iconst (x := (-1 : Int32)) X dX7_replaceCode_19 rfl ?_
          exact xj_iret_wr X hr (x_2a hf) (congrArg (wX ad cA) (x_2b hf)) dX7_replaceCode_20
set_option maxHeartbeats 4000000 in
set_option maxRecDepth 100000 in
theorem ctX7_setTerminalCode (l : Launch) (D : va_G) (cA : ClassId) {ad : Nat → Nat} (hj : x_inj 26 ad) (σ : x_M) (p1 : Int32) (p2 : Int32) (r0 : Int32) (σ0 : x_M) (hf : fX7_setTerminalCode σ p1 p2 = some (r0, σ0)) : Met l yX7_setTerminalCode zX7_setTerminalCode ({ frames := 2, cells := 0, slots := 0, locals := 45 } : Room) (x_P D cA [.ref (ad 0), .int p1, .int p2] (wX ad cA σ)) (x_U D (some (.int r0)) (wX ad cA σ0) (x_A 26 ad)) 0 0 (x_A 26 ad) := by
  refine x_met (cc := cX7_setTerminalCode) (maxL := 3) (ret := (some .int)) RX7 rfl (by decide) rfl [(0, .ref (ad 0)), (1, .int p1), (2, .int p2)] rfl (Nat.le_of_ble_eq_true rfl) ?_
  intro p e s m args below meth c hr X
  refine xj_w (A := x_A 26 ad) ?_
  rw [fX7_setTerminalCode] at hf
  refine xj_aload_n X 0 dX7_setTerminalCode_0 rfl rfl ?_
  refine xj_get X x_IW.P inG_X7 0 (wX_at0 ad cA σ) rfl 3 (by decide) mk1_210 (.ref (ad 15)) rfl dX7_setTerminalCode_1 ?_
  refine xj_get X x_IW.P inG_X5 15 (wX_at15 ad cA σ) rfl 1 (by decide) mk1_138 (.ref (ad 19)) rfl dX7_setTerminalCode_4 ?_
  refine xj_iload_n X 1 dX7_setTerminalCode_7 rfl rfl ?_
  refine xj_iload_n X 2 dX7_setTerminalCode_8 rfl rfl ?_
  obtain ⟨x1_9, hx1_9, hf⟩ := x_bind hf
  refine xj_wrI (r := x1_9.1) (rest := []) (x_runS X (ctX7_replaceCode_19 l D cA hj σ p1 p2 x1_9.1 x1_9.2 hx1_9) (x_cwS X kwX7_replaceCode mk2_128 rfl rfl ⟨Nat.le_of_ble_eq_true rfl, Nat.le_of_ble_eq_true rfl⟩) x_IW.P rfl rfl (Nat.le_of_ble_eq_true rfl) dX7_setTerminalCode_9 ⟨Nat.zero_le _, Nat.zero_le _⟩) (fun _ _ _ h _ => h) (fun _ h => h) ?_
  exact xj_iret_wr X hr (x_2a hf) (congrArg (wX ad cA) (x_2b hf)) dX7_setTerminalCode_12
set_option maxHeartbeats 4000000 in
set_option maxRecDepth 100000 in
theorem ctX7_setFloorLimit (l : Launch) (D : va_G) (cA : ClassId) {ad : Nat → Nat} (hj : x_inj 26 ad) (σ : x_M) (p1 : Int32) (r0 : Int32) (σ0 : x_M) (hf : fX7_setFloorLimit σ p1 = some (r0, σ0)) : Met l yX7_setFloorLimit zX7_setFloorLimit ({ frames := 0, cells := 0, slots := 0, locals := 0 } : Room) (x_P D cA [.ref (ad 0), .int p1] (wX ad cA σ)) (x_U D (some (.int r0)) (wX ad cA σ0) (x_A 26 ad)) 0 0 (x_A 26 ad) := by
  refine x_met (cc := cX7_setFloorLimit) (maxL := 3) (ret := (some .int)) RX7 rfl (by decide) rfl [(0, .ref (ad 0)), (1, .int p1)] rfl (Nat.le_of_ble_eq_true rfl) ?_
  intro p e s m args below meth c hr X
  refine xj_w (A := x_A 26 ad) ?_
  rw [fX7_setFloorLimit] at hf
  refine xj_iload_n X 1 dX7_setFloorLimit_0 rfl rfl ?_
  refine xj_if_lt (tgt := 10) X dX7_setFloorLimit_1 rfl hf (fun hf => ?_) (fun hf => ?_)
  · refine xj_iconst (x := (-1 : Int32)) X dX7_setFloorLimit_10 rfl ?_
    exact xj_iret_wr X hr (x_2a hf) (congrArg (wX ad cA) (x_2b hf)) dX7_setFloorLimit_11
  · refine xj_iload_n X 1 dX7_setFloorLimit_4 rfl rfl ?_
    refine xj_ldc X mk2_171 dX7_setFloorLimit_5 ?_
    refine xj_icmp_le (tgt := 12) X dX7_setFloorLimit_7 rfl hf (fun hf => ?_) (fun hf => ?_)
    · refine xj_aload_n X 0 dX7_setFloorLimit_12 rfl rfl ?_
      refine xj_get X x_IW.P inG_X7 0 (wX_at0 ad cA σ) rfl 3 (by decide) mk1_210 (.ref (ad 15)) rfl dX7_setFloorLimit_13 ?_
      refine xj_get X x_IW.P inG_X5 15 (wX_at15 ad cA σ) rfl 2 (by decide) mk1_140 (.int (σ 15 2)) rfl dX7_setFloorLimit_16 ?_
      refine xj_istore_n (lv' := [(2, .int (σ 15 2)), (0, .ref (ad 0)), (1, .int p1)]) X dX7_setFloorLimit_19 rfl (Nat.le_of_ble_eq_true rfl) rfl ?_
      refine xj_sub [1, 2, 0] rfl ?_
      refine xj_aload_n X 0 dX7_setFloorLimit_20 rfl rfl ?_
      refine xj_get X x_IW.P inG_X7 0 (wX_at0 ad cA σ) rfl 3 (by decide) mk1_210 (.ref (ad 15)) rfl dX7_setFloorLimit_21 ?_
      refine xj_iload_n X 1 dX7_setFloorLimit_24 rfl rfl ?_
      refine xj_put X (wX_D hj cA _) inG_X5 tyX5_ok nmX5 15 (wX_at15 ad cA σ) rfl 2 (by decide) mk1_140 rfl .int rfl rfl rfl (Nat.le_of_ble_eq_true rfl) (wX_st15_2 ad cA σ p1) dX7_setFloorLimit_25 ?_
      refine xj_iload_n X 2 dX7_setFloorLimit_28 rfl rfl ?_
      exact xj_iret_wr X hr (x_2a hf) (congrArg (wX ad cA) (x_2b hf)) dX7_setFloorLimit_29
    · refine xj_iconst (x := (-1 : Int32)) X dX7_setFloorLimit_10 rfl ?_
      exact xj_iret_wr X hr (x_2a hf) (congrArg (wX ad cA) (x_2b hf)) dX7_setFloorLimit_11
set_option maxHeartbeats 4000000 in
set_option maxRecDepth 100000 in
theorem ctX7_setOfflineLimits (l : Launch) (D : va_G) (cA : ClassId) {ad : Nat → Nat} (hj : x_inj 26 ad) (σ : x_M) (p1 : Int32) (p2 : Int32) (r0 : Int32) (σ0 : x_M) (hf : fX7_setOfflineLimits σ p1 p2 = some (r0, σ0)) : Met l yX7_setOfflineLimits zX7_setOfflineLimits ({ frames := 0, cells := 0, slots := 0, locals := 0 } : Room) (x_P D cA [.ref (ad 0), .int p1, .int p2] (wX ad cA σ)) (x_U D (some (.int r0)) (wX ad cA σ0) (x_A 26 ad)) 0 0 (x_A 26 ad) := by
  refine x_met (cc := cX7_setOfflineLimits) (maxL := 4) (ret := (some .int)) RX7 rfl (by decide) rfl [(0, .ref (ad 0)), (1, .int p1), (2, .int p2)] rfl (Nat.le_of_ble_eq_true rfl) ?_
  intro p e s m args below meth c hr X
  refine xj_w (A := x_A 26 ad) ?_
  rw [fX7_setOfflineLimits] at hf
  refine xj_iload_n X 1 dX7_setOfflineLimits_0 rfl rfl ?_
  refine xj_if_lt (tgt := 15) X dX7_setOfflineLimits_1 rfl hf (fun hf => ?_) (fun hf => ?_)
  · refine xj_iconst (x := (-1 : Int32)) X dX7_setOfflineLimits_15 rfl ?_
    exact xj_iret_wr X hr (x_2a hf) (congrArg (wX ad cA) (x_2b hf)) dX7_setOfflineLimits_16
  · refine xj_iload_n X 1 dX7_setOfflineLimits_4 rfl rfl ?_
    refine xj_iload_n X 2 dX7_setOfflineLimits_5 rfl rfl ?_
    refine xj_icmp_gt (tgt := 15) X dX7_setOfflineLimits_6 rfl hf (fun hf => ?_) (fun hf => ?_)
    · refine xj_iconst (x := (-1 : Int32)) X dX7_setOfflineLimits_15 rfl ?_
      exact xj_iret_wr X hr (x_2a hf) (congrArg (wX ad cA) (x_2b hf)) dX7_setOfflineLimits_16
    · refine xj_iload_n X 2 dX7_setOfflineLimits_9 rfl rfl ?_
      refine xj_bipush (x := (15 : Int32)) X dX7_setOfflineLimits_10 rfl ?_
      refine xj_icmp_le (tgt := 17) X dX7_setOfflineLimits_12 rfl hf (fun hf => ?_) (fun hf => ?_)
      · refine xj_bipush (x := (16 : Int32)) X dX7_setOfflineLimits_17 rfl ?_
        refine xj_aload_n X 0 dX7_setOfflineLimits_19 rfl rfl ?_
        refine xj_get X x_IW.P inG_X7 0 (wX_at0 ad cA σ) rfl 3 (by decide) mk1_210 (.ref (ad 15)) rfl dX7_setOfflineLimits_20 ?_
        refine xj_get X x_IW.P inG_X5 15 (wX_at15 ad cA σ) rfl 3 (by decide) mk1_142 (.int (σ 15 3)) rfl dX7_setOfflineLimits_23 ?_
        refine xj_imul X dX7_setOfflineLimits_26 ?_
        refine xj_aload_n X 0 dX7_setOfflineLimits_27 rfl rfl ?_
        refine xj_get X x_IW.P inG_X7 0 (wX_at0 ad cA σ) rfl 3 (by decide) mk1_210 (.ref (ad 15)) rfl dX7_setOfflineLimits_28 ?_
        refine xj_get X x_IW.P inG_X5 15 (wX_at15 ad cA σ) rfl 4 (by decide) mk1_144 (.int (σ 15 4)) rfl dX7_setOfflineLimits_31 ?_
        refine xj_iadd X dX7_setOfflineLimits_34 ?_
        refine xj_istore_n (lv' := [(3, .int ((((16 : Int32)) * (σ 15 3)) + (σ 15 4))), (0, .ref (ad 0)), (1, .int p1), (2, .int p2)]) X dX7_setOfflineLimits_35 rfl (Nat.le_of_ble_eq_true rfl) rfl ?_
        refine xj_sub [1, 2, 3, 0] rfl ?_
        refine xj_aload_n X 0 dX7_setOfflineLimits_36 rfl rfl ?_
        refine xj_get X x_IW.P inG_X7 0 (wX_at0 ad cA σ) rfl 3 (by decide) mk1_210 (.ref (ad 15)) rfl dX7_setOfflineLimits_37 ?_
        refine xj_iload_n X 1 dX7_setOfflineLimits_40 rfl rfl ?_
        refine xj_put X (wX_D hj cA _) inG_X5 tyX5_ok nmX5 15 (wX_at15 ad cA σ) rfl 3 (by decide) mk1_142 rfl .int rfl rfl rfl (Nat.le_of_ble_eq_true rfl) (wX_st15_3 ad cA σ p1) dX7_setOfflineLimits_41 ?_
        refine xj_aload_n X 0 dX7_setOfflineLimits_44 rfl rfl ?_
        refine xj_get X x_IW.P inG_X7 0 (wX_at0 ad cA (up2 σ 15 3 p1)) rfl 3 (by decide) mk1_210 (.ref (ad 15)) rfl dX7_setOfflineLimits_45 ?_
        refine xj_iload_n X 2 dX7_setOfflineLimits_48 rfl rfl ?_
        refine xj_put X (wX_D hj cA _) inG_X5 tyX5_ok nmX5 15 (wX_at15 ad cA (up2 σ 15 3 p1)) rfl 4 (by decide) mk1_144 rfl .int rfl rfl rfl (Nat.le_of_ble_eq_true rfl) (wX_st15_4 ad cA (up2 σ 15 3 p1) p2) dX7_setOfflineLimits_49 ?_
        refine xj_iload_n X 3 dX7_setOfflineLimits_52 rfl rfl ?_
        exact xj_iret_wr X hr (x_2a hf) (congrArg (wX ad cA) (x_2b hf)) dX7_setOfflineLimits_53
      · refine xj_iconst (x := (-1 : Int32)) X dX7_setOfflineLimits_15 rfl ?_
        exact xj_iret_wr X hr (x_2a hf) (congrArg (wX ad cA) (x_2b hf)) dX7_setOfflineLimits_16
set_option maxHeartbeats 4000000 in
set_option maxRecDepth 100000 in
theorem ctX7_setRandomTarget (l : Launch) (D : va_G) (cA : ClassId) {ad : Nat → Nat} (hj : x_inj 26 ad) (σ : x_M) (p1 : Int32) (r0 : Int32) (σ0 : x_M) (hf : fX7_setRandomTarget σ p1 = some (r0, σ0)) : Met l yX7_setRandomTarget zX7_setRandomTarget ({ frames := 0, cells := 0, slots := 0, locals := 0 } : Room) (x_P D cA [.ref (ad 0), .int p1] (wX ad cA σ)) (x_U D (some (.int r0)) (wX ad cA σ0) (x_A 26 ad)) 0 0 (x_A 26 ad) := by
  refine x_met (cc := cX7_setRandomTarget) (maxL := 3) (ret := (some .int)) RX7 rfl (by decide) rfl [(0, .ref (ad 0)), (1, .int p1)] rfl (Nat.le_of_ble_eq_true rfl) ?_
  intro p e s m args below meth c hr X
  refine xj_w (A := x_A 26 ad) ?_
  rw [fX7_setRandomTarget] at hf
  refine xj_iload_n X 1 dX7_setRandomTarget_0 rfl rfl ?_
  refine xj_if_lt (tgt := 10) X dX7_setRandomTarget_1 rfl hf (fun hf => ?_) (fun hf => ?_)
  · refine xj_iconst (x := (-1 : Int32)) X dX7_setRandomTarget_10 rfl ?_
    exact xj_iret_wr X hr (x_2a hf) (congrArg (wX ad cA) (x_2b hf)) dX7_setRandomTarget_11
  · refine xj_iload_n X 1 dX7_setRandomTarget_4 rfl rfl ?_
    refine xj_bipush (x := (100 : Int32)) X dX7_setRandomTarget_5 rfl ?_
    refine xj_icmp_le (tgt := 12) X dX7_setRandomTarget_7 rfl hf (fun hf => ?_) (fun hf => ?_)
    · refine xj_aload_n X 0 dX7_setRandomTarget_12 rfl rfl ?_
      refine xj_get X x_IW.P inG_X7 0 (wX_at0 ad cA σ) rfl 3 (by decide) mk1_210 (.ref (ad 15)) rfl dX7_setRandomTarget_13 ?_
      refine xj_get X x_IW.P inG_X5 15 (wX_at15 ad cA σ) rfl 5 (by decide) mk1_146 (.int (σ 15 5)) rfl dX7_setRandomTarget_16 ?_
      refine xj_istore_n (lv' := [(2, .int (σ 15 5)), (0, .ref (ad 0)), (1, .int p1)]) X dX7_setRandomTarget_19 rfl (Nat.le_of_ble_eq_true rfl) rfl ?_
      refine xj_sub [1, 2, 0] rfl ?_
      refine xj_aload_n X 0 dX7_setRandomTarget_20 rfl rfl ?_
      refine xj_get X x_IW.P inG_X7 0 (wX_at0 ad cA σ) rfl 3 (by decide) mk1_210 (.ref (ad 15)) rfl dX7_setRandomTarget_21 ?_
      refine xj_iload_n X 1 dX7_setRandomTarget_24 rfl rfl ?_
      refine xj_put X (wX_D hj cA _) inG_X5 tyX5_ok nmX5 15 (wX_at15 ad cA σ) rfl 5 (by decide) mk1_146 rfl .int rfl rfl rfl (Nat.le_of_ble_eq_true rfl) (wX_st15_5 ad cA σ p1) dX7_setRandomTarget_25 ?_
      refine xj_iload_n X 2 dX7_setRandomTarget_28 rfl rfl ?_
      exact xj_iret_wr X hr (x_2a hf) (congrArg (wX ad cA) (x_2b hf)) dX7_setRandomTarget_29
    · refine xj_iconst (x := (-1 : Int32)) X dX7_setRandomTarget_10 rfl ?_
      exact xj_iret_wr X hr (x_2a hf) (congrArg (wX ad cA) (x_2b hf)) dX7_setRandomTarget_11
set_option maxHeartbeats 4000000 in
set_option maxRecDepth 100000 in
theorem ctX7_setOnline (l : Launch) (D : va_G) (cA : ClassId) {ad : Nat → Nat} (hj : x_inj 26 ad) (σ : x_M) (p1 : Bool) (r0 : Int32) (σ0 : x_M) (hf : fX7_setOnline σ p1 = some (r0, σ0)) : Met l yX7_setOnline zX7_setOnline ({ frames := 0, cells := 0, slots := 0, locals := 0 } : Room) (x_P D cA [.ref (ad 0), .int (b2i p1)] (wX ad cA σ)) (x_U D (some (.int r0)) (wX ad cA σ0) (x_A 26 ad)) 0 0 (x_A 26 ad) := by
  refine x_met (cc := cX7_setOnline) (maxL := 3) (ret := (some .int)) RX7 rfl (by decide) rfl [(0, .ref (ad 0)), (1, .int (b2i p1))] rfl (Nat.le_of_ble_eq_true rfl) ?_
  intro p e s m args below meth c hr X
  have B_15 : ∀ (σ : x_M) (v1 : Bool) (w0 : Int32), fX7_setOnline_15 σ v1 w0 = some (r0, σ0) → x_J 3 p l e ({ frames := 0, cells := 0, slots := 0, locals := 0 } : Room) s m args below meth c 0 0 (x_IW D s (x_A 26 ad) (wX ad cA σ)) (MQ below (x_U D (some (.int r0)) (wX ad cA σ0) (x_A 26 ad)) args s 0 0 (x_A 26 ad)) 15 [(0, .ref (ad 0)), (1, .int (b2i v1))] [.int w0] := by
    intro  σ v1 w0 hf
    rw [fX7_setOnline_15] at hf
    refine xj_istore_n (lv' := [(2, .int w0), (0, .ref (ad 0)), (1, .int (b2i v1))]) X dX7_setOnline_15 rfl (Nat.le_of_ble_eq_true rfl) rfl ?_
    refine xj_sub [1, 2, 0] rfl ?_
    refine xj_aload_n X 0 dX7_setOnline_16 rfl rfl ?_
    refine xj_get X x_IW.P inG_X7 0 (wX_at0 ad cA σ) rfl 3 (by decide) mk1_210 (.ref (ad 15)) rfl dX7_setOnline_17 ?_
    refine xj_iload_n X 1 dX7_setOnline_20 rfl rfl ?_
    refine xj_put X (wX_D hj cA _) inG_X5 tyX5_ok nmX5 15 (wX_at15 ad cA σ) rfl 6 (by decide) mk1_148 rfl .boolean rfl (x_nar _) (x_fit _) (Nat.le_of_ble_eq_true rfl) (wX_st15_6 ad cA σ (b2i v1)) dX7_setOnline_21 ?_
    refine xj_iload_n X 2 dX7_setOnline_24 rfl rfl ?_
    exact xj_iret_wr X hr (x_2a hf) (congrArg (wX ad cA) (x_2b hf)) dX7_setOnline_25
  refine xj_w (A := x_A 26 ad) ?_
  rw [fX7_setOnline] at hf
  refine xj_aload_n X 0 dX7_setOnline_0 rfl rfl ?_
  refine xj_get X x_IW.P inG_X7 0 (wX_at0 ad cA σ) rfl 3 (by decide) mk1_210 (.ref (ad 15)) rfl dX7_setOnline_1 ?_
  refine xj_get X x_IW.P inG_X5 15 (wX_at15 ad cA σ) rfl 6 (by decide) mk1_148 (.int (σ 15 6)) rfl dX7_setOnline_4 ?_
  refine xj_if_eq (tgt := 14) X dX7_setOnline_7 rfl hf (fun hf => ?_) (fun hf => ?_)
  · refine xj_iconst (x := (0 : Int32)) X dX7_setOnline_14 rfl ?_
    exact (B_15 σ p1 ((0 : Int32)) hf)
  · refine xj_iconst (x := (1 : Int32)) X dX7_setOnline_10 rfl ?_
    refine xj_goto (tgt := 15) X dX7_setOnline_11 rfl ?_
    exact (B_15 σ p1 ((1 : Int32)) hf)
set_option maxHeartbeats 4000000 in
set_option maxRecDepth 100000 in
theorem ctX3_valueAt_10 (l : Launch) (D : va_G) (cA : ClassId) (ad : Nat → Nat) (σ : x_M) (p1 : Int32) (p2 : Int32) (r0 : Int32) (hf : fX3_valueAt_10 σ p1 p2 = r0) : Met l yX3_valueAt zX3_valueAt ({ frames := 1, cells := 0, slots := 0, locals := 21 } : Room) (x_P D cA [.ref (ad 10), .int p1, .int p2] (wX ad cA σ)) (x_R (some (.int r0))) 0 0 (fun _ => False) := by
  refine x_met (cc := cX3_valueAt) (maxL := 3) (ret := (some .int)) RX3 rfl (by decide) rfl [(0, .ref (ad 10)), (1, .int p1), (2, .int p2)] rfl (Nat.le_of_ble_eq_true rfl) ?_
  intro p e s m args below meth c hr X
  rw [fX3_valueAt_10] at hf
  refine xj_aload_n X 0 dX3_valueAt_0 rfl rfl ?_
  refine xj_get X x_IR.P inG_X3 10 (wX_at10 ad cA σ) rfl 2 (by decide) mk1_95 (.ref (ad 12)) rfl dX3_valueAt_1 ?_
  refine xj_iload_n X 1 dX3_valueAt_4 rfl rfl ?_
  refine xj_bipush (x := (16 : Int32)) X dX3_valueAt_5 rfl ?_
  refine xj_imul X dX3_valueAt_7 ?_
  refine xj_iload_n X 2 dX3_valueAt_8 rfl rfl ?_
  refine xj_iadd X dX3_valueAt_9 ?_
  refine xj_roI (r := x_at 96 (σ 12) ((p1 * ((16 : Int32))) + p2)) (rest := []) (fun _ h => h) (x_runSN X (c_at l D cA (wX_at12 ad cA σ) (by decide) ((p1 * ((16 : Int32))) + p2)) (x_cwN X kwX7_at x_nest_14 rfl rfl ⟨Nat.le_of_ble_eq_true rfl, Nat.le_of_ble_eq_true rfl⟩) x_IR.P rfl rfl (Nat.le_of_ble_eq_true rfl) dX3_valueAt_10 ⟨Nat.zero_le _, Nat.zero_le _⟩) ?_
  exact xj_iret_ro X hr hf dX3_valueAt_13
set_option maxHeartbeats 4000000 in
set_option maxRecDepth 100000 in
theorem ctX3_beginsWith_10 (l : Launch) (D : va_G) (cA : ClassId) (ad : Nat → Nat) (σ : x_M) (p1 : Int32) (p3 : Int32) (r0 : Bool) (hf : fX3_beginsWith_10 σ p1 p3 = some r0) : Met l yX3_beginsWith zX3_beginsWith ({ frames := 2, cells := 0, slots := 0, locals := 43 } : Room) (x_P D cA [.ref (ad 10), .int p1, .ref (ad 16), .int p3] (wX ad cA σ)) (x_R (some (.int (b2i r0)))) 0 0 (fun _ => False) := by
  refine x_met (cc := cX3_beginsWith) (maxL := 6) (ret := (some .boolean)) RX3 rfl (by decide) rfl [(0, .ref (ad 10)), (1, .int p1), (2, .ref (ad 16)), (3, .int p3)] rfl (Nat.le_of_ble_eq_true rfl) ?_
  intro p e s m args below meth c hr X
  have B_28 : ∀ (n : Nat) (v1 : Int32) (v3 : Int32) (v4 : Int32) (v5 : Int32), fX3_beginsWith_10_28 σ n v1 v3 v4 v5 = some r0 → x_J 6 p l e ({ frames := 2, cells := 0, slots := 0, locals := 43 } : Room) s m args below meth c 0 0 (x_IR D s (wX ad cA σ)) (MQ below (x_R (some (.int (b2i r0)))) args s 0 0 (fun _ => False)) 28 [(0, .ref (ad 10)), (1, .int v1), (2, .ref (ad 16)), (3, .int v3), (4, .int v4), (5, .int v5)] [] := by
    intro n
    induction n with
    | zero => intro v1 v3 v4 v5 hf; rw [fX3_beginsWith_10_28] at hf; cases hf
    | succ n ih =>
      intro v1 v3 v4 v5 hf
      rw [fX3_beginsWith_10_28] at hf
      refine xj_iload X 5 dX3_beginsWith_28 rfl ?_
      refine xj_iload X 4 dX3_beginsWith_30 rfl ?_
      refine xj_icmp_ge (tgt := 60) X dX3_beginsWith_32 rfl hf (fun hf => ?_) (fun hf => ?_)
      · refine xj_iconst (x := (1 : Int32)) X dX3_beginsWith_60 rfl ?_
        exact xj_zret_ro X hr (x_b2i (x_1 hf)) dX3_beginsWith_61
      · refine xj_aload_n X 0 dX3_beginsWith_35 rfl rfl ?_
        refine xj_iload_n X 1 dX3_beginsWith_36 rfl rfl ?_
        refine xj_iload X 5 dX3_beginsWith_37 rfl ?_
        refine xj_roI (r := fX3_valueAt_10 σ v1 v5) (rest := []) (fun _ h => h) (x_runV X (ctX3_valueAt_10 l D cA ad σ v1 v5 _ rfl) (x_cwV X kwX3_valueAt mk2_159 rfl rfl ⟨Nat.le_of_ble_eq_true rfl, Nat.le_of_ble_eq_true rfl⟩) x_IR.P 10 (wX_at10 ad cA σ) rfl rfl rfl (Nat.le_of_ble_eq_true rfl) dX3_beginsWith_39 ⟨Nat.zero_le _, Nat.zero_le _⟩) ?_
        refine xj_aload_n X 2 dX3_beginsWith_42 rfl rfl ?_
        refine xj_iload_n X 3 dX3_beginsWith_43 rfl rfl ?_
        refine xj_iload X 5 dX3_beginsWith_44 rfl ?_
        refine xj_roI (r := fX3_valueAt_16 σ v3 v5) (rest := [.int (fX3_valueAt_10 σ v1 v5)]) (fun _ h => h) (x_runV X (ctX3_valueAt_16 l D cA ad σ v3 v5 _ rfl) (x_cwV X kwX3_valueAt mk2_159 rfl rfl ⟨Nat.le_of_ble_eq_true rfl, Nat.le_of_ble_eq_true rfl⟩) x_IR.P 16 (wX_at16 ad cA σ) rfl rfl rfl (Nat.le_of_ble_eq_true rfl) dX3_beginsWith_46 ⟨Nat.zero_le _, Nat.zero_le _⟩) ?_
        refine xj_icmp_eq (tgt := 54) X dX3_beginsWith_49 rfl hf (fun hf => ?_) (fun hf => ?_)
        · refine xj_iinc (y := v5 + (1 : Int32)) (lv' := [(5, .int (v5 + (1 : Int32))), (0, .ref (ad 10)), (1, .int v1), (2, .ref (ad 16)), (3, .int v3), (4, .int v4)]) X 5 dX3_beginsWith_54 rfl rfl (Nat.le_of_ble_eq_true rfl) rfl ?_
          refine xj_sub [1, 2, 3, 4, 5, 0] rfl ?_
          refine xj_goto (tgt := 28) X dX3_beginsWith_57 rfl ?_
          exact ih v1 v3 v4 (v5 + (1 : Int32)) hf
        · refine xj_iconst (x := (0 : Int32)) X dX3_beginsWith_52 rfl ?_
          exact xj_zret_ro X hr (x_b2i (x_1 hf)) dX3_beginsWith_53
  rw [fX3_beginsWith_10] at hf
  refine xj_aload_n X 2 dX3_beginsWith_0 rfl rfl ?_
  refine xj_get X x_IR.P inG_X3 16 (wX_at16 ad cA σ) rfl 0 (by decide) mk1_89 (.ref (ad 17)) rfl dX3_beginsWith_1 ?_
  refine xj_iload_n X 3 dX3_beginsWith_4 rfl rfl ?_
  refine xj_roI (r := x_at 6 (σ 17) p3) (rest := []) (fun _ h => h) (x_runSN X (c_at l D cA (wX_at17 ad cA σ) (by decide) p3) (x_cwN X kwX7_at x_nest_14 rfl rfl ⟨Nat.le_of_ble_eq_true rfl, Nat.le_of_ble_eq_true rfl⟩) x_IR.P rfl rfl (Nat.le_of_ble_eq_true rfl) dX3_beginsWith_5 ⟨Nat.zero_le _, Nat.zero_le _⟩) ?_
  refine xj_istore (lv' := [(4, .int (x_at 6 (σ 17) p3)), (0, .ref (ad 10)), (1, .int p1), (2, .ref (ad 16)), (3, .int p3)]) X dX3_beginsWith_8 (Nat.le_of_ble_eq_true rfl) rfl ?_
  refine xj_sub [1, 2, 3, 4, 0] rfl ?_
  refine xj_iload X 4 dX3_beginsWith_10 rfl ?_
  refine xj_aload_n X 0 dX3_beginsWith_12 rfl rfl ?_
  refine xj_get X x_IR.P inG_X3 10 (wX_at10 ad cA σ) rfl 0 (by decide) mk1_89 (.ref (ad 11)) rfl dX3_beginsWith_13 ?_
  refine xj_iload_n X 1 dX3_beginsWith_16 rfl rfl ?_
  refine xj_roI (r := x_at 6 (σ 11) p1) (rest := [.int (x_at 6 (σ 17) p3)]) (fun _ h => h) (x_runSN X (c_at l D cA (wX_at11 ad cA σ) (by decide) p1) (x_cwN X kwX7_at x_nest_14 rfl rfl ⟨Nat.le_of_ble_eq_true rfl, Nat.le_of_ble_eq_true rfl⟩) x_IR.P rfl rfl (Nat.le_of_ble_eq_true rfl) dX3_beginsWith_17 ⟨Nat.zero_le _, Nat.zero_le _⟩) ?_
  refine xj_icmp_le (tgt := 25) X dX3_beginsWith_20 rfl hf (fun hf => ?_) (fun hf => ?_)
  · refine xj_iconst (x := (0 : Int32)) X dX3_beginsWith_25 rfl ?_
    refine xj_istore (lv' := [(5, .int ((0 : Int32))), (0, .ref (ad 10)), (1, .int p1), (2, .ref (ad 16)), (3, .int p3), (4, .int (x_at 6 (σ 17) p3))]) X dX3_beginsWith_26 (Nat.le_of_ble_eq_true rfl) rfl ?_
    refine xj_sub [1, 2, 3, 4, 5, 0] rfl ?_
    exact (B_28 x_fuel p1 p3 (x_at 6 (σ 17) p3) ((0 : Int32)) hf)
  · refine xj_iconst (x := (0 : Int32)) X dX3_beginsWith_23 rfl ?_
    exact xj_zret_ro X hr (x_b2i (x_1 hf)) dX3_beginsWith_24
