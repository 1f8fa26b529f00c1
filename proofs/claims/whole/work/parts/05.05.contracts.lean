set_option maxHeartbeats 4000000 in
set_option maxRecDepth 100000 in
theorem ctX8_select (l : Launch) (D : va_G) (cA : ClassId) {ad : Nat → Nat} (hj : x_inj 20 ad) (σ : x_M) (p1 : Int32) (p2 : Bool) (r0 : Int32) (σ0 : x_M) (hf : fX8_select σ p1 p2 = some (r0, σ0)) : Met l yX8_select zX8_select ({ frames := 2, cells := 0, slots := 0, locals := 46 } : Room) (x_P D cA [.ref (ad 0), .int p1, .int (b2i p2)] (wM ad cA σ)) (x_U D (some (.int r0)) (wM ad cA σ0) (x_A 20 ad)) 0 0 (x_A 20 ad) := by
  refine x_met (cc := cX8_select) (maxL := 4) (ret := (some .int)) RX8 rfl (by decide) rfl [(0, .ref (ad 0)), (1, .int p1), (2, .int (b2i p2))] rfl (Nat.le_of_ble_eq_true rfl) ?_
  intro p e s m args below meth c hr X
  have B_40 : ∀ (n : Nat) (σ : x_M) (v1 : Int32) (v3 : Int32), fX8_select_40 n σ v1 v3 = some (r0, σ0) → x_J 4 p l e ({ frames := 2, cells := 0, slots := 0, locals := 46 } : Room) s m args below meth c 0 0 (x_IW D s (x_A 20 ad) (wM ad cA σ)) (MQ below (x_U D (some (.int r0)) (wM ad cA σ0) (x_A 20 ad)) args s 0 0 (x_A 20 ad)) 40 [(0, .ref (ad 0)), (1, .int v1), (3, .int v3)] [] := by
    intro n
    induction n with
    | zero => intro σ v1 v3 hf; rw [fX8_select_40] at hf; cases hf
    | succ n ih =>
      intro σ v1 v3 hf
      rw [fX8_select_40] at hf
      refine xj_iload_n X 2 dX8_select_40 rfl rfl ?_
      refine xj_aload_n X 0 dX8_select_41 rfl rfl ?_
      refine xj_get X x_IW.P inG_X8 0 (wM_at0 ad cA σ) rfl 35 (by decide) mk3_120 (.int (σ 0 35)) rfl dX8_select_42 ?_
      refine xj_icmp_ge (tgt := 71) X dX8_select_45 rfl hf (fun hf => ?_) (fun hf => ?_)
      · refine xj_bipush (x := (-4 : Int32)) X dX8_select_71 rfl ?_
        exact xj_iret_wr X hr (x_2a hf) (congrArg (wM ad cA) (x_2b hf)) dX8_select_73
      · refine xj_aload_n X 0 dX8_select_48 rfl rfl ?_
        refine xj_get X x_IW.P inG_X8 0 (wM_at0 ad cA σ) rfl 36 (by decide) mk3_121 (.ref (ad 19)) rfl dX8_select_49 ?_
        refine xj_iload_n X 2 dX8_select_52 rfl rfl ?_
        refine xj_iald X x_IW.P 19 (wM_at19 ad cA σ) hf ((σ 19) v3.toNatClampNeg) rfl dX8_select_53 (fun hf => ?_)
        refine xj_iload_n X 1 dX8_select_54 rfl rfl ?_
        refine xj_icmp_ne (tgt := 65) X dX8_select_55 rfl hf (fun hf => ?_) (fun hf => ?_)
        · refine xj_iinc (y := v3 + (1 : Int32)) (lv' := [(3, .int (v3 + (1 : Int32))), (0, .ref (ad 0)), (1, .int v1)]) X 2 dX8_select_65 rfl rfl (Nat.le_of_ble_eq_true rfl) rfl ?_
          refine xj_sub [1, 2, 0] rfl ?_
          refine xj_goto (tgt := 40) X dX8_select_68 rfl ?_
          exact ih σ v1 (v3 + (1 : Int32)) hf
        · refine xj_aload_n X 0 dX8_select_58 rfl rfl ?_
          refine xj_iload_n X 1 dX8_select_59 rfl rfl ?_
          refine xj_put X (wM_D hj cA _) inG_X8 tyX8_ok nmX8 0 (wM_at0 ad cA σ) rfl 26 (by decide) mk3_111 rfl .int rfl rfl rfl (Nat.le_of_ble_eq_true rfl) (wM_st0_26 ad cA σ v1) dX8_select_60 ?_
          refine xj_iload_n X 2 dX8_select_63 rfl rfl ?_
          exact xj_iret_wr X hr (x_2a hf) (congrArg (wM ad cA) (x_2b hf)) dX8_select_64
  have B_34 : ∀ (σ : x_M) (v1 : Int32), fX8_select_34 σ v1 = some (r0, σ0) → x_J 4 p l e ({ frames := 2, cells := 0, slots := 0, locals := 46 } : Room) s m args below meth c 0 0 (x_IW D s (x_A 20 ad) (wM ad cA σ)) (MQ below (x_U D (some (.int r0)) (wM ad cA σ0) (x_A 20 ad)) args s 0 0 (x_A 20 ad)) 34 [(0, .ref (ad 0)), (1, .int v1)] [] := by
    intro  σ v1 hf
    rw [fX8_select_34] at hf
    refine xj_aload_n X 0 dX8_select_34 rfl rfl ?_
    obtain ⟨x1_35, hx1_35, hf⟩ := x_bind hf
    refine xj_wrV (rest := []) (x_runV X (ctX8_lists l D cA hj σ x1_35 hx1_35) (x_cwV X kwX8_lists mk4_57 rfl rfl ⟨Nat.le_of_ble_eq_true rfl, Nat.le_of_ble_eq_true rfl⟩) x_IW.P 0 (wM_at0 ad cA σ) rfl rfl rfl (Nat.le_of_ble_eq_true rfl) dX8_select_35 ⟨Nat.zero_le _, Nat.zero_le _⟩) (fun _ _ _ h _ => h) (fun _ h => h) ?_
    refine xj_iconst (x := (0 : Int32)) X dX8_select_38 rfl ?_
    refine xj_istore_n (lv' := [(3, .int ((0 : Int32))), (0, .ref (ad 0)), (1, .int v1)]) X dX8_select_39 rfl (Nat.le_of_ble_eq_true rfl) rfl ?_
    refine xj_sub [1, 2, 0] rfl ?_
    exact (B_40 x_fuel x1_35 v1 ((0 : Int32)) hf)
  refine xj_w (A := x_A 20 ad) ?_
  rw [fX8_select] at hf
  refine xj_aload_n X 0 dX8_select_0 rfl rfl ?_
  refine xj_iload_n X 1 dX8_select_1 rfl rfl ?_
  refine xj_roI (r := b2i (fX8_isApplication σ p1)) (rest := []) (fun _ h => h) (x_runV X (ctX8_isApplication l D cA ad σ p1 _ rfl) (x_cwV X kwX8_isApplication mk4_16 rfl rfl ⟨Nat.le_of_ble_eq_true rfl, Nat.le_of_ble_eq_true rfl⟩) x_IW.P 0 (wM_at0 ad cA σ) rfl rfl rfl (Nat.le_of_ble_eq_true rfl) dX8_select_2 ⟨Nat.zero_le _, Nat.zero_le _⟩) ?_
  refine xj_if_ne (tgt := 10) X dX8_select_5 rfl hf (fun hf => ?_) (fun hf => ?_)
  · refine xj_aload_n X 0 dX8_select_10 rfl rfl ?_
    refine xj_get X x_IW.P inG_X8 0 (wM_at0 ad cA σ) rfl 30 (by decide) mk3_115 (.int (σ 0 30)) rfl dX8_select_11 ?_
    refine xj_if_ne (tgt := 31) X dX8_select_14 rfl hf (fun hf => ?_) (fun hf => ?_)
    · refine xj_bipush (x := (-2 : Int32)) X dX8_select_31 rfl ?_
      exact xj_iret_wr X hr (x_2a hf) (congrArg (wM ad cA) (x_2b hf)) dX8_select_33
    · refine xj_aload_n X 0 dX8_select_17 rfl rfl ?_
      refine xj_get X x_IW.P inG_X8 0 (wM_at0 ad cA σ) rfl 12 (by decide) mk3_97 (.ref (ad 10)) rfl dX8_select_18 ?_
      refine xj_iload_n X 1 dX8_select_21 rfl rfl ?_
      refine xj_iald X x_IW.P 10 (wM_at10 ad cA σ) hf ((σ 10) p1.toNatClampNeg) rfl dX8_select_22 (fun hf => ?_)
      refine xj_iconst (x := (1 : Int32)) X dX8_select_23 rfl ?_
      refine xj_icmp_ne (tgt := 34) X dX8_select_24 rfl hf (fun hf => ?_) (fun hf => ?_)
      · exact xj_sub [0, 1] rfl (B_34 σ p1 hf)
      · refine xj_iload_n X 2 dX8_select_27 rfl rfl ?_
        refine xj_if_ne (tgt := 34) X dX8_select_28 rfl hf (fun hf => ?_) (fun hf => ?_)
        · exact xj_sub [0, 1] rfl (B_34 σ p1 hf)
        · refine xj_bipush (x := (-2 : Int32)) X dX8_select_31 rfl ?_
          exact xj_iret_wr X hr (x_2a hf) (congrArg (wM ad cA) (x_2b hf)) dX8_select_33
  · refine xj_iconst (x := (-1 : Int32)) X dX8_select_8 rfl ?_
    exact xj_iret_wr X hr (x_2a hf) (congrArg (wM ad cA) (x_2b hf)) dX8_select_9
set_option maxHeartbeats 4000000 in
set_option maxRecDepth 100000 in
theorem ctX8_ends (l : Launch) (D : va_G) (cA : ClassId) {ad : Nat → Nat} (hj : x_inj 20 ad) (σ : x_M) (p1 : Int32) (r0 : Int32) (σ0 : x_M) (hf : fX8_ends σ p1 = some (r0, σ0)) : Met l yX8_ends zX8_ends ({ frames := 0, cells := 0, slots := 0, locals := 0 } : Room) (x_P D cA [.ref (ad 0), .int p1] (wM ad cA σ)) (x_U D (some (.int r0)) (wM ad cA σ0) (x_A 20 ad)) 0 0 (x_A 20 ad) := by
  refine x_met (cc := cX8_ends) (maxL := 2) (ret := (some .int)) RX8 rfl (by decide) rfl [(0, .ref (ad 0)), (1, .int p1)] rfl (Nat.le_of_ble_eq_true rfl) ?_
  intro p e s m args below meth c hr X
  refine xj_w (A := x_A 20 ad) ?_
  rw [fX8_ends] at hf
  refine xj_aload_n X 0 dX8_ends_0 rfl rfl ?_
  refine xj_get X x_IW.P inG_X8 0 (wM_at0 ad cA σ) rfl 33 (by decide) mk3_118 (.ref (ad 17)) rfl dX8_ends_1 ?_
  refine xj_iload_n X 1 dX8_ends_4 rfl rfl ?_
  refine xj_dup2 X dX8_ends_5 rfl rfl ?_
  refine xj_iald X x_IW.P 17 (wM_at17 ad cA σ) hf ((σ 17) p1.toNatClampNeg) rfl dX8_ends_6 (fun hf => ?_)
  refine xj_iconst (x := (1 : Int32)) X dX8_ends_7 rfl ?_
  refine xj_iadd X dX8_ends_8 ?_
  refine xj_iast X (wM_D hj cA _) 17 (wM_at17 ad cA σ) hf (wM_ar17 ad cA σ p1.toNatClampNeg (((σ 17) p1.toNatClampNeg) + ((1 : Int32)))) dX8_ends_9 (fun hf => ?_)
  refine xj_aload_n X 0 dX8_ends_10 rfl rfl ?_
  refine xj_get X x_IW.P inG_X8 0 (wM_at0 ad cA (up2 σ 17 p1.toNatClampNeg (((σ 17) p1.toNatClampNeg) + ((1 : Int32))))) rfl 34 (by decide) mk3_119 (.ref (ad 18)) rfl dX8_ends_11 ?_
  refine xj_iload_n X 1 dX8_ends_14 rfl rfl ?_
  refine xj_dup2 X dX8_ends_15 rfl rfl ?_
  refine xj_iald X x_IW.P 18 (wM_at18 ad cA (up2 σ 17 p1.toNatClampNeg (((σ 17) p1.toNatClampNeg) + ((1 : Int32))))) hf ((σ 18) p1.toNatClampNeg) rfl dX8_ends_16 (fun hf => ?_)
  refine xj_aload_n X 0 dX8_ends_17 rfl rfl ?_
  refine xj_get X x_IW.P inG_X8 0 (wM_at0 ad cA (up2 σ 17 p1.toNatClampNeg (((σ 17) p1.toNatClampNeg) + ((1 : Int32))))) rfl 29 (by decide) mk3_114 (.int (σ 0 29)) rfl dX8_ends_18 ?_
  refine xj_iadd X dX8_ends_21 ?_
  refine xj_iast X (wM_D hj cA _) 18 (wM_at18 ad cA (up2 σ 17 p1.toNatClampNeg (((σ 17) p1.toNatClampNeg) + ((1 : Int32))))) hf (wM_ar18 ad cA (up2 σ 17 p1.toNatClampNeg (((σ 17) p1.toNatClampNeg) + ((1 : Int32)))) p1.toNatClampNeg (((σ 18) p1.toNatClampNeg) + (σ 0 29))) dX8_ends_22 (fun hf => ?_)
  refine xj_aload_n X 0 dX8_ends_23 rfl rfl ?_
  refine xj_dup X dX8_ends_24 rfl ?_
  refine xj_get X x_IW.P inG_X8 0 (wM_at0 ad cA (up2 (up2 σ 17 p1.toNatClampNeg (((σ 17) p1.toNatClampNeg) + ((1 : Int32)))) 18 p1.toNatClampNeg (((σ 18) p1.toNatClampNeg) + (σ 0 29)))) rfl 14 (by decide) mk3_99 (.int (σ 0 14)) rfl dX8_ends_25 ?_
  refine xj_iload_n X 1 dX8_ends_28 rfl rfl ?_
  refine xj_iconst (x := (1 : Int32)) X dX8_ends_29 rfl ?_
  refine xj_icmp_ne (tgt := 46) X dX8_ends_30 rfl hf (fun hf => ?_) (fun hf => ?_)
  · refine xj_iconst (x := (0 : Int32)) X dX8_ends_46 rfl ?_
    refine xj_iadd X dX8_ends_47 ?_
    refine xj_put X (wM_D hj cA _) inG_X8 tyX8_ok nmX8 0 (wM_at0 ad cA (up2 (up2 σ 17 p1.toNatClampNeg (((σ 17) p1.toNatClampNeg) + ((1 : Int32)))) 18 p1.toNatClampNeg (((σ 18) p1.toNatClampNeg) + (σ 0 29)))) rfl 14 (by decide) mk3_99 rfl .int rfl rfl rfl (Nat.le_of_ble_eq_true rfl) (wM_st0_14 ad cA (up2 (up2 σ 17 p1.toNatClampNeg (((σ 17) p1.toNatClampNeg) + ((1 : Int32)))) 18 p1.toNatClampNeg (((σ 18) p1.toNatClampNeg) + (σ 0 29))) ((σ 0 14) + ((0 : Int32)))) dX8_ends_48 ?_
    refine xj_iload_n X 1 dX8_ends_51 rfl rfl ?_
    exact xj_iret_wr X hr (x_2a hf) (congrArg (wM ad cA) (x_2b hf)) dX8_ends_52
  · refine xj_aload_n X 0 dX8_ends_33 rfl rfl ?_
    refine xj_get X x_IW.P inG_X8 0 (wM_at0 ad cA (up2 (up2 σ 17 p1.toNatClampNeg (((σ 17) p1.toNatClampNeg) + ((1 : Int32)))) 18 p1.toNatClampNeg (((σ 18) p1.toNatClampNeg) + (σ 0 29)))) rfl 14 (by decide) mk3_99 (.int (σ 0 14)) rfl dX8_ends_34 ?_
    refine xj_bipush (x := (15 : Int32)) X dX8_ends_37 rfl ?_
    refine xj_icmp_ge (tgt := 46) X dX8_ends_39 rfl hf (fun hf => ?_) (fun hf => ?_)
    · refine xj_iconst (x := (0 : Int32)) X dX8_ends_46 rfl ?_
      refine xj_iadd X dX8_ends_47 ?_
      refine xj_put X (wM_D hj cA _) inG_X8 tyX8_ok nmX8 0 (wM_at0 ad cA (up2 (up2 σ 17 p1.toNatClampNeg (((σ 17) p1.toNatClampNeg) + ((1 : Int32)))) 18 p1.toNatClampNeg (((σ 18) p1.toNatClampNeg) + (σ 0 29)))) rfl 14 (by decide) mk3_99 rfl .int rfl rfl rfl (Nat.le_of_ble_eq_true rfl) (wM_st0_14 ad cA (up2 (up2 σ 17 p1.toNatClampNeg (((σ 17) p1.toNatClampNeg) + ((1 : Int32)))) 18 p1.toNatClampNeg (((σ 18) p1.toNatClampNeg) + (σ 0 29))) ((σ 0 14) + ((0 : Int32)))) dX8_ends_48 ?_
      refine xj_iload_n X 1 dX8_ends_51 rfl rfl ?_
      exact xj_iret_wr X hr (x_2a hf) (congrArg (wM ad cA) (x_2b hf)) dX8_ends_52
    · refine xj_iconst (x := (1 : Int32)) X dX8_ends_42 rfl ?_
      refine xj_goto (tgt := 47) X dX8_ends_43 rfl ?_
      refine xj_iadd X dX8_ends_47 ?_
      refine xj_put X (wM_D hj cA _) inG_X8 tyX8_ok nmX8 0 (wM_at0 ad cA (up2 (up2 σ 17 p1.toNatClampNeg (((σ 17) p1.toNatClampNeg) + ((1 : Int32)))) 18 p1.toNatClampNeg (((σ 18) p1.toNatClampNeg) + (σ 0 29)))) rfl 14 (by decide) mk3_99 rfl .int rfl rfl rfl (Nat.le_of_ble_eq_true rfl) (wM_st0_14 ad cA (up2 (up2 σ 17 p1.toNatClampNeg (((σ 17) p1.toNatClampNeg) + ((1 : Int32)))) 18 p1.toNatClampNeg (((σ 18) p1.toNatClampNeg) + (σ 0 29))) ((σ 0 14) + ((1 : Int32)))) dX8_ends_48 ?_
      refine xj_iload_n X 1 dX8_ends_51 rfl rfl ?_
      exact xj_iret_wr X hr (x_2a hf) (congrArg (wM ad cA) (x_2b hf)) dX8_ends_52
set_option maxHeartbeats 4000000 in
set_option maxRecDepth 100000 in
theorem ctX8_byDefault (l : Launch) (D : va_G) (cA : ClassId) {ad : Nat → Nat} (hj : x_inj 20 ad) (σ : x_M) (r0 : Int32) (σ0 : x_M) (hf : fX8_byDefault σ = some (r0, σ0)) : Met l yX8_byDefault zX8_byDefault ({ frames := 1, cells := 0, slots := 0, locals := 21 } : Room) (x_P D cA [.ref (ad 0)] (wM ad cA σ)) (x_U D (some (.int r0)) (wM ad cA σ0) (x_A 20 ad)) 0 0 (x_A 20 ad) := by
  refine x_met (cc := cX8_byDefault) (maxL := 1) (ret := (some .int)) RX8 rfl (by decide) rfl [(0, .ref (ad 0))] rfl (Nat.le_of_ble_eq_true rfl) ?_
  intro p e s m args below meth c hr X
  refine xj_w (A := x_A 20 ad) ?_
  rw [fX8_byDefault] at hf
  refine xj_aload_n X 0 dX8_byDefault_0 rfl rfl ?_
  refine xj_aload_n X 0 dX8_byDefault_1 rfl rfl ?_
  refine xj_get X x_IW.P inG_X8 0 (wM_at0 ad cA σ) rfl 28 (by decide) mk3_113 (.int (σ 0 28)) rfl dX8_byDefault_2 ?_
  refine xj_aload_n X 0 dX8_byDefault_5 rfl rfl ?_
  refine xj_get X x_IW.P inG_X8 0 (wM_at0 ad cA σ) rfl 20 (by decide) mk3_105 (.ref (ad 15)) rfl dX8_byDefault_6 ?_
  refine xj_iconst (x := (2 : Int32)) X dX8_byDefault_9 rfl ?_
  refine xj_iald X x_IW.P 15 (wM_at15 ad cA σ) hf ((σ 15) ((2 : Int32)).toNatClampNeg) rfl dX8_byDefault_10 (fun hf => ?_)
  refine xj_aload_n X 0 dX8_byDefault_11 rfl rfl ?_
  refine xj_get X x_IW.P inG_X8 0 (wM_at0 ad cA σ) rfl 13 (by decide) mk3_98 (.ref (ad 11)) rfl dX8_byDefault_12 ?_
  refine xj_iconst (x := (2 : Int32)) X dX8_byDefault_15 rfl ?_
  refine xj_iald X x_IW.P 11 (wM_at11 ad cA σ) hf ((σ 11) ((2 : Int32)).toNatClampNeg) rfl dX8_byDefault_16 (fun hf => ?_)
  refine xj_ior X dX8_byDefault_17 ?_
  refine xj_iand X dX8_byDefault_18 ?_
  refine xj_if_eq (tgt := 26) X dX8_byDefault_19 rfl hf (fun hf => ?_) (fun hf => ?_)
  · refine xj_iconst (x := (1 : Int32)) X dX8_byDefault_26 rfl ?_
    obtain ⟨x1_27, hx1_27, hf⟩ := x_bind hf
    refine xj_wrI (r := x1_27.1) (rest := []) (x_runV X (ctX8_ends l D cA hj σ ((1 : Int32)) x1_27.1 x1_27.2 hx1_27) (x_cwV X kwX8_ends mk4_77 rfl rfl ⟨Nat.le_of_ble_eq_true rfl, Nat.le_of_ble_eq_true rfl⟩) x_IW.P 0 (wM_at0 ad cA σ) rfl rfl rfl (Nat.le_of_ble_eq_true rfl) dX8_byDefault_27 ⟨Nat.zero_le _, Nat.zero_le _⟩) (fun _ _ _ h _ => h) (fun _ h => h) ?_
    exact xj_iret_wr X hr (x_2a hf) (congrArg (wM ad cA) (x_2b hf)) dX8_byDefault_30
  · refine xj_iconst (x := (0 : Int32)) X dX8_byDefault_22 rfl ?_
    refine xj_goto (tgt := 27) X dX8_byDefault_23 rfl ?_
    obtain ⟨x2_27, hx2_27, hf⟩ := x_bind hf
    refine xj_wrI (r := x2_27.1) (rest := []) (x_runV X (ctX8_ends l D cA hj σ ((0 : Int32)) x2_27.1 x2_27.2 hx2_27) (x_cwV X kwX8_ends mk4_77 rfl rfl ⟨Nat.le_of_ble_eq_true rfl, Nat.le_of_ble_eq_true rfl⟩) x_IW.P 0 (wM_at0 ad cA σ) rfl rfl rfl (Nat.le_of_ble_eq_true rfl) dX8_byDefault_27 ⟨Nat.zero_le _, Nat.zero_le _⟩) (fun _ _ _ h _ => h) (fun _ h => h) ?_
    exact xj_iret_wr X hr (x_2a hf) (congrArg (wM ad cA) (x_2b hf)) dX8_byDefault_30
set_option maxHeartbeats 4000000 in
set_option maxRecDepth 100000 in
theorem ctX8_start (l : Launch) (D : va_G) (cA : ClassId) {ad : Nat → Nat} (hj : x_inj 20 ad) (σ : x_M) (p1 : Int32) (p2 : Int32) (r0 : Int32) (σ0 : x_M) (hf : fX8_start σ p1 p2 = some (r0, σ0)) : Met l yX8_start zX8_start ({ frames := 2, cells := 0, slots := 0, locals := 41 } : Room) (x_P D cA [.ref (ad 0), .int p1, .int p2] (wM ad cA σ)) (x_U D (some (.int r0)) (wM ad cA σ0) (x_A 20 ad)) 0 0 (x_A 20 ad) := by
  refine x_met (cc := cX8_start) (maxL := 3) (ret := (some .int)) RX8 rfl (by decide) rfl [(0, .ref (ad 0)), (1, .int p1), (2, .int p2)] rfl (Nat.le_of_ble_eq_true rfl) ?_
  intro p e s m args below meth c hr X
  have B_159 : ∀ (σ : x_M) (w1 : Int32) (w2 : Int32), fX8_start_159 σ w1 w2 = some (r0, σ0) → x_J 3 p l e ({ frames := 2, cells := 0, slots := 0, locals := 41 } : Room) s m args below meth c 0 0 (x_IW D s (x_A 20 ad) (wM ad cA σ)) (MQ below (x_U D (some (.int r0)) (wM ad cA σ0) (x_A 20 ad)) args s 0 0 (x_A 20 ad)) 159 [(0, .ref (ad 0))] [.int w2, .int w1, .ref (ad 0)] := by
    intro  σ w1 w2 hf
    rw [fX8_start_159] at hf
    refine xj_ior X dX8_start_159 ?_
    refine xj_put X (wM_D hj cA _) inG_X8 tyX8_ok nmX8 0 (wM_at0 ad cA σ) rfl 28 (by decide) mk3_113 rfl .int rfl rfl rfl (Nat.le_of_ble_eq_true rfl) (wM_st0_28 ad cA σ (w1 ||| w2)) dX8_start_160 ?_
    refine xj_aload_n X 0 dX8_start_163 rfl rfl ?_
    refine xj_get X x_IW.P inG_X8 0 (wM_at0 ad cA (up2 σ 0 28 (w1 ||| w2))) rfl 28 (by decide) mk3_113 (.int (w1 ||| w2)) rfl dX8_start_164 ?_
    refine xj_aload_n X 0 dX8_start_167 rfl rfl ?_
    refine xj_get X x_IW.P inG_X8 0 (wM_at0 ad cA (up2 σ 0 28 (w1 ||| w2))) rfl 20 (by decide) mk3_105 (.ref (ad 15)) rfl dX8_start_168 ?_
    refine xj_iconst (x := (0 : Int32)) X dX8_start_171 rfl ?_
    refine xj_iald X x_IW.P 15 (wM_at15 ad cA (up2 σ 0 28 (w1 ||| w2))) hf ((σ 15) ((0 : Int32)).toNatClampNeg) rfl dX8_start_172 (fun hf => ?_)
    refine xj_aload_n X 0 dX8_start_173 rfl rfl ?_
    refine xj_get X x_IW.P inG_X8 0 (wM_at0 ad cA (up2 σ 0 28 (w1 ||| w2))) rfl 13 (by decide) mk3_98 (.ref (ad 11)) rfl dX8_start_174 ?_
    refine xj_iconst (x := (0 : Int32)) X dX8_start_177 rfl ?_
    refine xj_iald X x_IW.P 11 (wM_at11 ad cA (up2 σ 0 28 (w1 ||| w2))) hf ((σ 11) ((0 : Int32)).toNatClampNeg) rfl dX8_start_178 (fun hf => ?_)
    refine xj_ior X dX8_start_179 ?_
    refine xj_iand X dX8_start_180 ?_
    refine xj_if_eq (tgt := 190) X dX8_start_181 rfl hf (fun hf => ?_) (fun hf => ?_)
    · refine xj_aload_n X 0 dX8_start_190 rfl rfl ?_
      refine xj_get X x_IW.P inG_X8 0 (wM_at0 ad cA (up2 σ 0 28 (w1 ||| w2))) rfl 25 (by decide) mk3_110 (.int (σ 0 25)) rfl dX8_start_191 ?_
      refine xj_if_eq (tgt := 205) X dX8_start_194 rfl hf (fun hf => ?_) (fun hf => ?_)
      · refine xj_aload_n X 0 dX8_start_205 rfl rfl ?_
        obtain ⟨x1_206, hx1_206, hf⟩ := x_bind hf
        refine xj_wrI (r := x1_206.1) (rest := []) (x_runV X (ctX8_byDefault l D cA hj (up2 σ 0 28 (w1 ||| w2)) x1_206.1 x1_206.2 hx1_206) (x_cwV X kwX8_byDefault mk4_81 rfl rfl ⟨Nat.le_of_ble_eq_true rfl, Nat.le_of_ble_eq_true rfl⟩) x_IW.P 0 (wM_at0 ad cA (up2 σ 0 28 (w1 ||| w2))) rfl rfl rfl (Nat.le_of_ble_eq_true rfl) dX8_start_206 ⟨Nat.zero_le _, Nat.zero_le _⟩) (fun _ _ _ h _ => h) (fun _ h => h) ?_
        exact xj_iret_wr X hr (x_2a hf) (congrArg (wM ad cA) (x_2b hf)) dX8_start_209
      · refine xj_aload_n X 0 dX8_start_197 rfl rfl ?_
        refine xj_get X x_IW.P inG_X8 0 (wM_at0 ad cA (up2 σ 0 28 (w1 ||| w2))) rfl 32 (by decide) mk3_117 (.int (σ 0 32)) rfl dX8_start_198 ?_
        refine xj_iconst (x := (3 : Int32)) X dX8_start_201 rfl ?_
        refine xj_icmp_ne (tgt := 210) X dX8_start_202 rfl hf (fun hf => ?_) (fun hf => ?_)
        · refine xj_aload_n X 0 dX8_start_210 rfl rfl ?_
          refine xj_get X x_IW.P inG_X8 0 (wM_at0 ad cA (up2 σ 0 28 (w1 ||| w2))) rfl 28 (by decide) mk3_113 (.int (w1 ||| w2)) rfl dX8_start_211 ?_
          refine xj_aload_n X 0 dX8_start_214 rfl rfl ?_
          refine xj_get X x_IW.P inG_X8 0 (wM_at0 ad cA (up2 σ 0 28 (w1 ||| w2))) rfl 20 (by decide) mk3_105 (.ref (ad 15)) rfl dX8_start_215 ?_
          refine xj_iconst (x := (1 : Int32)) X dX8_start_218 rfl ?_
          refine xj_iald X x_IW.P 15 (wM_at15 ad cA (up2 σ 0 28 (w1 ||| w2))) hf ((σ 15) ((1 : Int32)).toNatClampNeg) rfl dX8_start_219 (fun hf => ?_)
          refine xj_aload_n X 0 dX8_start_220 rfl rfl ?_
          refine xj_get X x_IW.P inG_X8 0 (wM_at0 ad cA (up2 σ 0 28 (w1 ||| w2))) rfl 13 (by decide) mk3_98 (.ref (ad 11)) rfl dX8_start_221 ?_
          refine xj_iconst (x := (1 : Int32)) X dX8_start_224 rfl ?_
          refine xj_iald X x_IW.P 11 (wM_at11 ad cA (up2 σ 0 28 (w1 ||| w2))) hf ((σ 11) ((1 : Int32)).toNatClampNeg) rfl dX8_start_225 (fun hf => ?_)
          refine xj_ior X dX8_start_226 ?_
          refine xj_iand X dX8_start_227 ?_
          refine xj_if_ne (tgt := 237) X dX8_start_228 rfl hf (fun hf => ?_) (fun hf => ?_)
          · refine xj_aload_n X 0 dX8_start_237 rfl rfl ?_
            refine xj_iconst (x := (1 : Int32)) X dX8_start_238 rfl ?_
            refine xj_put X (wM_D hj cA _) inG_X8 tyX8_ok nmX8 0 (wM_at0 ad cA (up2 σ 0 28 (w1 ||| w2))) rfl 30 (by decide) mk3_115 rfl .boolean rfl rfl rfl (Nat.le_of_ble_eq_true rfl) (wM_st0_30 ad cA (up2 σ 0 28 (w1 ||| w2)) ((1 : Int32))) dX8_start_239 ?_
            refine xj_iconst (x := (3 : Int32)) X dX8_start_242 rfl ?_
            exact xj_iret_wr X hr (x_2a hf) (congrArg (wM ad cA) (x_2b hf)) dX8_start_243
          · refine xj_aload_n X 0 dX8_start_231 rfl rfl ?_
            refine xj_iconst (x := (1 : Int32)) X dX8_start_232 rfl ?_
            obtain ⟨x2_233, hx2_233, hf⟩ := x_bind hf
            refine xj_wrI (r := x2_233.1) (rest := []) (x_runV X (ctX8_ends l D cA hj (up2 σ 0 28 (w1 ||| w2)) ((1 : Int32)) x2_233.1 x2_233.2 hx2_233) (x_cwV X kwX8_ends mk4_77 rfl rfl ⟨Nat.le_of_ble_eq_true rfl, Nat.le_of_ble_eq_true rfl⟩) x_IW.P 0 (wM_at0 ad cA (up2 σ 0 28 (w1 ||| w2))) rfl rfl rfl (Nat.le_of_ble_eq_true rfl) dX8_start_233 ⟨Nat.zero_le _, Nat.zero_le _⟩) (fun _ _ _ h _ => h) (fun _ h => h) ?_
            exact xj_iret_wr X hr (x_2a hf) (congrArg (wM ad cA) (x_2b hf)) dX8_start_236
        · refine xj_aload_n X 0 dX8_start_205 rfl rfl ?_
          obtain ⟨x3_206, hx3_206, hf⟩ := x_bind hf
          refine xj_wrI (r := x3_206.1) (rest := []) (x_runV X (ctX8_byDefault l D cA hj (up2 σ 0 28 (w1 ||| w2)) x3_206.1 x3_206.2 hx3_206) (x_cwV X kwX8_byDefault mk4_81 rfl rfl ⟨Nat.le_of_ble_eq_true rfl, Nat.le_of_ble_eq_true rfl⟩) x_IW.P 0 (wM_at0 ad cA (up2 σ 0 28 (w1 ||| w2))) rfl rfl rfl (Nat.le_of_ble_eq_true rfl) dX8_start_206 ⟨Nat.zero_le _, Nat.zero_le _⟩) (fun _ _ _ h _ => h) (fun _ h => h) ?_
          exact xj_iret_wr X hr (x_2a hf) (congrArg (wM ad cA) (x_2b hf)) dX8_start_209
    · refine xj_aload_n X 0 dX8_start_184 rfl rfl ?_
      refine xj_iconst (x := (0 : Int32)) X dX8_start_185 rfl ?_
      obtain ⟨x4_186, hx4_186, hf⟩ := x_bind hf
      refine xj_wrI (r := x4_186.1) (rest := []) (x_runV X (ctX8_ends l D cA hj (up2 σ 0 28 (w1 ||| w2)) ((0 : Int32)) x4_186.1 x4_186.2 hx4_186) (x_cwV X kwX8_ends mk4_77 rfl rfl ⟨Nat.le_of_ble_eq_true rfl, Nat.le_of_ble_eq_true rfl⟩) x_IW.P 0 (wM_at0 ad cA (up2 σ 0 28 (w1 ||| w2))) rfl rfl rfl (Nat.le_of_ble_eq_true rfl) dX8_start_186 ⟨Nat.zero_le _, Nat.zero_le _⟩) (fun _ _ _ h _ => h) (fun _ h => h) ?_
      exact xj_iret_wr X hr (x_2a hf) (congrArg (wM ad cA) (x_2b hf)) dX8_start_189
  have B_145 : ∀ (σ : x_M) (w1 : Int32) (w2 : Int32), fX8_start_145 σ w1 w2 = some (r0, σ0) → x_J 3 p l e ({ frames := 2, cells := 0, slots := 0, locals := 41 } : Room) s m args below meth c 0 0 (x_IW D s (x_A 20 ad) (wM ad cA σ)) (MQ below (x_U D (some (.int r0)) (wM ad cA σ0) (x_A 20 ad)) args s 0 0 (x_A 20 ad)) 145 [(0, .ref (ad 0))] [.int w2, .int w1, .ref (ad 0)] := by
    intro  σ w1 w2 hf
    rw [fX8_start_145] at hf
    refine xj_ior X dX8_start_145 ?_
    refine xj_aload_n X 0 dX8_start_146 rfl rfl ?_
    refine xj_get X x_IW.P inG_X8 0 (wM_at0 ad cA σ) rfl 32 (by decide) mk3_117 (.int (σ 0 32)) rfl dX8_start_147 ?_
    refine xj_if_le (tgt := 158) X dX8_start_150 rfl hf (fun hf => ?_) (fun hf => ?_)
    · refine xj_iconst (x := (0 : Int32)) X dX8_start_158 rfl ?_
      exact (B_159 σ (w1 ||| w2) ((0 : Int32)) hf)
    · refine xj_bipush (x := (32 : Int32)) X dX8_start_153 rfl ?_
      refine xj_goto (tgt := 159) X dX8_start_155 rfl ?_
      exact (B_159 σ (w1 ||| w2) ((32 : Int32)) hf)
  have B_131 : ∀ (σ : x_M) (w1 : Int32) (w2 : Int32), fX8_start_131 σ w1 w2 = some (r0, σ0) → x_J 3 p l e ({ frames := 2, cells := 0, slots := 0, locals := 41 } : Room) s m args below meth c 0 0 (x_IW D s (x_A 20 ad) (wM ad cA σ)) (MQ below (x_U D (some (.int r0)) (wM ad cA σ0) (x_A 20 ad)) args s 0 0 (x_A 20 ad)) 131 [(0, .ref (ad 0))] [.int w2, .int w1, .ref (ad 0)] := by
    intro  σ w1 w2 hf
    rw [fX8_start_131] at hf
    refine xj_ior X dX8_start_131 ?_
    refine xj_aload_n X 0 dX8_start_132 rfl rfl ?_
    refine xj_get X x_IW.P inG_X8 0 (wM_at0 ad cA σ) rfl 15 (by decide) mk3_100 (.int (σ 0 15)) rfl dX8_start_133 ?_
    refine xj_if_eq (tgt := 144) X dX8_start_136 rfl hf (fun hf => ?_) (fun hf => ?_)
    · refine xj_iconst (x := (0 : Int32)) X dX8_start_144 rfl ?_
      exact (B_145 σ (w1 ||| w2) ((0 : Int32)) hf)
    · refine xj_bipush (x := (16 : Int32)) X dX8_start_139 rfl ?_
      refine xj_goto (tgt := 145) X dX8_start_141 rfl ?_
      exact (B_145 σ (w1 ||| w2) ((16 : Int32)) hf)
  have B_113 : ∀ (σ : x_M) (w1 : Int32) (w2 : Int32), fX8_start_113 σ w1 w2 = some (r0, σ0) → x_J 3 p l e ({ frames := 2, cells := 0, slots := 0, locals := 41 } : Room) s m args below meth c 0 0 (x_IW D s (x_A 20 ad) (wM ad cA σ)) (MQ below (x_U D (some (.int r0)) (wM ad cA σ0) (x_A 20 ad)) args s 0 0 (x_A 20 ad)) 113 [(0, .ref (ad 0))] [.int w2, .int w1, .ref (ad 0)] := by
    intro  σ w1 w2 hf
    rw [fX8_start_113] at hf
    refine xj_ior X dX8_start_113 ?_
    refine xj_aload_n X 0 dX8_start_114 rfl rfl ?_
    refine xj_get X x_IW.P inG_X8 0 (wM_at0 ad cA σ) rfl 14 (by decide) mk3_99 (.int (σ 0 14)) rfl dX8_start_115 ?_
    refine xj_aload_n X 0 dX8_start_118 rfl rfl ?_
    refine xj_get X x_IW.P inG_X8 0 (wM_at0 ad cA σ) rfl 23 (by decide) mk3_108 (.int (σ 0 23)) rfl dX8_start_119 ?_
    refine xj_icmp_lt (tgt := 130) X dX8_start_122 rfl hf (fun hf => ?_) (fun hf => ?_)
    · refine xj_iconst (x := (0 : Int32)) X dX8_start_130 rfl ?_
      exact (B_131 σ (w1 ||| w2) ((0 : Int32)) hf)
    · refine xj_bipush (x := (8 : Int32)) X dX8_start_125 rfl ?_
      refine xj_goto (tgt := 131) X dX8_start_127 rfl ?_
      exact (B_131 σ (w1 ||| w2) ((8 : Int32)) hf)
  have B_96 : ∀ (σ : x_M) (w1 : Int32) (w2 : Int32), fX8_start_96 σ w1 w2 = some (r0, σ0) → x_J 3 p l e ({ frames := 2, cells := 0, slots := 0, locals := 41 } : Room) s m args below meth c 0 0 (x_IW D s (x_A 20 ad) (wM ad cA σ)) (MQ below (x_U D (some (.int r0)) (wM ad cA σ0) (x_A 20 ad)) args s 0 0 (x_A 20 ad)) 96 [(0, .ref (ad 0))] [.int w2, .int w1, .ref (ad 0)] := by
    intro  σ w1 w2 hf
    rw [fX8_start_96] at hf
    refine xj_ior X dX8_start_96 ?_
    refine xj_aload_n X 0 dX8_start_97 rfl rfl ?_
    refine xj_get X x_IW.P inG_X8 0 (wM_at0 ad cA σ) rfl 14 (by decide) mk3_99 (.int (σ 0 14)) rfl dX8_start_98 ?_
    refine xj_aload_n X 0 dX8_start_101 rfl rfl ?_
    refine xj_get X x_IW.P inG_X8 0 (wM_at0 ad cA σ) rfl 22 (by decide) mk3_107 (.int (σ 0 22)) rfl dX8_start_102 ?_
    refine xj_icmp_lt (tgt := 112) X dX8_start_105 rfl hf (fun hf => ?_) (fun hf => ?_)
    · refine xj_iconst (x := (0 : Int32)) X dX8_start_112 rfl ?_
      exact (B_113 σ (w1 ||| w2) ((0 : Int32)) hf)
    · refine xj_iconst (x := (4 : Int32)) X dX8_start_108 rfl ?_
      refine xj_goto (tgt := 113) X dX8_start_109 rfl ?_
      exact (B_113 σ (w1 ||| w2) ((4 : Int32)) hf)
  have B_83 : ∀ (σ : x_M) (v2 : Int32) (w1 : Int32), fX8_start_83 σ v2 w1 = some (r0, σ0) → x_J 3 p l e ({ frames := 2, cells := 0, slots := 0, locals := 41 } : Room) s m args below meth c 0 0 (x_IW D s (x_A 20 ad) (wM ad cA σ)) (MQ below (x_U D (some (.int r0)) (wM ad cA σ0) (x_A 20 ad)) args s 0 0 (x_A 20 ad)) 83 [(0, .ref (ad 0)), (2, .int v2)] [.int w1, .ref (ad 0)] := by
    intro  σ v2 w1 hf
    rw [fX8_start_83] at hf
    refine xj_iload_n X 1 dX8_start_83 rfl rfl ?_
    refine xj_aload_n X 0 dX8_start_84 rfl rfl ?_
    refine xj_get X x_IW.P inG_X8 0 (wM_at0 ad cA σ) rfl 24 (by decide) mk3_109 (.int (σ 0 24)) rfl dX8_start_85 ?_
    refine xj_icmp_ge (tgt := 95) X dX8_start_88 rfl hf (fun hf => ?_) (fun hf => ?_)
    · refine xj_iconst (x := (0 : Int32)) X dX8_start_95 rfl ?_
      exact xj_sub [0] rfl (B_96 σ w1 ((0 : Int32)) hf)
    · refine xj_iconst (x := (2 : Int32)) X dX8_start_91 rfl ?_
      refine xj_goto (tgt := 96) X dX8_start_92 rfl ?_
      exact xj_sub [0] rfl (B_96 σ w1 ((2 : Int32)) hf)
  refine xj_w (A := x_A 20 ad) ?_
  rw [fX8_start] at hf
  refine xj_iload_n X 1 dX8_start_0 rfl rfl ?_
  refine xj_iconst (x := (1 : Int32)) X dX8_start_1 rfl ?_
  refine xj_ldc X mk4_40 dX8_start_2 ?_
  refine xj_roI (r := b2i (fX8_in p1 ((1 : Int32)) ((99999 : Int32)))) (rest := []) (fun _ h => h) (x_runS X (ctX8_in l D cA ad σ p1 ((1 : Int32)) ((99999 : Int32)) _ rfl) (x_cwS X kwX8_in mk3_201 rfl rfl ⟨Nat.le_of_ble_eq_true rfl, Nat.le_of_ble_eq_true rfl⟩) x_IW.P rfl rfl (Nat.le_of_ble_eq_true rfl) dX8_start_4 ⟨Nat.zero_le _, Nat.zero_le _⟩) ?_
  refine xj_if_eq (tgt := 20) X dX8_start_7 rfl hf (fun hf => ?_) (fun hf => ?_)
  · refine xj_iconst (x := (-1 : Int32)) X dX8_start_20 rfl ?_
    exact xj_iret_wr X hr (x_2a hf) (congrArg (wM ad cA) (x_2b hf)) dX8_start_21
  · refine xj_iload_n X 2 dX8_start_10 rfl rfl ?_
    refine xj_iconst (x := (0 : Int32)) X dX8_start_11 rfl ?_
    refine xj_bipush (x := (99 : Int32)) X dX8_start_12 rfl ?_
    refine xj_roI (r := b2i (fX8_in p2 ((0 : Int32)) ((99 : Int32)))) (rest := []) (fun _ h => h) (x_runS X (ctX8_in l D cA ad σ p2 ((0 : Int32)) ((99 : Int32)) _ rfl) (x_cwS X kwX8_in mk3_201 rfl rfl ⟨Nat.le_of_ble_eq_true rfl, Nat.le_of_ble_eq_true rfl⟩) x_IW.P rfl rfl (Nat.le_of_ble_eq_true rfl) dX8_start_14 ⟨Nat.zero_le _, Nat.zero_le _⟩) ?_
    refine xj_if_ne (tgt := 22) X dX8_start_17 rfl hf (fun hf => ?_) (fun hf => ?_)
    · refine xj_aload_n X 0 dX8_start_22 rfl rfl ?_
      refine xj_get X x_IW.P inG_X8 0 (wM_at0 ad cA σ) rfl 26 (by decide) mk3_111 (.int (σ 0 26)) rfl dX8_start_23 ?_
      refine xj_bipush (x := (-4 : Int32)) X dX8_start_26 rfl ?_
      refine xj_icmp_eq (tgt := 38) X dX8_start_28 rfl hf (fun hf => ?_) (fun hf => ?_)
      · refine xj_bipush (x := (-2 : Int32)) X dX8_start_38 rfl ?_
        exact xj_iret_wr X hr (x_2a hf) (congrArg (wM ad cA) (x_2b hf)) dX8_start_40
      · refine xj_aload_n X 0 dX8_start_31 rfl rfl ?_
        refine xj_get X x_IW.P inG_X8 0 (wM_at0 ad cA σ) rfl 30 (by decide) mk3_115 (.int (σ 0 30)) rfl dX8_start_32 ?_
        refine xj_if_eq (tgt := 41) X dX8_start_35 rfl hf (fun hf => ?_) (fun hf => ?_)
        · refine xj_aload_n X 0 dX8_start_41 rfl rfl ?_
          refine xj_get X x_IW.P inG_X8 0 (wM_at0 ad cA σ) rfl 27 (by decide) mk3_112 (.int (σ 0 27)) rfl dX8_start_42 ?_
          refine xj_sipush (x := (999 : Int32)) X dX8_start_45 rfl ?_
          refine xj_icmp_ne (tgt := 54) X dX8_start_48 rfl hf (fun hf => ?_) (fun hf => ?_)
          · refine xj_aload_n X 0 dX8_start_54 rfl rfl ?_
            refine xj_dup X dX8_start_55 rfl ?_
            refine xj_get X x_IW.P inG_X8 0 (wM_at0 ad cA σ) rfl 27 (by decide) mk3_112 (.int (σ 0 27)) rfl dX8_start_56 ?_
            refine xj_iconst (x := (1 : Int32)) X dX8_start_59 rfl ?_
            refine xj_iadd X dX8_start_60 ?_
            refine xj_put X (wM_D hj cA _) inG_X8 tyX8_ok nmX8 0 (wM_at0 ad cA σ) rfl 27 (by decide) mk3_112 rfl .int rfl rfl rfl (Nat.le_of_ble_eq_true rfl) (wM_st0_27 ad cA σ ((σ 0 27) + ((1 : Int32)))) dX8_start_61 ?_
            refine xj_aload_n X 0 dX8_start_64 rfl rfl ?_
            refine xj_iload_n X 1 dX8_start_65 rfl rfl ?_
            refine xj_put X (wM_D hj cA _) inG_X8 tyX8_ok nmX8 0 (wM_at0 ad cA (up2 σ 0 27 ((σ 0 27) + ((1 : Int32))))) rfl 29 (by decide) mk3_114 rfl .int rfl rfl rfl (Nat.le_of_ble_eq_true rfl) (wM_st0_29 ad cA (up2 σ 0 27 ((σ 0 27) + ((1 : Int32)))) p1) dX8_start_66 ?_
            refine xj_aload_n X 0 dX8_start_69 rfl rfl ?_
            refine xj_iload_n X 1 dX8_start_70 rfl rfl ?_
            refine xj_aload_n X 0 dX8_start_71 rfl rfl ?_
            refine xj_get X x_IW.P inG_X8 0 (wM_at0 ad cA (up2 (up2 σ 0 27 ((σ 0 27) + ((1 : Int32)))) 0 29 p1)) rfl 21 (by decide) mk3_106 (.int (σ 0 21)) rfl dX8_start_72 ?_
            refine xj_icmp_lt (tgt := 82) X dX8_start_75 rfl hf (fun hf => ?_) (fun hf => ?_)
            · refine xj_iconst (x := (0 : Int32)) X dX8_start_82 rfl ?_
              exact xj_sub [0, 2] rfl (B_83 (up2 (up2 σ 0 27 ((σ 0 27) + ((1 : Int32)))) 0 29 p1) p2 ((0 : Int32)) hf)
            · refine xj_iconst (x := (1 : Int32)) X dX8_start_78 rfl ?_
              refine xj_goto (tgt := 83) X dX8_start_79 rfl ?_
              exact xj_sub [0, 2] rfl (B_83 (up2 (up2 σ 0 27 ((σ 0 27) + ((1 : Int32)))) 0 29 p1) p2 ((1 : Int32)) hf)
          · refine xj_bipush (x := (-3 : Int32)) X dX8_start_51 rfl ?_
            exact xj_iret_wr X hr (x_2a hf) (congrArg (wM ad cA) (x_2b hf)) dX8_start_53
        · refine xj_bipush (x := (-2 : Int32)) X dX8_start_38 rfl ?_
          exact xj_iret_wr X hr (x_2a hf) (congrArg (wM ad cA) (x_2b hf)) dX8_start_40
    · refine xj_iconst (x := (-1 : Int32)) X dX8_start_20 rfl ?_
      exact xj_iret_wr X hr (x_2a hf) (congrArg (wM ad cA) (x_2b hf)) dX8_start_21
set_option maxHeartbeats 4000000 in
set_option maxRecDepth 100000 in
theorem ctX8_answer (l : Launch) (D : va_G) (cA : ClassId) {ad : Nat → Nat} (hj : x_inj 20 ad) (σ : x_M) (p1 : Int32) (r0 : Int32) (σ0 : x_M) (hf : fX8_answer σ p1 = some (r0, σ0)) : Met l yX8_answer zX8_answer ({ frames := 2, cells := 0, slots := 0, locals := 41 } : Room) (x_P D cA [.ref (ad 0), .int p1] (wM ad cA σ)) (x_U D (some (.int r0)) (wM ad cA σ0) (x_A 20 ad)) 0 0 (x_A 20 ad) := by
  refine x_met (cc := cX8_answer) (maxL := 2) (ret := (some .int)) RX8 rfl (by decide) rfl [(0, .ref (ad 0)), (1, .int p1)] rfl (Nat.le_of_ble_eq_true rfl) ?_
  intro p e s m args below meth c hr X
  refine xj_w (A := x_A 20 ad) ?_
  rw [fX8_answer] at hf
  refine xj_iload_n X 1 dX8_answer_0 rfl rfl ?_
  refine xj_iconst (x := (0 : Int32)) X dX8_answer_1 rfl ?_
  refine xj_iconst (x := (2 : Int32)) X dX8_answer_2 rfl ?_
  refine xj_roI (r := b2i (fX8_in p1 ((0 : Int32)) ((2 : Int32)))) (rest := []) (fun _ h => h) (x_runS X (ctX8_in l D cA ad σ p1 ((0 : Int32)) ((2 : Int32)) _ rfl) (x_cwS X kwX8_in mk3_201 rfl rfl ⟨Nat.le_of_ble_eq_true rfl, Nat.le_of_ble_eq_true rfl⟩) x_IW.P rfl rfl (Nat.le_of_ble_eq_true rfl) dX8_answer_3 ⟨Nat.zero_le _, Nat.zero_le _⟩) ?_
  refine xj_if_ne (tgt := 11) X dX8_answer_6 rfl hf (fun hf => ?_) (fun hf => ?_)
  · refine xj_aload_n X 0 dX8_answer_11 rfl rfl ?_
    refine xj_get X x_IW.P inG_X8 0 (wM_at0 ad cA σ) rfl 30 (by decide) mk3_115 (.int (σ 0 30)) rfl dX8_answer_12 ?_
    refine xj_if_ne (tgt := 21) X dX8_answer_15 rfl hf (fun hf => ?_) (fun hf => ?_)
    · refine xj_aload_n X 0 dX8_answer_21 rfl rfl ?_
      refine xj_iconst (x := (0 : Int32)) X dX8_answer_22 rfl ?_
      refine xj_put X (wM_D hj cA _) inG_X8 tyX8_ok nmX8 0 (wM_at0 ad cA σ) rfl 30 (by decide) mk3_115 rfl .boolean rfl rfl rfl (Nat.le_of_ble_eq_true rfl) (wM_st0_30 ad cA σ ((0 : Int32))) dX8_answer_23 ?_
      refine xj_iload_n X 1 dX8_answer_26 rfl rfl ?_
      refine xj_if_ne (tgt := 36) X dX8_answer_27 rfl hf (fun hf => ?_) (fun hf => ?_)
      · refine xj_iload_n X 1 dX8_answer_36 rfl rfl ?_
        refine xj_iconst (x := (1 : Int32)) X dX8_answer_37 rfl ?_
        refine xj_icmp_ne (tgt := 57) X dX8_answer_38 rfl hf (fun hf => ?_) (fun hf => ?_)
        · refine xj_aload_n X 0 dX8_answer_57 rfl rfl ?_
          refine xj_dup X dX8_answer_58 rfl ?_
          refine xj_get X x_IW.P inG_X8 0 (wM_at0 ad cA (up2 σ 0 30 ((0 : Int32)))) rfl 28 (by decide) mk3_113 (.int (σ 0 28)) rfl dX8_answer_59 ?_
          refine xj_bipush (x := (64 : Int32)) X dX8_answer_62 rfl ?_
          refine xj_ior X dX8_answer_64 ?_
          refine xj_put X (wM_D hj cA _) inG_X8 tyX8_ok nmX8 0 (wM_at0 ad cA (up2 σ 0 30 ((0 : Int32)))) rfl 28 (by decide) mk3_113 rfl .int rfl rfl rfl (Nat.le_of_ble_eq_true rfl) (wM_st0_28 ad cA (up2 σ 0 30 ((0 : Int32))) ((σ 0 28) ||| ((64 : Int32)))) dX8_answer_65 ?_
          refine xj_aload_n X 0 dX8_answer_68 rfl rfl ?_
          refine xj_get X x_IW.P inG_X8 0 (wM_at0 ad cA (up2 (up2 σ 0 30 ((0 : Int32))) 0 28 ((σ 0 28) ||| ((64 : Int32))))) rfl 31 (by decide) mk3_116 (.ref (ad 16)) rfl dX8_answer_69 ?_
          refine xj_aload_n X 0 dX8_answer_72 rfl rfl ?_
          refine xj_get X x_IW.P inG_X8 0 (wM_at0 ad cA (up2 (up2 σ 0 30 ((0 : Int32))) 0 28 ((σ 0 28) ||| ((64 : Int32))))) rfl 32 (by decide) mk3_117 (.int (σ 0 32)) rfl dX8_answer_73 ?_
          refine xj_aload_n X 0 dX8_answer_76 rfl rfl ?_
          refine xj_get X x_IW.P inG_X8 0 (wM_at0 ad cA (up2 (up2 σ 0 30 ((0 : Int32))) 0 28 ((σ 0 28) ||| ((64 : Int32))))) rfl 27 (by decide) mk3_112 (.int (σ 0 27)) rfl dX8_answer_77 ?_
          refine xj_iconst (x := (1 : Int32)) X dX8_answer_80 rfl ?_
          refine xj_isub X dX8_answer_81 ?_
          refine xj_iast X (wM_D hj cA _) 16 (wM_at16 ad cA (up2 (up2 σ 0 30 ((0 : Int32))) 0 28 ((σ 0 28) ||| ((64 : Int32))))) hf (wM_ar16 ad cA (up2 (up2 σ 0 30 ((0 : Int32))) 0 28 ((σ 0 28) ||| ((64 : Int32)))) (σ 0 32).toNatClampNeg ((σ 0 27) - ((1 : Int32)))) dX8_answer_82 (fun hf => ?_)
          refine xj_aload_n X 0 dX8_answer_83 rfl rfl ?_
          refine xj_dup X dX8_answer_84 rfl ?_
          refine xj_get X x_IW.P inG_X8 0 (wM_at0 ad cA (up2 (up2 (up2 σ 0 30 ((0 : Int32))) 0 28 ((σ 0 28) ||| ((64 : Int32)))) 16 (σ 0 32).toNatClampNeg ((σ 0 27) - ((1 : Int32))))) rfl 32 (by decide) mk3_117 (.int (σ 0 32)) rfl dX8_answer_85 ?_
          refine xj_iconst (x := (1 : Int32)) X dX8_answer_88 rfl ?_
          refine xj_iadd X dX8_answer_89 ?_
          refine xj_put X (wM_D hj cA _) inG_X8 tyX8_ok nmX8 0 (wM_at0 ad cA (up2 (up2 (up2 σ 0 30 ((0 : Int32))) 0 28 ((σ 0 28) ||| ((64 : Int32)))) 16 (σ 0 32).toNatClampNeg ((σ 0 27) - ((1 : Int32))))) rfl 32 (by decide) mk3_117 rfl .int rfl rfl rfl (Nat.le_of_ble_eq_true rfl) (wM_st0_32 ad cA (up2 (up2 (up2 σ 0 30 ((0 : Int32))) 0 28 ((σ 0 28) ||| ((64 : Int32)))) 16 (σ 0 32).toNatClampNeg ((σ 0 27) - ((1 : Int32)))) ((σ 0 32) + ((1 : Int32)))) dX8_answer_90 ?_
          refine xj_aload_n X 0 dX8_answer_93 rfl rfl ?_
          obtain ⟨x1_94, hx1_94, hf⟩ := x_bind hf
          refine xj_wrI (r := x1_94.1) (rest := []) (x_runV X (ctX8_byDefault l D cA hj (up2 (up2 (up2 (up2 σ 0 30 ((0 : Int32))) 0 28 ((σ 0 28) ||| ((64 : Int32)))) 16 (σ 0 32).toNatClampNeg ((σ 0 27) - ((1 : Int32)))) 0 32 ((σ 0 32) + ((1 : Int32)))) x1_94.1 x1_94.2 hx1_94) (x_cwV X kwX8_byDefault mk4_81 rfl rfl ⟨Nat.le_of_ble_eq_true rfl, Nat.le_of_ble_eq_true rfl⟩) x_IW.P 0 (wM_at0 ad cA (up2 (up2 (up2 (up2 σ 0 30 ((0 : Int32))) 0 28 ((σ 0 28) ||| ((64 : Int32)))) 16 (σ 0 32).toNatClampNeg ((σ 0 27) - ((1 : Int32)))) 0 32 ((σ 0 32) + ((1 : Int32))))) rfl rfl rfl (Nat.le_of_ble_eq_true rfl) dX8_answer_94 ⟨Nat.zero_le _, Nat.zero_le _⟩) (fun _ _ _ h _ => h) (fun _ h => h) ?_
          exact xj_iret_wr X hr (x_2a hf) (congrArg (wM ad cA) (x_2b hf)) dX8_answer_97
        · refine xj_aload_n X 0 dX8_answer_41 rfl rfl ?_
          refine xj_iconst (x := (0 : Int32)) X dX8_answer_42 rfl ?_
          refine xj_put X (wM_D hj cA _) inG_X8 tyX8_ok nmX8 0 (wM_at0 ad cA (up2 σ 0 30 ((0 : Int32)))) rfl 14 (by decide) mk3_99 rfl .int rfl rfl rfl (Nat.le_of_ble_eq_true rfl) (wM_st0_14 ad cA (up2 σ 0 30 ((0 : Int32))) ((0 : Int32))) dX8_answer_43 ?_
          refine xj_aload_n X 0 dX8_answer_46 rfl rfl ?_
          refine xj_iconst (x := (0 : Int32)) X dX8_answer_47 rfl ?_
          refine xj_put X (wM_D hj cA _) inG_X8 tyX8_ok nmX8 0 (wM_at0 ad cA (up2 (up2 σ 0 30 ((0 : Int32))) 0 14 ((0 : Int32)))) rfl 15 (by decide) mk3_100 rfl .boolean rfl rfl rfl (Nat.le_of_ble_eq_true rfl) (wM_st0_15 ad cA (up2 (up2 σ 0 30 ((0 : Int32))) 0 14 ((0 : Int32))) ((0 : Int32))) dX8_answer_48 ?_
          refine xj_aload_n X 0 dX8_answer_51 rfl rfl ?_
          refine xj_iconst (x := (2 : Int32)) X dX8_answer_52 rfl ?_
          obtain ⟨x2_53, hx2_53, hf⟩ := x_bind hf
          refine xj_wrI (r := x2_53.1) (rest := []) (x_runV X (ctX8_ends l D cA hj (up2 (up2 (up2 σ 0 30 ((0 : Int32))) 0 14 ((0 : Int32))) 0 15 ((0 : Int32))) ((2 : Int32)) x2_53.1 x2_53.2 hx2_53) (x_cwV X kwX8_ends mk4_77 rfl rfl ⟨Nat.le_of_ble_eq_true rfl, Nat.le_of_ble_eq_true rfl⟩) x_IW.P 0 (wM_at0 ad cA (up2 (up2 (up2 σ 0 30 ((0 : Int32))) 0 14 ((0 : Int32))) 0 15 ((0 : Int32)))) rfl rfl rfl (Nat.le_of_ble_eq_true rfl) dX8_answer_53 ⟨Nat.zero_le _, Nat.zero_le _⟩) (fun _ _ _ h _ => h) (fun _ h => h) ?_
          exact xj_iret_wr X hr (x_2a hf) (congrArg (wM ad cA) (x_2b hf)) dX8_answer_56
      · refine xj_aload_n X 0 dX8_answer_30 rfl rfl ?_
        refine xj_iconst (x := (0 : Int32)) X dX8_answer_31 rfl ?_
        obtain ⟨x3_32, hx3_32, hf⟩ := x_bind hf
        refine xj_wrI (r := x3_32.1) (rest := []) (x_runV X (ctX8_ends l D cA hj (up2 σ 0 30 ((0 : Int32))) ((0 : Int32)) x3_32.1 x3_32.2 hx3_32) (x_cwV X kwX8_ends mk4_77 rfl rfl ⟨Nat.le_of_ble_eq_true rfl, Nat.le_of_ble_eq_true rfl⟩) x_IW.P 0 (wM_at0 ad cA (up2 σ 0 30 ((0 : Int32)))) rfl rfl rfl (Nat.le_of_ble_eq_true rfl) dX8_answer_32 ⟨Nat.zero_le _, Nat.zero_le _⟩) (fun _ _ _ h _ => h) (fun _ h => h) ?_
        exact xj_iret_wr X hr (x_2a hf) (congrArg (wM ad cA) (x_2b hf)) dX8_answer_35
    · refine xj_bipush (x := (-2 : Int32)) X dX8_answer_18 rfl ?_
      exact xj_iret_wr X hr (x_2a hf) (congrArg (wM ad cA) (x_2b hf)) dX8_answer_20
  · refine xj_iconst (x := (-1 : Int32)) X dX8_answer_9 rfl ?_
    exact xj_iret_wr X hr (x_2a hf) (congrArg (wM ad cA) (x_2b hf)) dX8_answer_10
set_option maxHeartbeats 4000000 in
set_option maxRecDepth 100000 in
theorem ctX8_sendReversal (l : Launch) (D : va_G) (cA : ClassId) {ad : Nat → Nat} (hj : x_inj 20 ad) (σ : x_M) (p1 : Bool) (r0 : Int32) (σ0 : x_M) (hf : fX8_sendReversal σ p1 = some (r0, σ0)) : Met l yX8_sendReversal zX8_sendReversal ({ frames := 0, cells := 0, slots := 0, locals := 0 } : Room) (x_P D cA [.ref (ad 0), .int (b2i p1)] (wM ad cA σ)) (x_U D (some (.int r0)) (wM ad cA σ0) (x_A 20 ad)) 0 0 (x_A 20 ad) := by
  refine x_met (cc := cX8_sendReversal) (maxL := 4) (ret := (some .int)) RX8 rfl (by decide) rfl [(0, .ref (ad 0)), (1, .int (b2i p1))] rfl (Nat.le_of_ble_eq_true rfl) ?_
  intro p e s m args below meth c hr X
  have B_33 : ∀ (n : Nat) (σ : x_M) (v2 : Int32) (v3 : Int32), fX8_sendReversal_33 n σ v2 v3 = some (r0, σ0) → x_J 4 p l e ({ frames := 0, cells := 0, slots := 0, locals := 0 } : Room) s m args below meth c 0 0 (x_IW D s (x_A 20 ad) (wM ad cA σ)) (MQ below (x_U D (some (.int r0)) (wM ad cA σ0) (x_A 20 ad)) args s 0 0 (x_A 20 ad)) 33 [(0, .ref (ad 0)), (2, .int v2), (3, .int v3)] [] := by
    intro n
    induction n with
    | zero => intro σ v2 v3 hf; rw [fX8_sendReversal_33] at hf; cases hf
    | succ n ih =>
      intro σ v2 v3 hf
      rw [fX8_sendReversal_33] at hf
      refine xj_iload_n X 2 dX8_sendReversal_33 rfl rfl ?_
      refine xj_aload_n X 0 dX8_sendReversal_34 rfl rfl ?_
      refine xj_get X x_IW.P inG_X8 0 (wM_at0 ad cA σ) rfl 32 (by decide) mk3_117 (.int (σ 0 32)) rfl dX8_sendReversal_35 ?_
      refine xj_icmp_ge (tgt := 61) X dX8_sendReversal_38 rfl hf (fun hf => ?_) (fun hf => ?_)
      · refine xj_iload_n X 1 dX8_sendReversal_61 rfl rfl ?_
        exact xj_iret_wr X hr (x_2a hf) (congrArg (wM ad cA) (x_2b hf)) dX8_sendReversal_62
      · refine xj_aload_n X 0 dX8_sendReversal_41 rfl rfl ?_
        refine xj_get X x_IW.P inG_X8 0 (wM_at0 ad cA σ) rfl 31 (by decide) mk3_116 (.ref (ad 16)) rfl dX8_sendReversal_42 ?_
        refine xj_iload_n X 2 dX8_sendReversal_45 rfl rfl ?_
        refine xj_aload_n X 0 dX8_sendReversal_46 rfl rfl ?_
        refine xj_get X x_IW.P inG_X8 0 (wM_at0 ad cA σ) rfl 31 (by decide) mk3_116 (.ref (ad 16)) rfl dX8_sendReversal_47 ?_
        refine xj_iload_n X 2 dX8_sendReversal_50 rfl rfl ?_
        refine xj_iconst (x := (1 : Int32)) X dX8_sendReversal_51 rfl ?_
        refine xj_iadd X dX8_sendReversal_52 ?_
        refine xj_iald X x_IW.P 16 (wM_at16 ad cA σ) hf ((σ 16) (v3 + ((1 : Int32))).toNatClampNeg) rfl dX8_sendReversal_53 (fun hf => ?_)
        refine xj_iast X (wM_D hj cA _) 16 (wM_at16 ad cA σ) hf (wM_ar16 ad cA σ v3.toNatClampNeg ((σ 16) (v3 + ((1 : Int32))).toNatClampNeg)) dX8_sendReversal_54 (fun hf => ?_)
        refine xj_iinc (y := v3 + (1 : Int32)) (lv' := [(3, .int (v3 + (1 : Int32))), (0, .ref (ad 0)), (2, .int v2)]) X 2 dX8_sendReversal_55 rfl rfl (Nat.le_of_ble_eq_true rfl) rfl ?_
        refine xj_sub [1, 2, 0] rfl ?_
        refine xj_goto (tgt := 33) X dX8_sendReversal_58 rfl ?_
        exact ih (up2 σ 16 v3.toNatClampNeg ((σ 16) (v3 + ((1 : Int32))).toNatClampNeg)) v2 (v3 + (1 : Int32)) hf
  refine xj_w (A := x_A 20 ad) ?_
  rw [fX8_sendReversal] at hf
  refine xj_aload_n X 0 dX8_sendReversal_0 rfl rfl ?_
  refine xj_get X x_IW.P inG_X8 0 (wM_at0 ad cA σ) rfl 32 (by decide) mk3_117 (.int (σ 0 32)) rfl dX8_sendReversal_1 ?_
  refine xj_if_ne (tgt := 10) X dX8_sendReversal_4 rfl hf (fun hf => ?_) (fun hf => ?_)
  · refine xj_aload_n X 0 dX8_sendReversal_10 rfl rfl ?_
    refine xj_get X x_IW.P inG_X8 0 (wM_at0 ad cA σ) rfl 31 (by decide) mk3_116 (.ref (ad 16)) rfl dX8_sendReversal_11 ?_
    refine xj_iconst (x := (0 : Int32)) X dX8_sendReversal_14 rfl ?_
    refine xj_iald X x_IW.P 16 (wM_at16 ad cA σ) hf ((σ 16) ((0 : Int32)).toNatClampNeg) rfl dX8_sendReversal_15 (fun hf => ?_)
    refine xj_istore_n (lv' := [(2, .int ((σ 16) ((0 : Int32)).toNatClampNeg)), (0, .ref (ad 0)), (1, .int (b2i p1))]) X dX8_sendReversal_16 rfl (Nat.le_of_ble_eq_true rfl) rfl ?_
    refine xj_sub [1, 2, 0] rfl ?_
    refine xj_iload_n X 1 dX8_sendReversal_17 rfl rfl ?_
    refine xj_if_eq (tgt := 61) X dX8_sendReversal_18 rfl hf (fun hf => ?_) (fun hf => ?_)
    · refine xj_iload_n X 2 dX8_sendReversal_61 rfl rfl ?_
      exact xj_iret_wr X hr (x_2a hf) (congrArg (wM ad cA) (x_2b hf)) dX8_sendReversal_62
    · refine xj_aload_n X 0 dX8_sendReversal_21 rfl rfl ?_
      refine xj_dup X dX8_sendReversal_22 rfl ?_
      refine xj_get X x_IW.P inG_X8 0 (wM_at0 ad cA σ) rfl 32 (by decide) mk3_117 (.int (σ 0 32)) rfl dX8_sendReversal_23 ?_
      refine xj_iconst (x := (1 : Int32)) X dX8_sendReversal_26 rfl ?_
      refine xj_isub X dX8_sendReversal_27 ?_
      refine xj_put X (wM_D hj cA _) inG_X8 tyX8_ok nmX8 0 (wM_at0 ad cA σ) rfl 32 (by decide) mk3_117 rfl .int rfl rfl rfl (Nat.le_of_ble_eq_true rfl) (wM_st0_32 ad cA σ ((σ 0 32) - ((1 : Int32)))) dX8_sendReversal_28 ?_
      refine xj_iconst (x := (0 : Int32)) X dX8_sendReversal_31 rfl ?_
      refine xj_istore_n (lv' := [(3, .int ((0 : Int32))), (0, .ref (ad 0)), (1, .int (b2i p1)), (2, .int ((σ 16) ((0 : Int32)).toNatClampNeg))]) X dX8_sendReversal_32 rfl (Nat.le_of_ble_eq_true rfl) rfl ?_
      refine xj_sub [1, 2, 3, 0] rfl ?_
      exact xj_sub [0, 2, 3] rfl (B_33 x_fuel (up2 σ 0 32 ((σ 0 32) - ((1 : Int32)))) ((σ 16) ((0 : Int32)).toNatClampNeg) ((0 : Int32)) hf)
  · refine xj_bipush (x := (-2 : Int32)) X dX8_sendReversal_7 rfl ?_
    exact xj_iret_wr X hr (x_2a hf) (congrArg (wM ad cA) (x_2b hf)) dX8_sendReversal_9
set_option maxHeartbeats 4000000 in
set_option maxRecDepth 100000 in
theorem ctX8_reversalCount (l : Launch) (D : va_G) (cA : ClassId) (ad : Nat → Nat) (σ : x_M) (r0 : Int32) (hf : fX8_reversalCount σ = r0) : Met l yX8_reversalCount zX8_reversalCount ({ frames := 0, cells := 0, slots := 0, locals := 0 } : Room) (x_P D cA [.ref (ad 0)] (wM ad cA σ)) (x_R (some (.int r0))) 0 0 (fun _ => False) := by
  refine x_met (cc := cX8_reversalCount) (maxL := 1) (ret := (some .int)) RX8 rfl (by decide) rfl [(0, .ref (ad 0))] rfl (Nat.le_of_ble_eq_true rfl) ?_
  intro p e s m args below meth c hr X
  rw [fX8_reversalCount] at hf
  refine xj_aload_n X 0 dX8_reversalCount_0 rfl rfl ?_
  refine xj_get X x_IR.P inG_X8 0 (wM_at0 ad cA σ) rfl 32 (by decide) mk3_117 (.int (σ 0 32)) rfl dX8_reversalCount_1 ?_
  exact xj_iret_ro X hr hf dX8_reversalCount_4
set_option maxHeartbeats 4000000 in
set_option maxRecDepth 100000 in
theorem ctX8_verificationResults (l : Launch) (D : va_G) (cA : ClassId) (ad : Nat → Nat) (σ : x_M) (r0 : Int32) (hf : fX8_verificationResults σ = r0) : Met l yX8_verificationResults zX8_verificationResults ({ frames := 0, cells := 0, slots := 0, locals := 0 } : Room) (x_P D cA [.ref (ad 0)] (wM ad cA σ)) (x_R (some (.int r0))) 0 0 (fun _ => False) := by
  refine x_met (cc := cX8_verificationResults) (maxL := 1) (ret := (some .int)) RX8 rfl (by decide) rfl [(0, .ref (ad 0))] rfl (Nat.le_of_ble_eq_true rfl) ?_
  intro p e s m args below meth c hr X
  rw [fX8_verificationResults] at hf
  refine xj_aload_n X 0 dX8_verificationResults_0 rfl rfl ?_
  refine xj_get X x_IR.P inG_X8 0 (wM_at0 ad cA σ) rfl 27 (by decide) mk3_112 (.int (σ 0 27)) rfl dX8_verificationResults_1 ?_
  refine xj_if_ne (tgt := 12) X dX8_verificationResults_4 rfl hf (fun hf => ?_) (fun hf => ?_)
  · refine xj_aload_n X 0 dX8_verificationResults_12 rfl rfl ?_
    refine xj_get X x_IR.P inG_X8 0 (wM_at0 ad cA σ) rfl 28 (by decide) mk3_113 (.int (σ 0 28)) rfl dX8_verificationResults_13 ?_
    exact xj_iret_ro X hr hf dX8_verificationResults_16
  · refine xj_bipush (x := (-4 : Int32)) X dX8_verificationResults_7 rfl ?_
    refine xj_goto (tgt := 16) X dX8_verificationResults_9 rfl ?_
    exact xj_iret_ro X hr hf dX8_verificationResults_16
set_option maxHeartbeats 4000000 in
set_option maxRecDepth 100000 in
theorem ctX8_outcomeCount (l : Launch) (D : va_G) (cA : ClassId) (ad : Nat → Nat) (σ : x_M) (p1 : Int32) (r0 : Int32) (hf : fX8_outcomeCount σ p1 = some r0) : Met l yX8_outcomeCount zX8_outcomeCount ({ frames := 1, cells := 0, slots := 0, locals := 22 } : Room) (x_P D cA [.ref (ad 0), .int p1] (wM ad cA σ)) (x_R (some (.int r0))) 0 0 (fun _ => False) := by
  refine x_met (cc := cX8_outcomeCount) (maxL := 2) (ret := (some .int)) RX8 rfl (by decide) rfl [(0, .ref (ad 0)), (1, .int p1)] rfl (Nat.le_of_ble_eq_true rfl) ?_
  intro p e s m args below meth c hr X
  rw [fX8_outcomeCount] at hf
  refine xj_iload_n X 1 dX8_outcomeCount_0 rfl rfl ?_
  refine xj_iconst (x := (0 : Int32)) X dX8_outcomeCount_1 rfl ?_
  refine xj_iconst (x := (3 : Int32)) X dX8_outcomeCount_2 rfl ?_
  refine xj_roI (r := b2i (fX8_in p1 ((0 : Int32)) ((3 : Int32)))) (rest := []) (fun _ h => h) (x_runS X (ctX8_in l D cA ad σ p1 ((0 : Int32)) ((3 : Int32)) _ rfl) (x_cwS X kwX8_in mk3_201 rfl rfl ⟨Nat.le_of_ble_eq_true rfl, Nat.le_of_ble_eq_true rfl⟩) x_IR.P rfl rfl (Nat.le_of_ble_eq_true rfl) dX8_outcomeCount_3 ⟨Nat.zero_le _, Nat.zero_le _⟩) ?_
  refine xj_if_ne (tgt := 11) X dX8_outcomeCount_6 rfl hf (fun hf => ?_) (fun hf => ?_)
  · refine xj_iload_n X 1 dX8_outcomeCount_11 rfl rfl ?_
    refine xj_iconst (x := (3 : Int32)) X dX8_outcomeCount_12 rfl ?_
    refine xj_icmp_ne (tgt := 31) X dX8_outcomeCount_13 rfl hf (fun hf => ?_) (fun hf => ?_)
    · refine xj_aload_n X 0 dX8_outcomeCount_31 rfl rfl ?_
      refine xj_get X x_IR.P inG_X8 0 (wM_at0 ad cA σ) rfl 33 (by decide) mk3_118 (.ref (ad 17)) rfl dX8_outcomeCount_32 ?_
      refine xj_iload_n X 1 dX8_outcomeCount_35 rfl rfl ?_
      refine xj_iald X x_IR.P 17 (wM_at17 ad cA σ) hf ((σ 17) p1.toNatClampNeg) rfl dX8_outcomeCount_36 (fun hf => ?_)
      exact xj_iret_ro X hr (x_1 hf) dX8_outcomeCount_37
    · refine xj_aload_n X 0 dX8_outcomeCount_16 rfl rfl ?_
      refine xj_get X x_IR.P inG_X8 0 (wM_at0 ad cA σ) rfl 30 (by decide) mk3_115 (.int (σ 0 30)) rfl dX8_outcomeCount_17 ?_
      refine xj_if_eq (tgt := 27) X dX8_outcomeCount_20 rfl hf (fun hf => ?_) (fun hf => ?_)
      · refine xj_iconst (x := (0 : Int32)) X dX8_outcomeCount_27 rfl ?_
        refine xj_goto (tgt := 37) X dX8_outcomeCount_28 rfl ?_
        exact xj_iret_ro X hr (x_1 hf) dX8_outcomeCount_37
      · refine xj_iconst (x := (1 : Int32)) X dX8_outcomeCount_23 rfl ?_
        refine xj_goto (tgt := 37) X dX8_outcomeCount_24 rfl ?_
        exact xj_iret_ro X hr (x_1 hf) dX8_outcomeCount_37
  · refine xj_iconst (x := (-1 : Int32)) X dX8_outcomeCount_9 rfl ?_
    exact xj_iret_ro X hr (x_1 hf) dX8_outcomeCount_10
set_option maxHeartbeats 4000000 in
set_option maxRecDepth 100000 in
theorem ctX8_outcomeAmount (l : Launch) (D : va_G) (cA : ClassId) (ad : Nat → Nat) (σ : x_M) (p1 : Int32) (r0 : Int32) (hf : fX8_outcomeAmount σ p1 = some r0) : Met l yX8_outcomeAmount zX8_outcomeAmount ({ frames := 1, cells := 0, slots := 0, locals := 22 } : Room) (x_P D cA [.ref (ad 0), .int p1] (wM ad cA σ)) (x_R (some (.int r0))) 0 0 (fun _ => False) := by
  refine x_met (cc := cX8_outcomeAmount) (maxL := 2) (ret := (some .int)) RX8 rfl (by decide) rfl [(0, .ref (ad 0)), (1, .int p1)] rfl (Nat.le_of_ble_eq_true rfl) ?_
  intro p e s m args below meth c hr X
  rw [fX8_outcomeAmount] at hf
  refine xj_iload_n X 1 dX8_outcomeAmount_0 rfl rfl ?_
  refine xj_iconst (x := (0 : Int32)) X dX8_outcomeAmount_1 rfl ?_
  refine xj_iconst (x := (3 : Int32)) X dX8_outcomeAmount_2 rfl ?_
  refine xj_roI (r := b2i (fX8_in p1 ((0 : Int32)) ((3 : Int32)))) (rest := []) (fun _ h => h) (x_runS X (ctX8_in l D cA ad σ p1 ((0 : Int32)) ((3 : Int32)) _ rfl) (x_cwS X kwX8_in mk3_201 rfl rfl ⟨Nat.le_of_ble_eq_true rfl, Nat.le_of_ble_eq_true rfl⟩) x_IR.P rfl rfl (Nat.le_of_ble_eq_true rfl) dX8_outcomeAmount_3 ⟨Nat.zero_le _, Nat.zero_le _⟩) ?_
  refine xj_if_ne (tgt := 11) X dX8_outcomeAmount_6 rfl hf (fun hf => ?_) (fun hf => ?_)
  · refine xj_iload_n X 1 dX8_outcomeAmount_11 rfl rfl ?_
    refine xj_iconst (x := (3 : Int32)) X dX8_outcomeAmount_12 rfl ?_
    refine xj_icmp_ne (tgt := 34) X dX8_outcomeAmount_13 rfl hf (fun hf => ?_) (fun hf => ?_)
    · refine xj_aload_n X 0 dX8_outcomeAmount_34 rfl rfl ?_
      refine xj_get X x_IR.P inG_X8 0 (wM_at0 ad cA σ) rfl 34 (by decide) mk3_119 (.ref (ad 18)) rfl dX8_outcomeAmount_35 ?_
      refine xj_iload_n X 1 dX8_outcomeAmount_38 rfl rfl ?_
      refine xj_iald X x_IR.P 18 (wM_at18 ad cA σ) hf ((σ 18) p1.toNatClampNeg) rfl dX8_outcomeAmount_39 (fun hf => ?_)
      exact xj_iret_ro X hr (x_1 hf) dX8_outcomeAmount_40
    · refine xj_aload_n X 0 dX8_outcomeAmount_16 rfl rfl ?_
      refine xj_get X x_IR.P inG_X8 0 (wM_at0 ad cA σ) rfl 30 (by decide) mk3_115 (.int (σ 0 30)) rfl dX8_outcomeAmount_17 ?_
      refine xj_if_eq (tgt := 30) X dX8_outcomeAmount_20 rfl hf (fun hf => ?_) (fun hf => ?_)
      · refine xj_iconst (x := (0 : Int32)) X dX8_outcomeAmount_30 rfl ?_
        refine xj_goto (tgt := 40) X dX8_outcomeAmount_31 rfl ?_
        exact xj_iret_ro X hr (x_1 hf) dX8_outcomeAmount_40
      · refine xj_aload_n X 0 dX8_outcomeAmount_23 rfl rfl ?_
        refine xj_get X x_IR.P inG_X8 0 (wM_at0 ad cA σ) rfl 29 (by decide) mk3_114 (.int (σ 0 29)) rfl dX8_outcomeAmount_24 ?_
        refine xj_goto (tgt := 40) X dX8_outcomeAmount_27 rfl ?_
        exact xj_iret_ro X hr (x_1 hf) dX8_outcomeAmount_40
  · refine xj_iconst (x := (-1 : Int32)) X dX8_outcomeAmount_9 rfl ?_
    exact xj_iret_ro X hr (x_1 hf) dX8_outcomeAmount_10
set_option maxHeartbeats 4000000 in
set_option maxRecDepth 100000 in
theorem ctX8_offlineCounter (l : Launch) (D : va_G) (cA : ClassId) (ad : Nat → Nat) (σ : x_M) (r0 : Int32) (hf : fX8_offlineCounter σ = r0) : Met l yX8_offlineCounter zX8_offlineCounter ({ frames := 0, cells := 0, slots := 0, locals := 0 } : Room) (x_P D cA [.ref (ad 0)] (wM ad cA σ)) (x_R (some (.int r0))) 0 0 (fun _ => False) := by
  refine x_met (cc := cX8_offlineCounter) (maxL := 1) (ret := (some .int)) RX8 rfl (by decide) rfl [(0, .ref (ad 0))] rfl (Nat.le_of_ble_eq_true rfl) ?_
  intro p e s m args below meth c hr X
  rw [fX8_offlineCounter] at hf
  refine xj_aload_n X 0 dX8_offlineCounter_0 rfl rfl ?_
  refine xj_get X x_IR.P inG_X8 0 (wM_at0 ad cA σ) rfl 14 (by decide) mk3_99 (.int (σ 0 14)) rfl dX8_offlineCounter_1 ?_
  exact xj_iret_ro X hr hf dX8_offlineCounter_4
