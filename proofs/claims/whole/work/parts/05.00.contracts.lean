set_option maxHeartbeats 4000000 in
set_option maxRecDepth 100000 in
theorem ctX0_add (l : Launch) (D : va_G) (cA : ClassId) {ad : Nat → Nat} (hj : x_inj 26 ad) (σ : x_M) (p1 : Int32) (σ0 : x_M) (hf : fX0_add σ p1 = some σ0) : Met l yX0_add zX0_add ({ frames := 1, cells := 0, slots := 0, locals := 22 } : Room) (x_P D cA [.ref (ad 1), .int p1] (wX ad cA σ)) (x_U D none (wX ad cA σ0) (x_A 26 ad)) 0 0 (x_A 26 ad) := by
  refine x_met (cc := cX0_add) (maxL := 2) (ret := none) RX0 rfl (by decide) rfl [(0, .ref (ad 1)), (1, .int p1)] rfl (Nat.le_of_ble_eq_true rfl) ?_
  intro p e s m args below meth c hr X
  refine xj_w (A := x_A 26 ad) ?_
  rw [fX0_add] at hf
  refine xj_aload_n X 0 dX0_add_0 rfl rfl ?_
  refine xj_get X x_IW.P inG_X0 1 (wX_at1 ad cA σ) rfl 1 (by decide) mk1_28 (.int (σ 1 1)) rfl dX0_add_1 ?_
  refine xj_bipush (x := (120 : Int32)) X dX0_add_4 rfl ?_
  refine xj_icmp_ge (tgt := 31) X dX0_add_6 rfl hf (fun hf => ?_) (fun hf => ?_)
  · exact xj_vret_wr X hr (congrArg (wX ad cA) (x_1 hf)) dX0_add_31
  · refine xj_aload_n X 0 dX0_add_9 rfl rfl ?_
    refine xj_get X x_IW.P inG_X0 1 (wX_at1 ad cA σ) rfl 0 (by decide) mk1_24 (.ref (ad 2)) rfl dX0_add_10 ?_
    refine xj_aload_n X 0 dX0_add_13 rfl rfl ?_
    refine xj_get X x_IW.P inG_X0 1 (wX_at1 ad cA σ) rfl 1 (by decide) mk1_28 (.int (σ 1 1)) rfl dX0_add_14 ?_
    refine xj_iload_n X 1 dX0_add_17 rfl rfl ?_
    refine xj_wrV (rest := []) (x_runSN X (c_put l D cA (wX_D hj cA _) (wX_at2 ad cA σ) (by decide) (σ 1 1) p1 (wX_pu2 ad cA σ (σ 1 1) p1)) (x_cwN X kwX7_put x_nest_8 rfl rfl ⟨Nat.le_of_ble_eq_true rfl, Nat.le_of_ble_eq_true rfl⟩) x_IW.P rfl rfl (Nat.le_of_ble_eq_true rfl) dX0_add_18 ⟨Nat.zero_le _, Nat.zero_le _⟩) (fun _ _ _ h _ => h) (fun _ h => h) ?_
    refine xj_aload_n X 0 dX0_add_21 rfl rfl ?_
    refine xj_dup X dX0_add_22 rfl ?_
    refine xj_get X x_IW.P inG_X0 1 (wX_at1 ad cA (pu σ 2 120 (σ 1 1) p1)) rfl 1 (by decide) mk1_28 (.int (σ 1 1)) rfl dX0_add_23 ?_
    refine xj_iconst (x := (1 : Int32)) X dX0_add_26 rfl ?_
    refine xj_iadd X dX0_add_27 ?_
    refine xj_put X (wX_D hj cA _) inG_X0 tyX0_ok nmX0 1 (wX_at1 ad cA (pu σ 2 120 (σ 1 1) p1)) rfl 1 (by decide) mk1_28 rfl .int rfl rfl rfl (Nat.le_of_ble_eq_true rfl) (wX_st1_1 ad cA (pu σ 2 120 (σ 1 1) p1) ((σ 1 1) + ((1 : Int32)))) dX0_add_28 ?_
    exact xj_vret_wr X hr (congrArg (wX ad cA) (x_1 hf)) dX0_add_31
set_option maxHeartbeats 4000000 in
set_option maxRecDepth 100000 in
theorem ctX7_appendByte (l : Launch) (D : va_G) (cA : ClassId) {ad : Nat → Nat} (hj : x_inj 26 ad) (σ : x_M) (p1 : Int32) (r0 : Int32) (σ0 : x_M) (hf : fX7_appendByte σ p1 = some (r0, σ0)) : Met l yX7_appendByte zX7_appendByte ({ frames := 2, cells := 0, slots := 0, locals := 43 } : Room) (x_P D cA [.ref (ad 0), .int p1] (wX ad cA σ)) (x_U D (some (.int r0)) (wX ad cA σ0) (x_A 26 ad)) 0 0 (x_A 26 ad) := by
  refine x_met (cc := cX7_appendByte) (maxL := 2) (ret := (some .int)) RX7 rfl (by decide) rfl [(0, .ref (ad 0)), (1, .int p1)] rfl (Nat.le_of_ble_eq_true rfl) ?_
  intro p e s m args below meth c hr X
  refine xj_w (A := x_A 26 ad) ?_
  rw [fX7_appendByte] at hf
  refine xj_iload_n X 1 dX7_appendByte_0 rfl rfl ?_
  refine xj_if_lt (tgt := 11) X dX7_appendByte_1 rfl hf (fun hf => ?_) (fun hf => ?_)
  · refine xj_iconst (x := (-1 : Int32)) X dX7_appendByte_11 rfl ?_
    exact xj_iret_wr X hr (x_2a hf) (congrArg (wX ad cA) (x_2b hf)) dX7_appendByte_12
  · refine xj_iload_n X 1 dX7_appendByte_4 rfl rfl ?_
    refine xj_sipush (x := (255 : Int32)) X dX7_appendByte_5 rfl ?_
    refine xj_icmp_le (tgt := 13) X dX7_appendByte_8 rfl hf (fun hf => ?_) (fun hf => ?_)
    · refine xj_aload_n X 0 dX7_appendByte_13 rfl rfl ?_
      refine xj_get X x_IW.P inG_X7 0 (wX_at0 ad cA σ) rfl 0 (by decide) mk1_207 (.ref (ad 1)) rfl dX7_appendByte_14 ?_
      refine xj_get X x_IW.P inG_X0 1 (wX_at1 ad cA σ) rfl 1 (by decide) mk1_29 (.int (σ 1 1)) rfl dX7_appendByte_17 ?_
      refine xj_bipush (x := (120 : Int32)) X dX7_appendByte_20 rfl ?_
      refine xj_icmp_lt (tgt := 28) X dX7_appendByte_22 rfl hf (fun hf => ?_) (fun hf => ?_)
      · refine xj_aload_n X 0 dX7_appendByte_28 rfl rfl ?_
        refine xj_get X x_IW.P inG_X7 0 (wX_at0 ad cA σ) rfl 0 (by decide) mk1_207 (.ref (ad 1)) rfl dX7_appendByte_29 ?_
        refine xj_iload_n X 1 dX7_appendByte_32 rfl rfl ?_
        obtain ⟨x1_33, hx1_33, hf⟩ := x_bind hf
        refine xj_wrV (rest := []) (x_runV X (ctX0_add l D cA hj σ p1 x1_33 hx1_33) (x_cwV X kwX0_add mk1_230 rfl rfl ⟨Nat.le_of_ble_eq_true rfl, Nat.le_of_ble_eq_true rfl⟩) x_IW.P 1 (wX_at1 ad cA σ) rfl rfl rfl (Nat.le_of_ble_eq_true rfl) dX7_appendByte_33 ⟨Nat.zero_le _, Nat.zero_le _⟩) (fun _ _ _ h _ => h) (fun _ h => h) ?_
        refine xj_aload_n X 0 dX7_appendByte_36 rfl rfl ?_
        refine xj_get X x_IW.P inG_X7 0 (wX_at0 ad cA x1_33) rfl 0 (by decide) mk1_207 (.ref (ad 1)) rfl dX7_appendByte_37 ?_
        refine xj_get X x_IW.P inG_X0 1 (wX_at1 ad cA x1_33) rfl 1 (by decide) mk1_29 (.int (x1_33 1 1)) rfl dX7_appendByte_40 ?_
        exact xj_iret_wr X hr (x_2a hf) (congrArg (wX ad cA) (x_2b hf)) dX7_appendByte_43
      · refine xj_bipush (x := (-3 : Int32)) X dX7_appendByte_25 rfl ?_
        exact xj_iret_wr X hr (x_2a hf) (congrArg (wX ad cA) (x_2b hf)) dX7_appendByte_27
    · refine xj_iconst (x := (-1 : Int32)) X dX7_appendByte_11 rfl ?_
      exact xj_iret_wr X hr (x_2a hf) (congrArg (wX ad cA) (x_2b hf)) dX7_appendByte_12
set_option maxHeartbeats 4000000 in
set_option maxRecDepth 100000 in
theorem ctX7_clearBytes (l : Launch) (D : va_G) (cA : ClassId) {ad : Nat → Nat} (hj : x_inj 26 ad) (σ : x_M) (r0 : Int32) (σ0 : x_M) (hf : fX7_clearBytes σ = some (r0, σ0)) : Met l yX7_clearBytes zX7_clearBytes ({ frames := 0, cells := 0, slots := 0, locals := 0 } : Room) (x_P D cA [.ref (ad 0)] (wX ad cA σ)) (x_U D (some (.int r0)) (wX ad cA σ0) (x_A 26 ad)) 0 0 (x_A 26 ad) := by
  refine x_met (cc := cX7_clearBytes) (maxL := 2) (ret := (some .int)) RX7 rfl (by decide) rfl [(0, .ref (ad 0))] rfl (Nat.le_of_ble_eq_true rfl) ?_
  intro p e s m args below meth c hr X
  refine xj_w (A := x_A 26 ad) ?_
  rw [fX7_clearBytes] at hf
  refine xj_aload_n X 0 dX7_clearBytes_0 rfl rfl ?_
  refine xj_get X x_IW.P inG_X7 0 (wX_at0 ad cA σ) rfl 0 (by decide) mk1_207 (.ref (ad 1)) rfl dX7_clearBytes_1 ?_
  refine xj_get X x_IW.P inG_X0 1 (wX_at1 ad cA σ) rfl 1 (by decide) mk1_29 (.int (σ 1 1)) rfl dX7_clearBytes_4 ?_
  refine xj_istore_n (lv' := [(1, .int (σ 1 1)), (0, .ref (ad 0))]) X dX7_clearBytes_7 rfl (Nat.le_of_ble_eq_true rfl) rfl ?_
  refine xj_sub [1, 0] rfl ?_
  refine xj_aload_n X 0 dX7_clearBytes_8 rfl rfl ?_
  refine xj_get X x_IW.P inG_X7 0 (wX_at0 ad cA σ) rfl 0 (by decide) mk1_207 (.ref (ad 1)) rfl dX7_clearBytes_9 ?_
  refine xj_iconst (x := (0 : Int32)) X dX7_clearBytes_12 rfl ?_
  refine xj_put X (wX_D hj cA _) inG_X0 tyX0_ok nmX0 1 (wX_at1 ad cA σ) rfl 1 (by decide) mk1_29 rfl .int rfl rfl rfl (Nat.le_of_ble_eq_true rfl) (wX_st1_1 ad cA σ ((0 : Int32))) dX7_clearBytes_13 ?_
  refine xj_iload_n X 1 dX7_clearBytes_16 rfl rfl ?_
  exact xj_iret_wr X hr (x_2a hf) (congrArg (wX ad cA) (x_2b hf)) dX7_clearBytes_17
set_option maxHeartbeats 4000000 in
set_option maxRecDepth 100000 in
theorem ctX2_valueEnd (l : Launch) (D : va_G) (cA : ClassId) (ad : Nat → Nat) (σ : x_M) (p1 : Int32) (r0 : Int32) (hf : fX2_valueEnd σ p1 = r0) : Met l yX2_valueEnd zX2_valueEnd ({ frames := 1, cells := 0, slots := 0, locals := 21 } : Room) (x_P D cA [.ref (ad 3), .int p1] (wX ad cA σ)) (x_R (some (.int r0))) 0 0 (fun _ => False) := by
  refine x_met (cc := cX2_valueEnd) (maxL := 2) (ret := (some .int)) RX2 rfl (by decide) rfl [(0, .ref (ad 3)), (1, .int p1)] rfl (Nat.le_of_ble_eq_true rfl) ?_
  intro p e s m args below meth c hr X
  rw [fX2_valueEnd] at hf
  refine xj_aload_n X 0 dX2_valueEnd_0 rfl rfl ?_
  refine xj_get X x_IR.P inG_X2 3 (wX_at3 ad cA σ) rfl 4 (by decide) mk1_52 (.ref (ad 8)) rfl dX2_valueEnd_1 ?_
  refine xj_iload_n X 1 dX2_valueEnd_4 rfl rfl ?_
  refine xj_roI (r := x_at 24 (σ 8) p1) (rest := []) (fun _ h => h) (x_runSN X (c_at l D cA (wX_at8 ad cA σ) (by decide) p1) (x_cwN X kwX7_at x_nest_9 rfl rfl ⟨Nat.le_of_ble_eq_true rfl, Nat.le_of_ble_eq_true rfl⟩) x_IR.P rfl rfl (Nat.le_of_ble_eq_true rfl) dX2_valueEnd_5 ⟨Nat.zero_le _, Nat.zero_le _⟩) ?_
  refine xj_aload_n X 0 dX2_valueEnd_8 rfl rfl ?_
  refine xj_get X x_IR.P inG_X2 3 (wX_at3 ad cA σ) rfl 1 (by decide) mk1_46 (.ref (ad 5)) rfl dX2_valueEnd_9 ?_
  refine xj_iload_n X 1 dX2_valueEnd_12 rfl rfl ?_
  refine xj_roI (r := x_at 24 (σ 5) p1) (rest := [.int (x_at 24 (σ 8) p1)]) (fun _ h => h) (x_runSN X (c_at l D cA (wX_at5 ad cA σ) (by decide) p1) (x_cwN X kwX7_at x_nest_9 rfl rfl ⟨Nat.le_of_ble_eq_true rfl, Nat.le_of_ble_eq_true rfl⟩) x_IR.P rfl rfl (Nat.le_of_ble_eq_true rfl) dX2_valueEnd_13 ⟨Nat.zero_le _, Nat.zero_le _⟩) ?_
  refine xj_iadd X dX2_valueEnd_16 ?_
  exact xj_iret_ro X hr hf dX2_valueEnd_17
set_option maxHeartbeats 4000000 in
set_option maxRecDepth 100000 in
theorem ctX2_stillOpen (l : Launch) (D : va_G) (cA : ClassId) (ad : Nat → Nat) (σ : x_M) (p1 : Int32) (r0 : Int32) (hf : fX2_stillOpen σ p1 = some r0) : Met l yX2_stillOpen zX2_stillOpen ({ frames := 2, cells := 0, slots := 0, locals := 42 } : Room) (x_P D cA [.ref (ad 3), .int p1] (wX ad cA σ)) (x_R (some (.int r0))) 0 0 (fun _ => False) := by
  refine x_met (cc := cX2_stillOpen) (maxL := 4) (ret := (some .int)) RX2 rfl (by decide) rfl [(0, .ref (ad 3)), (1, .int p1)] rfl (Nat.le_of_ble_eq_true rfl) ?_
  intro p e s m args below meth c hr X
  have B_4 : ∀ (n : Nat) (v2 : Int32) (v3 : Int32), fX2_stillOpen_4 σ n v2 v3 = some r0 → x_J 4 p l e ({ frames := 2, cells := 0, slots := 0, locals := 42 } : Room) s m args below meth c 0 0 (x_IR D s (wX ad cA σ)) (MQ below (x_R (some (.int r0))) args s 0 0 (fun _ => False)) 4 [(0, .ref (ad 3)), (2, .int v2), (3, .int v3)] [] := by
    intro n
    induction n with
    | zero => intro v2 v3 hf; rw [fX2_stillOpen_4] at hf; cases hf
    | succ n ih =>
      intro v2 v3 hf
      rw [fX2_stillOpen_4] at hf
      refine xj_iload_n X 2 dX2_stillOpen_4 rfl rfl ?_
      refine xj_bipush (x := (24 : Int32)) X dX2_stillOpen_5 rfl ?_
      refine xj_icmp_ge (tgt := 42) X dX2_stillOpen_7 rfl hf (fun hf => ?_) (fun hf => ?_)
      · refine xj_iload_n X 1 dX2_stillOpen_42 rfl rfl ?_
        exact xj_iret_ro X hr (x_1 hf) dX2_stillOpen_43
      · refine xj_iload_n X 1 dX2_stillOpen_10 rfl rfl ?_
        refine xj_iconst (x := (-1 : Int32)) X dX2_stillOpen_11 rfl ?_
        refine xj_icmp_eq (tgt := 42) X dX2_stillOpen_12 rfl hf (fun hf => ?_) (fun hf => ?_)
        · refine xj_iload_n X 1 dX2_stillOpen_42 rfl rfl ?_
          exact xj_iret_ro X hr (x_1 hf) dX2_stillOpen_43
        · refine xj_aload_n X 0 dX2_stillOpen_15 rfl rfl ?_
          refine xj_get X x_IR.P inG_X2 3 (wX_at3 ad cA σ) rfl 7 (by decide) mk1_59 (.int (σ 3 7)) rfl dX2_stillOpen_16 ?_
          refine xj_aload_n X 0 dX2_stillOpen_19 rfl rfl ?_
          refine xj_iload_n X 1 dX2_stillOpen_20 rfl rfl ?_
          refine xj_roI (r := fX2_valueEnd σ v2) (rest := [.int (σ 3 7)]) (fun _ h => h) (x_runV X (ctX2_valueEnd l D cA ad σ v2 _ rfl) (x_cwV X kwX2_valueEnd mk2_13 rfl rfl ⟨Nat.le_of_ble_eq_true rfl, Nat.le_of_ble_eq_true rfl⟩) x_IR.P 3 (wX_at3 ad cA σ) rfl rfl rfl (Nat.le_of_ble_eq_true rfl) dX2_stillOpen_21 ⟨Nat.zero_le _, Nat.zero_le _⟩) ?_
          refine xj_icmp_lt (tgt := 42) X dX2_stillOpen_24 rfl hf (fun hf => ?_) (fun hf => ?_)
          · refine xj_iload_n X 1 dX2_stillOpen_42 rfl rfl ?_
            exact xj_iret_ro X hr (x_1 hf) dX2_stillOpen_43
          · refine xj_aload_n X 0 dX2_stillOpen_27 rfl rfl ?_
            refine xj_get X x_IR.P inG_X2 3 (wX_at3 ad cA σ) rfl 3 (by decide) mk1_51 (.ref (ad 7)) rfl dX2_stillOpen_28 ?_
            refine xj_iload_n X 1 dX2_stillOpen_31 rfl rfl ?_
            refine xj_roI (r := x_at 24 (σ 7) v2) (rest := []) (fun _ h => h) (x_runSN X (c_at l D cA (wX_at7 ad cA σ) (by decide) v2) (x_cwN X kwX7_at x_nest_9 rfl rfl ⟨Nat.le_of_ble_eq_true rfl, Nat.le_of_ble_eq_true rfl⟩) x_IR.P rfl rfl (Nat.le_of_ble_eq_true rfl) dX2_stillOpen_32 ⟨Nat.zero_le _, Nat.zero_le _⟩) ?_
            refine xj_istore_n (lv' := [(2, .int (x_at 24 (σ 7) v2)), (0, .ref (ad 3)), (3, .int v3)]) X dX2_stillOpen_35 rfl (Nat.le_of_ble_eq_true rfl) rfl ?_
            refine xj_sub [1, 0, 2] rfl ?_
            refine xj_iinc (y := v3 + (1 : Int32)) (lv' := [(3, .int (v3 + (1 : Int32))), (0, .ref (ad 3)), (2, .int (x_at 24 (σ 7) v2))]) X 2 dX2_stillOpen_36 rfl rfl (Nat.le_of_ble_eq_true rfl) rfl ?_
            refine xj_sub [1, 2, 0] rfl ?_
            refine xj_goto (tgt := 4) X dX2_stillOpen_39 rfl ?_
            exact ih (x_at 24 (σ 7) v2) (v3 + (1 : Int32)) hf
  rw [fX2_stillOpen] at hf
  refine xj_iload_n X 1 dX2_stillOpen_0 rfl rfl ?_
  refine xj_istore_n (lv' := [(2, .int p1), (0, .ref (ad 3)), (1, .int p1)]) X dX2_stillOpen_1 rfl (Nat.le_of_ble_eq_true rfl) rfl ?_
  refine xj_sub [1, 2, 0] rfl ?_
  refine xj_iconst (x := (0 : Int32)) X dX2_stillOpen_2 rfl ?_
  refine xj_istore_n (lv' := [(3, .int ((0 : Int32))), (0, .ref (ad 3)), (1, .int p1), (2, .int p1)]) X dX2_stillOpen_3 rfl (Nat.le_of_ble_eq_true rfl) rfl ?_
  refine xj_sub [1, 2, 3, 0] rfl ?_
  exact xj_sub [0, 2, 3] rfl (B_4 x_fuel p1 ((0 : Int32)) hf)
set_option maxHeartbeats 4000000 in
set_option maxRecDepth 100000 in
theorem ctX2_breakAt (l : Launch) (D : va_G) (cA : ClassId) {ad : Nat → Nat} (hj : x_inj 26 ad) (σ : x_M) (p1 : Int32) (r0 : Bool) (σ0 : x_M) (hf : fX2_breakAt σ p1 = some (r0, σ0)) : Met l yX2_breakAt zX2_breakAt ({ frames := 0, cells := 0, slots := 0, locals := 0 } : Room) (x_P D cA [.ref (ad 3), .int p1] (wX ad cA σ)) (x_U D (some (.int (b2i r0))) (wX ad cA σ0) (x_A 26 ad)) 0 0 (x_A 26 ad) := by
  refine x_met (cc := cX2_breakAt) (maxL := 2) (ret := (some .boolean)) RX2 rfl (by decide) rfl [(0, .ref (ad 3)), (1, .int p1)] rfl (Nat.le_of_ble_eq_true rfl) ?_
  intro p e s m args below meth c hr X
  refine xj_w (A := x_A 26 ad) ?_
  rw [fX2_breakAt] at hf
  refine xj_aload_n X 0 dX2_breakAt_0 rfl rfl ?_
  refine xj_iload_n X 1 dX2_breakAt_1 rfl rfl ?_
  refine xj_put X (wX_D hj cA _) inG_X2 tyX2_ok nmX2 3 (wX_at3 ad cA σ) rfl 6 (by decide) mk1_57 rfl .int rfl rfl rfl (Nat.le_of_ble_eq_true rfl) (wX_st3_6 ad cA σ p1) dX2_breakAt_2 ?_
  refine xj_iconst (x := (0 : Int32)) X dX2_breakAt_5 rfl ?_
  exact xj_zret_wr X hr (x_b2i (x_2a hf)) (congrArg (wX ad cA) (x_2b hf)) dX2_breakAt_6
set_option maxHeartbeats 4000000 in
set_option maxRecDepth 100000 in
theorem ctX2_readTag (l : Launch) (D : va_G) (cA : ClassId) {ad : Nat → Nat} (hj : x_inj 26 ad) (σ : x_M) (p2 : Int32) (r0 : Bool) (σ0 : x_M) (hf : fX2_readTag σ p2 = some (r0, σ0)) : Met l yX2_readTag zX2_readTag ({ frames := 1, cells := 0, slots := 0, locals := 22 } : Room) (x_P D cA [.ref (ad 3), .ref (ad 1), .int p2] (wX ad cA σ)) (x_U D (some (.int (b2i r0))) (wX ad cA σ0) (x_A 26 ad)) 0 0 (x_A 26 ad) := by
  refine x_met (cc := cX2_readTag) (maxL := 5) (ret := (some .boolean)) RX2 rfl (by decide) rfl [(0, .ref (ad 3)), (1, .ref (ad 1)), (2, .int p2)] rfl (Nat.le_of_ble_eq_true rfl) ?_
  intro p e s m args below meth c hr X
  have B_94 : ∀ (σ : x_M) (v3 : Int32), fX2_readTag_94 σ v3 = some (r0, σ0) → x_J 5 p l e ({ frames := 1, cells := 0, slots := 0, locals := 22 } : Room) s m args below meth c 0 0 (x_IW D s (x_A 26 ad) (wX ad cA σ)) (MQ below (x_U D (some (.int (b2i r0))) (wX ad cA σ0) (x_A 26 ad)) args s 0 0 (x_A 26 ad)) 94 [(0, .ref (ad 3)), (3, .int v3)] [] := by
    intro  σ v3 hf
    rw [fX2_readTag_94] at hf
    refine xj_aload_n X 0 dX2_readTag_94 rfl rfl ?_
    refine xj_get X x_IW.P inG_X2 3 (wX_at3 ad cA σ) rfl 0 (by decide) mk1_44 (.ref (ad 4)) rfl dX2_readTag_95 ?_
    refine xj_aload_n X 0 dX2_readTag_98 rfl rfl ?_
    refine xj_get X x_IW.P inG_X2 3 (wX_at3 ad cA σ) rfl 5 (by decide) mk1_54 (.int (σ 3 5)) rfl dX2_readTag_99 ?_
    refine xj_iload_n X 1 dX2_readTag_102 rfl rfl ?_
    refine xj_wrV (rest := []) (x_runSN X (c_put l D cA (wX_D hj cA _) (wX_at4 ad cA σ) (by decide) (σ 3 5) v3 (wX_pu4 ad cA σ (σ 3 5) v3)) (x_cwN X kwX7_put x_nest_10 rfl rfl ⟨Nat.le_of_ble_eq_true rfl, Nat.le_of_ble_eq_true rfl⟩) x_IW.P rfl rfl (Nat.le_of_ble_eq_true rfl) dX2_readTag_103 ⟨Nat.zero_le _, Nat.zero_le _⟩) (fun _ _ _ h _ => h) (fun _ h => h) ?_
    refine xj_iconst (x := (1 : Int32)) X dX2_readTag_106 rfl ?_
    exact xj_zret_wr X hr (x_b2i (x_2a hf)) (congrArg (wX ad cA) (x_2b hf)) dX2_readTag_107
  refine xj_w (A := x_A 26 ad) ?_
  rw [fX2_readTag] at hf
  refine xj_aload_n X 1 dX2_readTag_0 rfl rfl ?_
  refine xj_get X x_IW.P inG_X0 1 (wX_at1 ad cA σ) rfl 0 (by decide) mk1_26 (.ref (ad 2)) rfl dX2_readTag_1 ?_
  refine xj_aload_n X 0 dX2_readTag_4 rfl rfl ?_
  refine xj_get X x_IW.P inG_X2 3 (wX_at3 ad cA σ) rfl 7 (by decide) mk1_59 (.int (σ 3 7)) rfl dX2_readTag_5 ?_
  refine xj_roI (r := x_at 120 (σ 2) (σ 3 7)) (rest := []) (fun _ h => h) (x_runSN X (c_at l D cA (wX_at2 ad cA σ) (by decide) (σ 3 7)) (x_cwN X kwX7_at x_nest_9 rfl rfl ⟨Nat.le_of_ble_eq_true rfl, Nat.le_of_ble_eq_true rfl⟩) x_IW.P rfl rfl (Nat.le_of_ble_eq_true rfl) dX2_readTag_8 ⟨Nat.zero_le _, Nat.zero_le _⟩) ?_
  refine xj_istore_n (lv' := [(3, .int (x_at 120 (σ 2) (σ 3 7))), (0, .ref (ad 3)), (1, .ref (ad 1)), (2, .int p2)]) X dX2_readTag_11 rfl (Nat.le_of_ble_eq_true rfl) rfl ?_
  refine xj_sub [1, 2, 3, 0] rfl ?_
  refine xj_aload_n X 0 dX2_readTag_12 rfl rfl ?_
  refine xj_dup X dX2_readTag_13 rfl ?_
  refine xj_get X x_IW.P inG_X2 3 (wX_at3 ad cA σ) rfl 7 (by decide) mk1_59 (.int (σ 3 7)) rfl dX2_readTag_14 ?_
  refine xj_iconst (x := (1 : Int32)) X dX2_readTag_17 rfl ?_
  refine xj_iadd X dX2_readTag_18 ?_
  refine xj_put X (wX_D hj cA _) inG_X2 tyX2_ok nmX2 3 (wX_at3 ad cA σ) rfl 7 (by decide) mk1_59 rfl .int rfl rfl rfl (Nat.le_of_ble_eq_true rfl) (wX_st3_7 ad cA σ ((σ 3 7) + ((1 : Int32)))) dX2_readTag_19 ?_
  refine xj_iload_n X 3 dX2_readTag_22 rfl rfl ?_
  refine xj_bipush (x := (31 : Int32)) X dX2_readTag_23 rfl ?_
  refine xj_iand X dX2_readTag_25 ?_
  refine xj_bipush (x := (31 : Int32)) X dX2_readTag_26 rfl ?_
  refine xj_icmp_ne (tgt := 94) X dX2_readTag_28 rfl hf (fun hf => ?_) (fun hf => ?_)
  · exact xj_sub [0, 3] rfl (B_94 (up2 σ 3 7 ((σ 3 7) + ((1 : Int32)))) (x_at 120 (σ 2) (σ 3 7)) hf)
  · refine xj_aload_n X 0 dX2_readTag_31 rfl rfl ?_
    refine xj_get X x_IW.P inG_X2 3 (wX_at3 ad cA (up2 σ 3 7 ((σ 3 7) + ((1 : Int32))))) rfl 7 (by decide) mk1_59 (.int ((σ 3 7) + ((1 : Int32)))) rfl dX2_readTag_32 ?_
    refine xj_iload_n X 2 dX2_readTag_35 rfl rfl ?_
    refine xj_icmp_lt (tgt := 45) X dX2_readTag_36 rfl hf (fun hf => ?_) (fun hf => ?_)
    · refine xj_aload_n X 1 dX2_readTag_45 rfl rfl ?_
      refine xj_get X x_IW.P inG_X0 1 (wX_at1 ad cA (up2 σ 3 7 ((σ 3 7) + ((1 : Int32))))) rfl 0 (by decide) mk1_26 (.ref (ad 2)) rfl dX2_readTag_46 ?_
      refine xj_aload_n X 0 dX2_readTag_49 rfl rfl ?_
      refine xj_get X x_IW.P inG_X2 3 (wX_at3 ad cA (up2 σ 3 7 ((σ 3 7) + ((1 : Int32))))) rfl 7 (by decide) mk1_59 (.int ((σ 3 7) + ((1 : Int32)))) rfl dX2_readTag_50 ?_
      refine xj_roI (r := x_at 120 (σ 2) ((σ 3 7) + ((1 : Int32)))) (rest := []) (fun _ h => h) (x_runSN X (c_at l D cA (wX_at2 ad cA (up2 σ 3 7 ((σ 3 7) + ((1 : Int32))))) (by decide) ((σ 3 7) + ((1 : Int32)))) (x_cwN X kwX7_at x_nest_9 rfl rfl ⟨Nat.le_of_ble_eq_true rfl, Nat.le_of_ble_eq_true rfl⟩) x_IW.P rfl rfl (Nat.le_of_ble_eq_true rfl) dX2_readTag_53 ⟨Nat.zero_le _, Nat.zero_le _⟩) ?_
      refine xj_istore (lv' := [(4, .int (x_at 120 (σ 2) ((σ 3 7) + ((1 : Int32))))), (0, .ref (ad 3)), (1, .ref (ad 1)), (2, .int p2), (3, .int (x_at 120 (σ 2) (σ 3 7)))]) X dX2_readTag_56 (Nat.le_of_ble_eq_true rfl) rfl ?_
      refine xj_sub [1, 2, 3, 4, 0] rfl ?_
      refine xj_iload X 4 dX2_readTag_58 rfl ?_
      refine xj_sipush (x := (128 : Int32)) X dX2_readTag_60 rfl ?_
      refine xj_icmp_lt (tgt := 75) X dX2_readTag_63 rfl hf (fun hf => ?_) (fun hf => ?_)
      · refine xj_sipush (x := (256 : Int32)) X dX2_readTag_75 rfl ?_
        refine xj_iload_n X 3 dX2_readTag_78 rfl rfl ?_
        refine xj_imul X dX2_readTag_79 ?_
        refine xj_iload X 4 dX2_readTag_80 rfl ?_
        refine xj_iadd X dX2_readTag_82 ?_
        refine xj_istore_n (lv' := [(3, .int ((((256 : Int32)) * (x_at 120 (σ 2) (σ 3 7))) + (x_at 120 (σ 2) ((σ 3 7) + ((1 : Int32)))))), (0, .ref (ad 3)), (1, .ref (ad 1)), (2, .int p2), (4, .int (x_at 120 (σ 2) ((σ 3 7) + ((1 : Int32)))))]) X dX2_readTag_83 rfl (Nat.le_of_ble_eq_true rfl) rfl ?_
        refine xj_sub [1, 2, 3, 0, 4] rfl ?_
        refine xj_aload_n X 0 dX2_readTag_84 rfl rfl ?_
        refine xj_dup X dX2_readTag_85 rfl ?_
        refine xj_get X x_IW.P inG_X2 3 (wX_at3 ad cA (up2 σ 3 7 ((σ 3 7) + ((1 : Int32))))) rfl 7 (by decide) mk1_59 (.int ((σ 3 7) + ((1 : Int32)))) rfl dX2_readTag_86 ?_
        refine xj_iconst (x := (1 : Int32)) X dX2_readTag_89 rfl ?_
        refine xj_iadd X dX2_readTag_90 ?_
        refine xj_put X (wX_D hj cA _) inG_X2 tyX2_ok nmX2 3 (wX_at3 ad cA (up2 σ 3 7 ((σ 3 7) + ((1 : Int32))))) rfl 7 (by decide) mk1_59 rfl .int rfl rfl rfl (Nat.le_of_ble_eq_true rfl) (wX_st3_7 ad cA (up2 σ 3 7 ((σ 3 7) + ((1 : Int32)))) (((σ 3 7) + ((1 : Int32))) + ((1 : Int32)))) dX2_readTag_91 ?_
        exact xj_sub [0, 3] rfl (B_94 (up2 (up2 σ 3 7 ((σ 3 7) + ((1 : Int32)))) 3 7 (((σ 3 7) + ((1 : Int32))) + ((1 : Int32)))) ((((256 : Int32)) * (x_at 120 (σ 2) (σ 3 7))) + (x_at 120 (σ 2) ((σ 3 7) + ((1 : Int32))))) hf)
      · refine xj_aload_n X 0 dX2_readTag_66 rfl rfl ?_
        refine xj_aload_n X 0 dX2_readTag_67 rfl rfl ?_
        refine xj_get X x_IW.P inG_X2 3 (wX_at3 ad cA (up2 σ 3 7 ((σ 3 7) + ((1 : Int32))))) rfl 7 (by decide) mk1_59 (.int ((σ 3 7) + ((1 : Int32)))) rfl dX2_readTag_68 ?_
        obtain ⟨x1_71, hx1_71, hf⟩ := x_bind hf
        refine xj_wrI (r := b2i x1_71.1) (rest := []) (x_runV X (ctX2_breakAt l D cA hj (up2 σ 3 7 ((σ 3 7) + ((1 : Int32)))) ((σ 3 7) + ((1 : Int32))) x1_71.1 x1_71.2 hx1_71) (x_cwV X kwX2_breakAt mk2_24 rfl rfl ⟨Nat.le_of_ble_eq_true rfl, Nat.le_of_ble_eq_true rfl⟩) x_IW.P 3 (wX_at3 ad cA (up2 σ 3 7 ((σ 3 7) + ((1 : Int32))))) rfl rfl rfl (Nat.le_of_ble_eq_true rfl) dX2_readTag_71 ⟨Nat.zero_le _, Nat.zero_le _⟩) (fun _ _ _ h _ => h) (fun _ h => h) ?_
        exact xj_zret_wr X hr (x_b2i (x_2a hf)) (congrArg (wX ad cA) (x_2b hf)) dX2_readTag_74
    · refine xj_aload_n X 0 dX2_readTag_39 rfl rfl ?_
      refine xj_iload_n X 2 dX2_readTag_40 rfl rfl ?_
      obtain ⟨x2_41, hx2_41, hf⟩ := x_bind hf
      refine xj_wrI (r := b2i x2_41.1) (rest := []) (x_runV X (ctX2_breakAt l D cA hj (up2 σ 3 7 ((σ 3 7) + ((1 : Int32)))) p2 x2_41.1 x2_41.2 hx2_41) (x_cwV X kwX2_breakAt mk2_24 rfl rfl ⟨Nat.le_of_ble_eq_true rfl, Nat.le_of_ble_eq_true rfl⟩) x_IW.P 3 (wX_at3 ad cA (up2 σ 3 7 ((σ 3 7) + ((1 : Int32))))) rfl rfl rfl (Nat.le_of_ble_eq_true rfl) dX2_readTag_41 ⟨Nat.zero_le _, Nat.zero_le _⟩) (fun _ _ _ h _ => h) (fun _ h => h) ?_
      exact xj_zret_wr X hr (x_b2i (x_2a hf)) (congrArg (wX ad cA) (x_2b hf)) dX2_readTag_44
set_option maxHeartbeats 4000000 in
set_option maxRecDepth 100000 in
theorem ctX2_readLength (l : Launch) (D : va_G) (cA : ClassId) {ad : Nat → Nat} (hj : x_inj 26 ad) (σ : x_M) (p2 : Int32) (r0 : Bool) (σ0 : x_M) (hf : fX2_readLength σ p2 = some (r0, σ0)) : Met l yX2_readLength zX2_readLength ({ frames := 1, cells := 0, slots := 0, locals := 22 } : Room) (x_P D cA [.ref (ad 3), .ref (ad 1), .int p2] (wX ad cA σ)) (x_U D (some (.int (b2i r0))) (wX ad cA σ0) (x_A 26 ad)) 0 0 (x_A 26 ad) := by
  refine x_met (cc := cX2_readLength) (maxL := 5) (ret := (some .boolean)) RX2 rfl (by decide) rfl [(0, .ref (ad 3)), (1, .ref (ad 1)), (2, .int p2)] rfl (Nat.le_of_ble_eq_true rfl) ?_
  intro p e s m args below meth c hr X
  have B_103 : ∀ (σ : x_M) (v2 : Int32) (v3 : Int32) (v4 : Int32), fX2_readLength_103 σ v2 v3 v4 = some (r0, σ0) → x_J 5 p l e ({ frames := 1, cells := 0, slots := 0, locals := 22 } : Room) s m args below meth c 0 0 (x_IW D s (x_A 26 ad) (wX ad cA σ)) (MQ below (x_U D (some (.int (b2i r0))) (wX ad cA σ0) (x_A 26 ad)) args s 0 0 (x_A 26 ad)) 103 [(0, .ref (ad 3)), (2, .int v2), (3, .int v3), (4, .int v4)] [] := by
    intro  σ v2 v3 v4 hf
    rw [fX2_readLength_103] at hf
    refine xj_iload X 3 dX2_readLength_103 rfl ?_
    refine xj_iload_n X 1 dX2_readLength_105 rfl rfl ?_
    refine xj_aload_n X 0 dX2_readLength_106 rfl rfl ?_
    refine xj_get X x_IW.P inG_X2 3 (wX_at3 ad cA σ) rfl 7 (by decide) mk1_59 (.int (σ 3 7)) rfl dX2_readLength_107 ?_
    refine xj_isub X dX2_readLength_110 ?_
    refine xj_icmp_le (tgt := 120) X dX2_readLength_111 rfl hf (fun hf => ?_) (fun hf => ?_)
    · refine xj_aload_n X 0 dX2_readLength_120 rfl rfl ?_
      refine xj_get X x_IW.P inG_X2 3 (wX_at3 ad cA σ) rfl 1 (by decide) mk1_46 (.ref (ad 5)) rfl dX2_readLength_121 ?_
      refine xj_aload_n X 0 dX2_readLength_124 rfl rfl ?_
      refine xj_get X x_IW.P inG_X2 3 (wX_at3 ad cA σ) rfl 5 (by decide) mk1_54 (.int (σ 3 5)) rfl dX2_readLength_125 ?_
      refine xj_iload X 3 dX2_readLength_128 rfl ?_
      refine xj_wrV (rest := []) (x_runSN X (c_put l D cA (wX_D hj cA _) (wX_at5 ad cA σ) (by decide) (σ 3 5) v4 (wX_pu5 ad cA σ (σ 3 5) v4)) (x_cwN X kwX7_put x_nest_10 rfl rfl ⟨Nat.le_of_ble_eq_true rfl, Nat.le_of_ble_eq_true rfl⟩) x_IW.P rfl rfl (Nat.le_of_ble_eq_true rfl) dX2_readLength_130 ⟨Nat.zero_le _, Nat.zero_le _⟩) (fun _ _ _ h _ => h) (fun _ h => h) ?_
      refine xj_iconst (x := (1 : Int32)) X dX2_readLength_133 rfl ?_
      exact xj_zret_wr X hr (x_b2i (x_2a hf)) (congrArg (wX ad cA) (x_2b hf)) dX2_readLength_134
    · refine xj_aload_n X 0 dX2_readLength_114 rfl rfl ?_
      refine xj_iload_n X 2 dX2_readLength_115 rfl rfl ?_
      obtain ⟨x1_116, hx1_116, hf⟩ := x_bind hf
      refine xj_wrI (r := b2i x1_116.1) (rest := []) (x_runV X (ctX2_breakAt l D cA hj σ v3 x1_116.1 x1_116.2 hx1_116) (x_cwV X kwX2_breakAt mk2_24 rfl rfl ⟨Nat.le_of_ble_eq_true rfl, Nat.le_of_ble_eq_true rfl⟩) x_IW.P 3 (wX_at3 ad cA σ) rfl rfl rfl (Nat.le_of_ble_eq_true rfl) dX2_readLength_116 ⟨Nat.zero_le _, Nat.zero_le _⟩) (fun _ _ _ h _ => h) (fun _ h => h) ?_
      exact xj_zret_wr X hr (x_b2i (x_2a hf)) (congrArg (wX ad cA) (x_2b hf)) dX2_readLength_119
  refine xj_w (A := x_A 26 ad) ?_
  rw [fX2_readLength] at hf
  refine xj_aload_n X 0 dX2_readLength_0 rfl rfl ?_
  refine xj_get X x_IW.P inG_X2 3 (wX_at3 ad cA σ) rfl 7 (by decide) mk1_59 (.int (σ 3 7)) rfl dX2_readLength_1 ?_
  refine xj_istore_n (lv' := [(3, .int (σ 3 7)), (0, .ref (ad 3)), (1, .ref (ad 1)), (2, .int p2)]) X dX2_readLength_4 rfl (Nat.le_of_ble_eq_true rfl) rfl ?_
  refine xj_sub [1, 2, 3, 0] rfl ?_
  refine xj_aload_n X 0 dX2_readLength_5 rfl rfl ?_
  refine xj_get X x_IW.P inG_X2 3 (wX_at3 ad cA σ) rfl 7 (by decide) mk1_59 (.int (σ 3 7)) rfl dX2_readLength_6 ?_
  refine xj_iload_n X 2 dX2_readLength_9 rfl rfl ?_
  refine xj_icmp_lt (tgt := 19) X dX2_readLength_10 rfl hf (fun hf => ?_) (fun hf => ?_)
  · refine xj_aload_n X 1 dX2_readLength_19 rfl rfl ?_
    refine xj_get X x_IW.P inG_X0 1 (wX_at1 ad cA σ) rfl 0 (by decide) mk1_26 (.ref (ad 2)) rfl dX2_readLength_20 ?_
    refine xj_aload_n X 0 dX2_readLength_23 rfl rfl ?_
    refine xj_get X x_IW.P inG_X2 3 (wX_at3 ad cA σ) rfl 7 (by decide) mk1_59 (.int (σ 3 7)) rfl dX2_readLength_24 ?_
    refine xj_roI (r := x_at 120 (σ 2) (σ 3 7)) (rest := []) (fun _ h => h) (x_runSN X (c_at l D cA (wX_at2 ad cA σ) (by decide) (σ 3 7)) (x_cwN X kwX7_at x_nest_9 rfl rfl ⟨Nat.le_of_ble_eq_true rfl, Nat.le_of_ble_eq_true rfl⟩) x_IW.P rfl rfl (Nat.le_of_ble_eq_true rfl) dX2_readLength_27 ⟨Nat.zero_le _, Nat.zero_le _⟩) ?_
    refine xj_istore (lv' := [(4, .int (x_at 120 (σ 2) (σ 3 7))), (0, .ref (ad 3)), (1, .ref (ad 1)), (2, .int p2), (3, .int (σ 3 7))]) X dX2_readLength_30 (Nat.le_of_ble_eq_true rfl) rfl ?_
    refine xj_sub [1, 2, 3, 4, 0] rfl ?_
    refine xj_aload_n X 0 dX2_readLength_32 rfl rfl ?_
    refine xj_dup X dX2_readLength_33 rfl ?_
    refine xj_get X x_IW.P inG_X2 3 (wX_at3 ad cA σ) rfl 7 (by decide) mk1_59 (.int (σ 3 7)) rfl dX2_readLength_34 ?_
    refine xj_iconst (x := (1 : Int32)) X dX2_readLength_37 rfl ?_
    refine xj_iadd X dX2_readLength_38 ?_
    refine xj_put X (wX_D hj cA _) inG_X2 tyX2_ok nmX2 3 (wX_at3 ad cA σ) rfl 7 (by decide) mk1_59 rfl .int rfl rfl rfl (Nat.le_of_ble_eq_true rfl) (wX_st3_7 ad cA σ ((σ 3 7) + ((1 : Int32)))) dX2_readLength_39 ?_
    refine xj_iload X 4 dX2_readLength_42 rfl ?_
    refine xj_sipush (x := (129 : Int32)) X dX2_readLength_44 rfl ?_
    refine xj_icmp_ne (tgt := 90) X dX2_readLength_47 rfl hf (fun hf => ?_) (fun hf => ?_)
    · refine xj_iload X 4 dX2_readLength_90 rfl ?_
      refine xj_bipush (x := (127 : Int32)) X dX2_readLength_92 rfl ?_
      refine xj_icmp_le (tgt := 103) X dX2_readLength_94 rfl hf (fun hf => ?_) (fun hf => ?_)
      · exact xj_sub [0, 2, 3, 4] rfl (B_103 (up2 σ 3 7 ((σ 3 7) + ((1 : Int32)))) p2 (σ 3 7) (x_at 120 (σ 2) (σ 3 7)) hf)
      · refine xj_aload_n X 0 dX2_readLength_97 rfl rfl ?_
        refine xj_iload_n X 3 dX2_readLength_98 rfl rfl ?_
        obtain ⟨x2_99, hx2_99, hf⟩ := x_bind hf
        refine xj_wrI (r := b2i x2_99.1) (rest := []) (x_runV X (ctX2_breakAt l D cA hj (up2 σ 3 7 ((σ 3 7) + ((1 : Int32)))) (σ 3 7) x2_99.1 x2_99.2 hx2_99) (x_cwV X kwX2_breakAt mk2_24 rfl rfl ⟨Nat.le_of_ble_eq_true rfl, Nat.le_of_ble_eq_true rfl⟩) x_IW.P 3 (wX_at3 ad cA (up2 σ 3 7 ((σ 3 7) + ((1 : Int32))))) rfl rfl rfl (Nat.le_of_ble_eq_true rfl) dX2_readLength_99 ⟨Nat.zero_le _, Nat.zero_le _⟩) (fun _ _ _ h _ => h) (fun _ h => h) ?_
        exact xj_zret_wr X hr (x_b2i (x_2a hf)) (congrArg (wX ad cA) (x_2b hf)) dX2_readLength_102
    · refine xj_aload_n X 0 dX2_readLength_50 rfl rfl ?_
      refine xj_get X x_IW.P inG_X2 3 (wX_at3 ad cA (up2 σ 3 7 ((σ 3 7) + ((1 : Int32))))) rfl 7 (by decide) mk1_59 (.int ((σ 3 7) + ((1 : Int32)))) rfl dX2_readLength_51 ?_
      refine xj_iload_n X 2 dX2_readLength_54 rfl rfl ?_
      refine xj_icmp_lt (tgt := 64) X dX2_readLength_55 rfl hf (fun hf => ?_) (fun hf => ?_)
      · refine xj_aload_n X 1 dX2_readLength_64 rfl rfl ?_
        refine xj_get X x_IW.P inG_X0 1 (wX_at1 ad cA (up2 σ 3 7 ((σ 3 7) + ((1 : Int32))))) rfl 0 (by decide) mk1_26 (.ref (ad 2)) rfl dX2_readLength_65 ?_
        refine xj_aload_n X 0 dX2_readLength_68 rfl rfl ?_
        refine xj_get X x_IW.P inG_X2 3 (wX_at3 ad cA (up2 σ 3 7 ((σ 3 7) + ((1 : Int32))))) rfl 7 (by decide) mk1_59 (.int ((σ 3 7) + ((1 : Int32)))) rfl dX2_readLength_69 ?_
        refine xj_roI (r := x_at 120 (σ 2) ((σ 3 7) + ((1 : Int32)))) (rest := []) (fun _ h => h) (x_runSN X (c_at l D cA (wX_at2 ad cA (up2 σ 3 7 ((σ 3 7) + ((1 : Int32))))) (by decide) ((σ 3 7) + ((1 : Int32)))) (x_cwN X kwX7_at x_nest_9 rfl rfl ⟨Nat.le_of_ble_eq_true rfl, Nat.le_of_ble_eq_true rfl⟩) x_IW.P rfl rfl (Nat.le_of_ble_eq_true rfl) dX2_readLength_72 ⟨Nat.zero_le _, Nat.zero_le _⟩) ?_
        refine xj_istore (lv' := [(4, .int (x_at 120 (σ 2) ((σ 3 7) + ((1 : Int32))))), (0, .ref (ad 3)), (1, .ref (ad 1)), (2, .int p2), (3, .int (σ 3 7))]) X dX2_readLength_75 (Nat.le_of_ble_eq_true rfl) rfl ?_
        refine xj_sub [1, 2, 3, 4, 0] rfl ?_
        refine xj_aload_n X 0 dX2_readLength_77 rfl rfl ?_
        refine xj_dup X dX2_readLength_78 rfl ?_
        refine xj_get X x_IW.P inG_X2 3 (wX_at3 ad cA (up2 σ 3 7 ((σ 3 7) + ((1 : Int32))))) rfl 7 (by decide) mk1_59 (.int ((σ 3 7) + ((1 : Int32)))) rfl dX2_readLength_79 ?_
        refine xj_iconst (x := (1 : Int32)) X dX2_readLength_82 rfl ?_
        refine xj_iadd X dX2_readLength_83 ?_
        refine xj_put X (wX_D hj cA _) inG_X2 tyX2_ok nmX2 3 (wX_at3 ad cA (up2 σ 3 7 ((σ 3 7) + ((1 : Int32))))) rfl 7 (by decide) mk1_59 rfl .int rfl rfl rfl (Nat.le_of_ble_eq_true rfl) (wX_st3_7 ad cA (up2 σ 3 7 ((σ 3 7) + ((1 : Int32)))) (((σ 3 7) + ((1 : Int32))) + ((1 : Int32)))) dX2_readLength_84 ?_
        refine xj_goto (tgt := 103) X dX2_readLength_87 rfl ?_
        exact xj_sub [0, 2, 3, 4] rfl (B_103 (up2 (up2 σ 3 7 ((σ 3 7) + ((1 : Int32)))) 3 7 (((σ 3 7) + ((1 : Int32))) + ((1 : Int32)))) p2 (σ 3 7) (x_at 120 (σ 2) ((σ 3 7) + ((1 : Int32)))) hf)
      · refine xj_aload_n X 0 dX2_readLength_58 rfl rfl ?_
        refine xj_iload_n X 2 dX2_readLength_59 rfl rfl ?_
        obtain ⟨x3_60, hx3_60, hf⟩ := x_bind hf
        refine xj_wrI (r := b2i x3_60.1) (rest := []) (x_runV X (ctX2_breakAt l D cA hj (up2 σ 3 7 ((σ 3 7) + ((1 : Int32)))) p2 x3_60.1 x3_60.2 hx3_60) (x_cwV X kwX2_breakAt mk2_24 rfl rfl ⟨Nat.le_of_ble_eq_true rfl, Nat.le_of_ble_eq_true rfl⟩) x_IW.P 3 (wX_at3 ad cA (up2 σ 3 7 ((σ 3 7) + ((1 : Int32))))) rfl rfl rfl (Nat.le_of_ble_eq_true rfl) dX2_readLength_60 ⟨Nat.zero_le _, Nat.zero_le _⟩) (fun _ _ _ h _ => h) (fun _ h => h) ?_
        exact xj_zret_wr X hr (x_b2i (x_2a hf)) (congrArg (wX ad cA) (x_2b hf)) dX2_readLength_63
  · refine xj_aload_n X 0 dX2_readLength_13 rfl rfl ?_
    refine xj_iload_n X 2 dX2_readLength_14 rfl rfl ?_
    obtain ⟨x4_15, hx4_15, hf⟩ := x_bind hf
    refine xj_wrI (r := b2i x4_15.1) (rest := []) (x_runV X (ctX2_breakAt l D cA hj σ p2 x4_15.1 x4_15.2 hx4_15) (x_cwV X kwX2_breakAt mk2_24 rfl rfl ⟨Nat.le_of_ble_eq_true rfl, Nat.le_of_ble_eq_true rfl⟩) x_IW.P 3 (wX_at3 ad cA σ) rfl rfl rfl (Nat.le_of_ble_eq_true rfl) dX2_readLength_15 ⟨Nat.zero_le _, Nat.zero_le _⟩) (fun _ _ _ h _ => h) (fun _ h => h) ?_
    exact xj_zret_wr X hr (x_b2i (x_2a hf)) (congrArg (wX ad cA) (x_2b hf)) dX2_readLength_18
set_option maxHeartbeats 4000000 in
set_option maxRecDepth 100000 in
theorem ctX2_read (l : Launch) (D : va_G) (cA : ClassId) {ad : Nat → Nat} (hj : x_inj 26 ad) (σ : x_M) (σ0 : x_M) (hf : fX2_read σ = some σ0) : Met l yX2_read zX2_read ({ frames := 3, cells := 0, slots := 0, locals := 65 } : Room) (x_P D cA [.ref (ad 3), .ref (ad 1)] (wX ad cA σ)) (x_U D none (wX ad cA σ0) (x_A 26 ad)) 0 0 (x_A 26 ad) := by
  refine x_met (cc := cX2_read) (maxL := 6) (ret := none) RX2 rfl (by decide) rfl [(0, .ref (ad 3)), (1, .ref (ad 1))] rfl (Nat.le_of_ble_eq_true rfl) ?_
  intro p e s m args below meth c hr X
  have B_215 : ∀ (K19 : x_M → Int32 → Int32 → Option x_M) (_ : ∀ (σ : x_M) (v2 : Int32) (v3 : Int32), K19 σ v2 v3 = some σ0 → x_J 6 p l e ({ frames := 3, cells := 0, slots := 0, locals := 65 } : Room) s m args below meth c 0 0 (x_IW D s (x_A 26 ad) (wX ad cA σ)) (MQ below (x_U D none (wX ad cA σ0) (x_A 26 ad)) args s 0 0 (x_A 26 ad)) 19 [(0, .ref (ad 3)), (1, .ref (ad 1)), (2, .int v2), (3, .int v3)] []) (σ : x_M) (v2 : Int32) (v3 : Int32), fX2_read_215 K19 σ v2 v3 = some σ0 → x_J 6 p l e ({ frames := 3, cells := 0, slots := 0, locals := 65 } : Room) s m args below meth c 0 0 (x_IW D s (x_A 26 ad) (wX ad cA σ)) (MQ below (x_U D none (wX ad cA σ0) (x_A 26 ad)) args s 0 0 (x_A 26 ad)) 215 [(0, .ref (ad 3)), (1, .ref (ad 1)), (2, .int v2), (3, .int v3)] [] := by
    intro K19 hK19 σ v2 v3 hf
    rw [fX2_read_215] at hf
    refine xj_aload_n X 0 dX2_read_215 rfl rfl ?_
    refine xj_dup X dX2_read_216 rfl ?_
    refine xj_get X x_IW.P inG_X2 3 (wX_at3 ad cA σ) rfl 5 (by decide) mk1_54 (.int (σ 3 5)) rfl dX2_read_217 ?_
    refine xj_iconst (x := (1 : Int32)) X dX2_read_220 rfl ?_
    refine xj_iadd X dX2_read_221 ?_
    refine xj_put X (wX_D hj cA _) inG_X2 tyX2_ok nmX2 3 (wX_at3 ad cA σ) rfl 5 (by decide) mk1_54 rfl .int rfl rfl rfl (Nat.le_of_ble_eq_true rfl) (wX_st3_5 ad cA σ ((σ 3 5) + ((1 : Int32)))) dX2_read_222 ?_
    refine xj_iinc (y := v3 + (1 : Int32)) (lv' := [(3, .int (v3 + (1 : Int32))), (0, .ref (ad 3)), (1, .ref (ad 1)), (2, .int v2)]) X 3 dX2_read_225 rfl rfl (Nat.le_of_ble_eq_true rfl) rfl ?_
    refine xj_sub [1, 2, 3, 0] rfl ?_
    refine xj_goto (tgt := 19) X dX2_read_228 rfl ?_
    exact (hK19 (up2 σ 3 5 ((σ 3 5) + ((1 : Int32)))) v2 (v3 + (1 : Int32)) hf)
  have B_164 : ∀ (K19 : x_M → Int32 → Int32 → Option x_M) (_ : ∀ (σ : x_M) (v2 : Int32) (v3 : Int32), K19 σ v2 v3 = some σ0 → x_J 6 p l e ({ frames := 3, cells := 0, slots := 0, locals := 65 } : Room) s m args below meth c 0 0 (x_IW D s (x_A 26 ad) (wX ad cA σ)) (MQ below (x_U D none (wX ad cA σ0) (x_A 26 ad)) args s 0 0 (x_A 26 ad)) 19 [(0, .ref (ad 3)), (1, .ref (ad 1)), (2, .int v2), (3, .int v3)] []) (σ : x_M) (v2 : Int32) (v3 : Int32) (v5 : Int32) (w1 : Int32) (w2 : Int32), fX2_read_164 K19 σ v2 v3 v5 w1 w2 = some σ0 → x_J 6 p l e ({ frames := 3, cells := 0, slots := 0, locals := 65 } : Room) s m args below meth c 0 0 (x_IW D s (x_A 26 ad) (wX ad cA σ)) (MQ below (x_U D none (wX ad cA σ0) (x_A 26 ad)) args s 0 0 (x_A 26 ad)) 164 [(0, .ref (ad 3)), (1, .ref (ad 1)), (2, .int v2), (3, .int v3), (5, .int v5)] [.int w2, .int w1, .ref (ad 6)] := by
    intro K19 hK19 σ v2 v3 v5 w1 w2 hf
    rw [fX2_read_164] at hf
    refine xj_wrV (rest := []) (x_runSN X (c_put l D cA (wX_D hj cA _) (wX_at6 ad cA σ) (by decide) w1 w2 (wX_pu6 ad cA σ w1 w2)) (x_cwN X kwX7_put x_nest_10 rfl rfl ⟨Nat.le_of_ble_eq_true rfl, Nat.le_of_ble_eq_true rfl⟩) x_IW.P rfl rfl (Nat.le_of_ble_eq_true rfl) dX2_read_164 ⟨Nat.zero_le _, Nat.zero_le _⟩) (fun _ _ _ h _ => h) (fun _ h => h) ?_
    refine xj_aload_n X 0 dX2_read_167 rfl rfl ?_
    refine xj_get X x_IW.P inG_X2 3 (wX_at3 ad cA (pu σ 6 24 w1 w2)) rfl 4 (by decide) mk1_52 (.ref (ad 8)) rfl dX2_read_168 ?_
    refine xj_aload_n X 0 dX2_read_171 rfl rfl ?_
    refine xj_get X x_IW.P inG_X2 3 (wX_at3 ad cA (pu σ 6 24 w1 w2)) rfl 5 (by decide) mk1_54 (.int (σ 3 5)) rfl dX2_read_172 ?_
    refine xj_aload_n X 0 dX2_read_175 rfl rfl ?_
    refine xj_get X x_IW.P inG_X2 3 (wX_at3 ad cA (pu σ 6 24 w1 w2)) rfl 7 (by decide) mk1_59 (.int (σ 3 7)) rfl dX2_read_176 ?_
    refine xj_wrV (rest := []) (x_runSN X (c_put l D cA (wX_D hj cA _) (wX_at8 ad cA (pu σ 6 24 w1 w2)) (by decide) (σ 3 5) (σ 3 7) (wX_pu8 ad cA (pu σ 6 24 w1 w2) (σ 3 5) (σ 3 7))) (x_cwN X kwX7_put x_nest_10 rfl rfl ⟨Nat.le_of_ble_eq_true rfl, Nat.le_of_ble_eq_true rfl⟩) x_IW.P rfl rfl (Nat.le_of_ble_eq_true rfl) dX2_read_179 ⟨Nat.zero_le _, Nat.zero_le _⟩) (fun _ _ _ h _ => h) (fun _ h => h) ?_
    refine xj_iload X 4 dX2_read_182 rfl ?_
    refine xj_if_eq (tgt := 195) X dX2_read_184 rfl hf (fun hf => ?_) (fun hf => ?_)
    · refine xj_aload_n X 0 dX2_read_195 rfl rfl ?_
      refine xj_dup X dX2_read_196 rfl ?_
      refine xj_get X x_IW.P inG_X2 3 (wX_at3 ad cA (pu (pu σ 6 24 w1 w2) 8 24 (σ 3 5) (σ 3 7))) rfl 7 (by decide) mk1_59 (.int (σ 3 7)) rfl dX2_read_197 ?_
      refine xj_aload_n X 0 dX2_read_200 rfl rfl ?_
      refine xj_get X x_IW.P inG_X2 3 (wX_at3 ad cA (pu (pu σ 6 24 w1 w2) 8 24 (σ 3 5) (σ 3 7))) rfl 1 (by decide) mk1_46 (.ref (ad 5)) rfl dX2_read_201 ?_
      refine xj_aload_n X 0 dX2_read_204 rfl rfl ?_
      refine xj_get X x_IW.P inG_X2 3 (wX_at3 ad cA (pu (pu σ 6 24 w1 w2) 8 24 (σ 3 5) (σ 3 7))) rfl 5 (by decide) mk1_54 (.int (σ 3 5)) rfl dX2_read_205 ?_
      refine xj_roI (r := x_at 24 (σ 5) (σ 3 5)) (rest := [.int (σ 3 7), .ref (ad 3)]) (fun _ h => h) (x_runSN X (c_at l D cA (wX_at5 ad cA (pu (pu σ 6 24 w1 w2) 8 24 (σ 3 5) (σ 3 7))) (by decide) (σ 3 5)) (x_cwN X kwX7_at x_nest_9 rfl rfl ⟨Nat.le_of_ble_eq_true rfl, Nat.le_of_ble_eq_true rfl⟩) x_IW.P rfl rfl (Nat.le_of_ble_eq_true rfl) dX2_read_208 ⟨Nat.zero_le _, Nat.zero_le _⟩) ?_
      refine xj_iadd X dX2_read_211 ?_
      refine xj_put X (wX_D hj cA _) inG_X2 tyX2_ok nmX2 3 (wX_at3 ad cA (pu (pu σ 6 24 w1 w2) 8 24 (σ 3 5) (σ 3 7))) rfl 7 (by decide) mk1_59 rfl .int rfl rfl rfl (Nat.le_of_ble_eq_true rfl) (wX_st3_7 ad cA (pu (pu σ 6 24 w1 w2) 8 24 (σ 3 5) (σ 3 7)) ((σ 3 7) + (x_at 24 (σ 5) (σ 3 5)))) dX2_read_212 ?_
      exact xj_sub [0, 1, 2, 3] rfl (B_215 K19 hK19 (up2 (pu (pu σ 6 24 w1 w2) 8 24 (σ 3 5) (σ 3 7)) 3 7 ((σ 3 7) + (x_at 24 (σ 5) (σ 3 5)))) v2 v3 hf)
    · refine xj_aload_n X 0 dX2_read_187 rfl rfl ?_
      refine xj_get X x_IW.P inG_X2 3 (wX_at3 ad cA (pu (pu σ 6 24 w1 w2) 8 24 (σ 3 5) (σ 3 7))) rfl 5 (by decide) mk1_54 (.int (σ 3 5)) rfl dX2_read_188 ?_
      refine xj_istore_n (lv' := [(2, .int (σ 3 5)), (0, .ref (ad 3)), (1, .ref (ad 1)), (3, .int v3), (5, .int v5)]) X dX2_read_191 rfl (Nat.le_of_ble_eq_true rfl) rfl ?_
      refine xj_sub [1, 2, 0, 3, 4] rfl ?_
      refine xj_goto (tgt := 215) X dX2_read_192 rfl ?_
      exact xj_sub [0, 1, 2, 3] rfl (B_215 K19 hK19 (pu (pu σ 6 24 w1 w2) 8 24 (σ 3 5) (σ 3 7)) (σ 3 5) v3 hf)
  have B_102 : ∀ (K19 : x_M → Int32 → Int32 → Option x_M) (_ : ∀ (σ : x_M) (v2 : Int32) (v3 : Int32), K19 σ v2 v3 = some σ0 → x_J 6 p l e ({ frames := 3, cells := 0, slots := 0, locals := 65 } : Room) s m args below meth c 0 0 (x_IW D s (x_A 26 ad) (wX ad cA σ)) (MQ below (x_U D none (wX ad cA σ0) (x_A 26 ad)) args s 0 0 (x_A 26 ad)) 19 [(0, .ref (ad 3)), (1, .ref (ad 1)), (2, .int v2), (3, .int v3)] []) (σ : x_M) (v2 : Int32) (v3 : Int32) (v4 : Int32) (w0 : Int32), fX2_read_102 K19 σ v2 v3 v4 w0 = some σ0 → x_J 6 p l e ({ frames := 3, cells := 0, slots := 0, locals := 65 } : Room) s m args below meth c 0 0 (x_IW D s (x_A 26 ad) (wX ad cA σ)) (MQ below (x_U D none (wX ad cA σ0) (x_A 26 ad)) args s 0 0 (x_A 26 ad)) 102 [(0, .ref (ad 3)), (1, .ref (ad 1)), (2, .int v2), (3, .int v3), (4, .int v4)] [.int w0] := by
    intro K19 hK19 σ v2 v3 v4 w0 hf
    rw [fX2_read_102] at hf
    refine xj_istore (lv' := [(5, .int w0), (0, .ref (ad 3)), (1, .ref (ad 1)), (2, .int v2), (3, .int v3), (4, .int v4)]) X dX2_read_102 (Nat.le_of_ble_eq_true rfl) rfl ?_
    refine xj_sub [1, 2, 3, 4, 5, 0] rfl ?_
    refine xj_aload_n X 0 dX2_read_104 rfl rfl ?_
    refine xj_aload_n X 1 dX2_read_105 rfl rfl ?_
    refine xj_iload X 4 dX2_read_106 rfl ?_
    obtain ⟨x2_108, hx2_108, hf⟩ := x_bind hf
    refine xj_wrI (r := b2i x2_108.1) (rest := []) (x_runV X (ctX2_readTag l D cA hj σ v4 x2_108.1 x2_108.2 hx2_108) (x_cwV X kwX2_readTag mk2_20 rfl rfl ⟨Nat.le_of_ble_eq_true rfl, Nat.le_of_ble_eq_true rfl⟩) x_IW.P 3 (wX_at3 ad cA σ) rfl rfl rfl (Nat.le_of_ble_eq_true rfl) dX2_read_108 ⟨Nat.zero_le _, Nat.zero_le _⟩) (fun _ _ _ h _ => h) (fun _ h => h) ?_
    refine xj_if_eq (tgt := 124) X dX2_read_111 rfl hf (fun hf => ?_) (fun hf => ?_)
    · exact xj_vret_wr X hr (congrArg (wX ad cA) (x_1 hf)) dX2_read_124
    · refine xj_aload_n X 0 dX2_read_114 rfl rfl ?_
      refine xj_aload_n X 1 dX2_read_115 rfl rfl ?_
      refine xj_iload X 4 dX2_read_116 rfl ?_
      obtain ⟨x3_118, hx3_118, hf⟩ := x_bind hf
      refine xj_wrI (r := b2i x3_118.1) (rest := []) (x_runV X (ctX2_readLength l D cA hj x2_108.2 v4 x3_118.1 x3_118.2 hx3_118) (x_cwV X kwX2_readLength mk2_29 rfl rfl ⟨Nat.le_of_ble_eq_true rfl, Nat.le_of_ble_eq_true rfl⟩) x_IW.P 3 (wX_at3 ad cA x2_108.2) rfl rfl rfl (Nat.le_of_ble_eq_true rfl) dX2_read_118 ⟨Nat.zero_le _, Nat.zero_le _⟩) (fun _ _ _ h _ => h) (fun _ h => h) ?_
      refine xj_if_ne (tgt := 125) X dX2_read_121 rfl hf (fun hf => ?_) (fun hf => ?_)
      · refine xj_aload_n X 0 dX2_read_125 rfl rfl ?_
        refine xj_get X x_IW.P inG_X2 3 (wX_at3 ad cA x3_118.2) rfl 3 (by decide) mk1_51 (.ref (ad 7)) rfl dX2_read_126 ?_
        refine xj_aload_n X 0 dX2_read_129 rfl rfl ?_
        refine xj_get X x_IW.P inG_X2 3 (wX_at3 ad cA x3_118.2) rfl 5 (by decide) mk1_54 (.int (x3_118.2 3 5)) rfl dX2_read_130 ?_
        refine xj_iload_n X 2 dX2_read_133 rfl rfl ?_
        refine xj_wrV (rest := []) (x_runSN X (c_put l D cA (wX_D hj cA _) (wX_at7 ad cA x3_118.2) (by decide) (x3_118.2 3 5) v2 (wX_pu7 ad cA x3_118.2 (x3_118.2 3 5) v2)) (x_cwN X kwX7_put x_nest_10 rfl rfl ⟨Nat.le_of_ble_eq_true rfl, Nat.le_of_ble_eq_true rfl⟩) x_IW.P rfl rfl (Nat.le_of_ble_eq_true rfl) dX2_read_134 ⟨Nat.zero_le _, Nat.zero_le _⟩) (fun _ _ _ h _ => h) (fun _ h => h) ?_
        refine xj_aload_n X 0 dX2_read_137 rfl rfl ?_
        refine xj_get X x_IW.P inG_X2 3 (wX_at3 ad cA (pu x3_118.2 7 24 (x3_118.2 3 5) v2)) rfl 2 (by decide) mk1_49 (.ref (ad 6)) rfl dX2_read_138 ?_
        refine xj_aload_n X 0 dX2_read_141 rfl rfl ?_
        refine xj_get X x_IW.P inG_X2 3 (wX_at3 ad cA (pu x3_118.2 7 24 (x3_118.2 3 5) v2)) rfl 5 (by decide) mk1_54 (.int (x3_118.2 3 5)) rfl dX2_read_142 ?_
        refine xj_iload_n X 2 dX2_read_145 rfl rfl ?_
        refine xj_iconst (x := (-1 : Int32)) X dX2_read_146 rfl ?_
        refine xj_icmp_ne (tgt := 154) X dX2_read_147 rfl hf (fun hf => ?_) (fun hf => ?_)
        · refine xj_aload_n X 0 dX2_read_154 rfl rfl ?_
          refine xj_get X x_IW.P inG_X2 3 (wX_at3 ad cA (pu x3_118.2 7 24 (x3_118.2 3 5) v2)) rfl 2 (by decide) mk1_49 (.ref (ad 6)) rfl dX2_read_155 ?_
          refine xj_iload_n X 2 dX2_read_158 rfl rfl ?_
          refine xj_roI (r := x_at 24 (x3_118.2 6) v2) (rest := [.int (x3_118.2 3 5), .ref (ad 6)]) (fun _ h => h) (x_runSN X (c_at l D cA (wX_at6 ad cA (pu x3_118.2 7 24 (x3_118.2 3 5) v2)) (by decide) v2) (x_cwN X kwX7_at x_nest_9 rfl rfl ⟨Nat.le_of_ble_eq_true rfl, Nat.le_of_ble_eq_true rfl⟩) x_IW.P rfl rfl (Nat.le_of_ble_eq_true rfl) dX2_read_159 ⟨Nat.zero_le _, Nat.zero_le _⟩) ?_
          refine xj_iconst (x := (1 : Int32)) X dX2_read_162 rfl ?_
          refine xj_iadd X dX2_read_163 ?_
          exact xj_sub [0, 1, 2, 3, 5] rfl (B_164 K19 hK19 (pu x3_118.2 7 24 (x3_118.2 3 5) v2) v2 v3 w0 (x3_118.2 3 5) ((x_at 24 (x3_118.2 6) v2) + ((1 : Int32))) hf)
        · refine xj_iconst (x := (0 : Int32)) X dX2_read_150 rfl ?_
          refine xj_goto (tgt := 164) X dX2_read_151 rfl ?_
          exact xj_sub [0, 1, 2, 3, 5] rfl (B_164 K19 hK19 (pu x3_118.2 7 24 (x3_118.2 3 5) v2) v2 v3 w0 (x3_118.2 3 5) ((0 : Int32)) hf)
      · exact xj_vret_wr X hr (congrArg (wX ad cA) (x_1 hf)) dX2_read_124
  have B_78 : ∀ (K19 : x_M → Int32 → Int32 → Option x_M) (_ : ∀ (σ : x_M) (v2 : Int32) (v3 : Int32), K19 σ v2 v3 = some σ0 → x_J 6 p l e ({ frames := 3, cells := 0, slots := 0, locals := 65 } : Room) s m args below meth c 0 0 (x_IW D s (x_A 26 ad) (wX ad cA σ)) (MQ below (x_U D none (wX ad cA σ0) (x_A 26 ad)) args s 0 0 (x_A 26 ad)) 19 [(0, .ref (ad 3)), (1, .ref (ad 1)), (2, .int v2), (3, .int v3)] []) (σ : x_M) (v2 : Int32) (v3 : Int32) (w0 : Int32), fX2_read_78 K19 σ v2 v3 w0 = some σ0 → x_J 6 p l e ({ frames := 3, cells := 0, slots := 0, locals := 65 } : Room) s m args below meth c 0 0 (x_IW D s (x_A 26 ad) (wX ad cA σ)) (MQ below (x_U D none (wX ad cA σ0) (x_A 26 ad)) args s 0 0 (x_A 26 ad)) 78 [(0, .ref (ad 3)), (1, .ref (ad 1)), (2, .int v2), (3, .int v3)] [.int w0] := by
    intro K19 hK19 σ v2 v3 w0 hf
    rw [fX2_read_78] at hf
    refine xj_istore (lv' := [(4, .int w0), (0, .ref (ad 3)), (1, .ref (ad 1)), (2, .int v2), (3, .int v3)]) X dX2_read_78 (Nat.le_of_ble_eq_true rfl) rfl ?_
    refine xj_sub [1, 2, 3, 4, 0] rfl ?_
    refine xj_aload_n X 1 dX2_read_80 rfl rfl ?_
    refine xj_get X x_IW.P inG_X0 1 (wX_at1 ad cA σ) rfl 0 (by decide) mk1_26 (.ref (ad 2)) rfl dX2_read_81 ?_
    refine xj_aload_n X 0 dX2_read_84 rfl rfl ?_
    refine xj_get X x_IW.P inG_X2 3 (wX_at3 ad cA σ) rfl 7 (by decide) mk1_59 (.int (σ 3 7)) rfl dX2_read_85 ?_
    refine xj_roI (r := x_at 120 (σ 2) (σ 3 7)) (rest := []) (fun _ h => h) (x_runSN X (c_at l D cA (wX_at2 ad cA σ) (by decide) (σ 3 7)) (x_cwN X kwX7_at x_nest_9 rfl rfl ⟨Nat.le_of_ble_eq_true rfl, Nat.le_of_ble_eq_true rfl⟩) x_IW.P rfl rfl (Nat.le_of_ble_eq_true rfl) dX2_read_88 ⟨Nat.zero_le _, Nat.zero_le _⟩) ?_
    refine xj_bipush (x := (32 : Int32)) X dX2_read_91 rfl ?_
    refine xj_iand X dX2_read_93 ?_
    refine xj_if_eq (tgt := 101) X dX2_read_94 rfl hf (fun hf => ?_) (fun hf => ?_)
    · refine xj_iconst (x := (0 : Int32)) X dX2_read_101 rfl ?_
      exact (B_102 K19 hK19 σ v2 v3 w0 ((0 : Int32)) hf)
    · refine xj_iconst (x := (1 : Int32)) X dX2_read_97 rfl ?_
      refine xj_goto (tgt := 102) X dX2_read_98 rfl ?_
      exact (B_102 K19 hK19 σ v2 v3 w0 ((1 : Int32)) hf)
  have B_19 : ∀ (n : Nat) (σ : x_M) (v2 : Int32) (v3 : Int32), fX2_read_19 n σ v2 v3 = some σ0 → x_J 6 p l e ({ frames := 3, cells := 0, slots := 0, locals := 65 } : Room) s m args below meth c 0 0 (x_IW D s (x_A 26 ad) (wX ad cA σ)) (MQ below (x_U D none (wX ad cA σ0) (x_A 26 ad)) args s 0 0 (x_A 26 ad)) 19 [(0, .ref (ad 3)), (1, .ref (ad 1)), (2, .int v2), (3, .int v3)] [] := by
    intro n
    induction n with
    | zero => intro σ v2 v3 hf; rw [fX2_read_19] at hf; cases hf
    | succ n ih =>
      intro σ v2 v3 hf
      rw [fX2_read_19] at hf
      refine xj_iload_n X 3 dX2_read_19 rfl rfl ?_
      refine xj_bipush (x := (24 : Int32)) X dX2_read_20 rfl ?_
      refine xj_icmp_gt (tgt := 231) X dX2_read_22 rfl hf (fun hf => ?_) (fun hf => ?_)
      · exact xj_vret_wr X hr (congrArg (wX ad cA) (x_1 hf)) dX2_read_231
      · refine xj_aload_n X 0 dX2_read_25 rfl rfl ?_
        refine xj_iload_n X 2 dX2_read_26 rfl rfl ?_
        obtain ⟨x1_27, hx1_27, hf⟩ := x_bind hf
        refine xj_roI (r := x1_27) (rest := []) (fun _ h => h) (x_runV X (ctX2_stillOpen l D cA ad σ v2 _ hx1_27) (x_cwV X kwX2_stillOpen mk2_9 rfl rfl ⟨Nat.le_of_ble_eq_true rfl, Nat.le_of_ble_eq_true rfl⟩) x_IW.P 3 (wX_at3 ad cA σ) rfl rfl rfl (Nat.le_of_ble_eq_true rfl) dX2_read_27 ⟨Nat.zero_le _, Nat.zero_le _⟩) ?_
        refine xj_istore_n (lv' := [(2, .int x1_27), (0, .ref (ad 3)), (1, .ref (ad 1)), (3, .int v3)]) X dX2_read_30 rfl (Nat.le_of_ble_eq_true rfl) rfl ?_
        refine xj_sub [1, 2, 0, 3] rfl ?_
        refine xj_aload_n X 0 dX2_read_31 rfl rfl ?_
        refine xj_get X x_IW.P inG_X2 3 (wX_at3 ad cA σ) rfl 7 (by decide) mk1_59 (.int (σ 3 7)) rfl dX2_read_32 ?_
        refine xj_aload_n X 1 dX2_read_35 rfl rfl ?_
        refine xj_get X x_IW.P inG_X0 1 (wX_at1 ad cA σ) rfl 1 (by decide) mk1_31 (.int (σ 1 1)) rfl dX2_read_36 ?_
        refine xj_icmp_lt (tgt := 43) X dX2_read_39 rfl hf (fun hf => ?_) (fun hf => ?_)
        · refine xj_aload_n X 0 dX2_read_43 rfl rfl ?_
          refine xj_get X x_IW.P inG_X2 3 (wX_at3 ad cA σ) rfl 5 (by decide) mk1_54 (.int (σ 3 5)) rfl dX2_read_44 ?_
          refine xj_bipush (x := (24 : Int32)) X dX2_read_47 rfl ?_
          refine xj_icmp_lt (tgt := 61) X dX2_read_49 rfl hf (fun hf => ?_) (fun hf => ?_)
          · refine xj_iload_n X 2 dX2_read_61 rfl rfl ?_
            refine xj_iconst (x := (-1 : Int32)) X dX2_read_62 rfl ?_
            refine xj_icmp_ne (tgt := 73) X dX2_read_63 rfl hf (fun hf => ?_) (fun hf => ?_)
            · refine xj_aload_n X 0 dX2_read_73 rfl rfl ?_
              refine xj_iload_n X 2 dX2_read_74 rfl rfl ?_
              refine xj_roI (r := fX2_valueEnd σ x1_27) (rest := []) (fun _ h => h) (x_runV X (ctX2_valueEnd l D cA ad σ x1_27 _ rfl) (x_cwV X kwX2_valueEnd mk2_13 rfl rfl ⟨Nat.le_of_ble_eq_true rfl, Nat.le_of_ble_eq_true rfl⟩) x_IW.P 3 (wX_at3 ad cA σ) rfl rfl rfl (Nat.le_of_ble_eq_true rfl) dX2_read_75 ⟨Nat.zero_le _, Nat.zero_le _⟩) ?_
              exact (B_78 (fX2_read_19 n) ih σ x1_27 v3 (fX2_valueEnd σ x1_27) hf)
            · refine xj_aload_n X 1 dX2_read_66 rfl rfl ?_
              refine xj_get X x_IW.P inG_X0 1 (wX_at1 ad cA σ) rfl 1 (by decide) mk1_31 (.int (σ 1 1)) rfl dX2_read_67 ?_
              refine xj_goto (tgt := 78) X dX2_read_70 rfl ?_
              exact (B_78 (fX2_read_19 n) ih σ x1_27 v3 (σ 1 1) hf)
          · refine xj_aload_n X 0 dX2_read_52 rfl rfl ?_
            refine xj_aload_n X 0 dX2_read_53 rfl rfl ?_
            refine xj_get X x_IW.P inG_X2 3 (wX_at3 ad cA σ) rfl 7 (by decide) mk1_59 (.int (σ 3 7)) rfl dX2_read_54 ?_
            refine xj_put X (wX_D hj cA _) inG_X2 tyX2_ok nmX2 3 (wX_at3 ad cA σ) rfl 6 (by decide) mk1_57 rfl .int rfl rfl rfl (Nat.le_of_ble_eq_true rfl) (wX_st3_6 ad cA σ (σ 3 7)) dX2_read_57 ?_
            exact xj_vret_wr X hr (congrArg (wX ad cA) (x_1 hf)) dX2_read_60
        · exact xj_vret_wr X hr (congrArg (wX ad cA) (x_1 hf)) dX2_read_42
  refine xj_w (A := x_A 26 ad) ?_
  rw [fX2_read] at hf
  refine xj_aload_n X 0 dX2_read_0 rfl rfl ?_
  refine xj_iconst (x := (0 : Int32)) X dX2_read_1 rfl ?_
  refine xj_put X (wX_D hj cA _) inG_X2 tyX2_ok nmX2 3 (wX_at3 ad cA σ) rfl 5 (by decide) mk1_54 rfl .int rfl rfl rfl (Nat.le_of_ble_eq_true rfl) (wX_st3_5 ad cA σ ((0 : Int32))) dX2_read_2 ?_
  refine xj_aload_n X 0 dX2_read_5 rfl rfl ?_
  refine xj_iconst (x := (-1 : Int32)) X dX2_read_6 rfl ?_
  refine xj_put X (wX_D hj cA _) inG_X2 tyX2_ok nmX2 3 (wX_at3 ad cA (up2 σ 3 5 ((0 : Int32)))) rfl 6 (by decide) mk1_57 rfl .int rfl rfl rfl (Nat.le_of_ble_eq_true rfl) (wX_st3_6 ad cA (up2 σ 3 5 ((0 : Int32))) ((-1 : Int32))) dX2_read_7 ?_
  refine xj_aload_n X 0 dX2_read_10 rfl rfl ?_
  refine xj_iconst (x := (0 : Int32)) X dX2_read_11 rfl ?_
  refine xj_put X (wX_D hj cA _) inG_X2 tyX2_ok nmX2 3 (wX_at3 ad cA (up2 (up2 σ 3 5 ((0 : Int32))) 3 6 ((-1 : Int32)))) rfl 7 (by decide) mk1_59 rfl .int rfl rfl rfl (Nat.le_of_ble_eq_true rfl) (wX_st3_7 ad cA (up2 (up2 σ 3 5 ((0 : Int32))) 3 6 ((-1 : Int32))) ((0 : Int32))) dX2_read_12 ?_
  refine xj_iconst (x := (-1 : Int32)) X dX2_read_15 rfl ?_
  refine xj_istore_n (lv' := [(2, .int ((-1 : Int32))), (0, .ref (ad 3)), (1, .ref (ad 1))]) X dX2_read_16 rfl (Nat.le_of_ble_eq_true rfl) rfl ?_
  refine xj_sub [1, 2, 0] rfl ?_
  refine xj_iconst (x := (0 : Int32)) X dX2_read_17 rfl ?_
  refine xj_istore_n (lv' := [(3, .int ((0 : Int32))), (0, .ref (ad 3)), (1, .ref (ad 1)), (2, .int ((-1 : Int32)))]) X dX2_read_18 rfl (Nat.le_of_ble_eq_true rfl) rfl ?_
  refine xj_sub [1, 2, 3, 0] rfl ?_
  exact (B_19 x_fuel (up2 (up2 (up2 σ 3 5 ((0 : Int32))) 3 6 ((-1 : Int32))) 3 7 ((0 : Int32))) ((-1 : Int32)) ((0 : Int32)) hf)
set_option maxHeartbeats 4000000 in
set_option maxRecDepth 100000 in
theorem ctX2_isBroken (l : Launch) (D : va_G) (cA : ClassId) (ad : Nat → Nat) (σ : x_M) (r0 : Bool) (hf : fX2_isBroken σ = r0) : Met l yX2_isBroken zX2_isBroken ({ frames := 0, cells := 0, slots := 0, locals := 0 } : Room) (x_P D cA [.ref (ad 3)] (wX ad cA σ)) (x_R (some (.int (b2i r0)))) 0 0 (fun _ => False) := by
  refine x_met (cc := cX2_isBroken) (maxL := 1) (ret := (some .boolean)) RX2 rfl (by decide) rfl [(0, .ref (ad 3))] rfl (Nat.le_of_ble_eq_true rfl) ?_
  intro p e s m args below meth c hr X
  rw [fX2_isBroken] at hf
  refine xj_aload_n X 0 dX2_isBroken_0 rfl rfl ?_
  refine xj_get X x_IR.P inG_X2 3 (wX_at3 ad cA σ) rfl 6 (by decide) mk1_57 (.int (σ 3 6)) rfl dX2_isBroken_1 ?_
  refine xj_iconst (x := (-1 : Int32)) X dX2_isBroken_4 rfl ?_
  refine xj_icmp_eq (tgt := 12) X dX2_isBroken_5 rfl hf (fun hf => ?_) (fun hf => ?_)
  · refine xj_iconst (x := (0 : Int32)) X dX2_isBroken_12 rfl ?_
    exact xj_zret_ro X hr (x_b2i hf) dX2_isBroken_13
  · refine xj_iconst (x := (1 : Int32)) X dX2_isBroken_8 rfl ?_
    refine xj_goto (tgt := 13) X dX2_isBroken_9 rfl ?_
    exact xj_zret_ro X hr (x_b2i hf) dX2_isBroken_13
set_option maxHeartbeats 4000000 in
set_option maxRecDepth 100000 in
theorem ctX7_errorOffset (l : Launch) (D : va_G) (cA : ClassId) {ad : Nat → Nat} (hj : x_inj 26 ad) (σ : x_M) (r0 : Int32) (σ0 : x_M) (hf : fX7_errorOffset σ = some (r0, σ0)) : Met l yX7_errorOffset zX7_errorOffset ({ frames := 4, cells := 0, slots := 0, locals := 90 } : Room) (x_P D cA [.ref (ad 0)] (wX ad cA σ)) (x_U D (some (.int r0)) (wX ad cA σ0) (x_A 26 ad)) 0 0 (x_A 26 ad) := by
  refine x_met (cc := cX7_errorOffset) (maxL := 1) (ret := (some .int)) RX7 rfl (by decide) rfl [(0, .ref (ad 0))] rfl (Nat.le_of_ble_eq_true rfl) ?_
  intro p e s m args below meth c hr X
  refine xj_w (A := x_A 26 ad) ?_
  rw [fX7_errorOffset] at hf
  refine xj_aload_n X 0 dX7_errorOffset_0 rfl rfl ?_
  refine xj_get X x_IW.P inG_X7 0 (wX_at0 ad cA σ) rfl 1 (by decide) mk1_208 (.ref (ad 3)) rfl dX7_errorOffset_1 ?_
  refine xj_aload_n X 0 dX7_errorOffset_4 rfl rfl ?_
  refine xj_get X x_IW.P inG_X7 0 (wX_at0 ad cA σ) rfl 0 (by decide) mk1_207 (.ref (ad 1)) rfl dX7_errorOffset_5 ?_
  obtain ⟨x1_8, hx1_8, hf⟩ := x_bind hf
  refine xj_wrV (rest := []) (x_runV X (ctX2_read l D cA hj σ x1_8 hx1_8) (x_cwV X kwX2_read mk2_5 rfl rfl ⟨Nat.le_of_ble_eq_true rfl, Nat.le_of_ble_eq_true rfl⟩) x_IW.P 3 (wX_at3 ad cA σ) rfl rfl rfl (Nat.le_of_ble_eq_true rfl) dX7_errorOffset_8 ⟨Nat.zero_le _, Nat.zero_le _⟩) (fun _ _ _ h _ => h) (fun _ h => h) ?_
  refine xj_aload_n X 0 dX7_errorOffset_11 rfl rfl ?_
  refine xj_get X x_IW.P inG_X7 0 (wX_at0 ad cA x1_8) rfl 1 (by decide) mk1_208 (.ref (ad 3)) rfl dX7_errorOffset_12 ?_
  refine xj_roI (r := b2i (fX2_isBroken x1_8)) (rest := []) (fun _ h => h) (x_runV X (ctX2_isBroken l D cA ad x1_8 _ rfl) (x_cwV X kwX2_isBroken mk2_33 rfl rfl ⟨Nat.le_of_ble_eq_true rfl, Nat.le_of_ble_eq_true rfl⟩) x_IW.P 3 (wX_at3 ad cA x1_8) rfl rfl rfl (Nat.le_of_ble_eq_true rfl) dX7_errorOffset_15 ⟨Nat.zero_le _, Nat.zero_le _⟩) ?_
  refine xj_if_eq (tgt := 31) X dX7_errorOffset_18 rfl hf (fun hf => ?_) (fun hf => ?_)
  · refine xj_bipush (x := (-4 : Int32)) X dX7_errorOffset_31 rfl ?_
    exact xj_iret_wr X hr (x_2a hf) (congrArg (wX ad cA) (x_2b hf)) dX7_errorOffset_33
  · refine xj_aload_n X 0 dX7_errorOffset_21 rfl rfl ?_
    refine xj_get X x_IW.P inG_X7 0 (wX_at0 ad cA x1_8) rfl 1 (by decide) mk1_208 (.ref (ad 3)) rfl dX7_errorOffset_22 ?_
    refine xj_get X x_IW.P inG_X2 3 (wX_at3 ad cA x1_8) rfl 6 (by decide) mk1_58 (.int (x1_8 3 6)) rfl dX7_errorOffset_25 ?_
    refine xj_goto (tgt := 33) X dX7_errorOffset_28 rfl ?_
    exact xj_iret_wr X hr (x_2a hf) (congrArg (wX ad cA) (x_2b hf)) dX7_errorOffset_33
set_option maxHeartbeats 4000000 in
set_option maxRecDepth 100000 in
theorem ctX7_objectCount (l : Launch) (D : va_G) (cA : ClassId) {ad : Nat → Nat} (hj : x_inj 26 ad) (σ : x_M) (r0 : Int32) (σ0 : x_M) (hf : fX7_objectCount σ = some (r0, σ0)) : Met l yX7_objectCount zX7_objectCount ({ frames := 4, cells := 0, slots := 0, locals := 90 } : Room) (x_P D cA [.ref (ad 0)] (wX ad cA σ)) (x_U D (some (.int r0)) (wX ad cA σ0) (x_A 26 ad)) 0 0 (x_A 26 ad) := by
  refine x_met (cc := cX7_objectCount) (maxL := 1) (ret := (some .int)) RX7 rfl (by decide) rfl [(0, .ref (ad 0))] rfl (Nat.le_of_ble_eq_true rfl) ?_
  intro p e s m args below meth c hr X
  refine xj_w (A := x_A 26 ad) ?_
  rw [fX7_objectCount] at hf
  refine xj_aload_n X 0 dX7_objectCount_0 rfl rfl ?_
  refine xj_get X x_IW.P inG_X7 0 (wX_at0 ad cA σ) rfl 1 (by decide) mk1_208 (.ref (ad 3)) rfl dX7_objectCount_1 ?_
  refine xj_aload_n X 0 dX7_objectCount_4 rfl rfl ?_
  refine xj_get X x_IW.P inG_X7 0 (wX_at0 ad cA σ) rfl 0 (by decide) mk1_207 (.ref (ad 1)) rfl dX7_objectCount_5 ?_
  obtain ⟨x1_8, hx1_8, hf⟩ := x_bind hf
  refine xj_wrV (rest := []) (x_runV X (ctX2_read l D cA hj σ x1_8 hx1_8) (x_cwV X kwX2_read mk2_5 rfl rfl ⟨Nat.le_of_ble_eq_true rfl, Nat.le_of_ble_eq_true rfl⟩) x_IW.P 3 (wX_at3 ad cA σ) rfl rfl rfl (Nat.le_of_ble_eq_true rfl) dX7_objectCount_8 ⟨Nat.zero_le _, Nat.zero_le _⟩) (fun _ _ _ h _ => h) (fun _ h => h) ?_
  refine xj_aload_n X 0 dX7_objectCount_11 rfl rfl ?_
  refine xj_get X x_IW.P inG_X7 0 (wX_at0 ad cA x1_8) rfl 1 (by decide) mk1_208 (.ref (ad 3)) rfl dX7_objectCount_12 ?_
  refine xj_roI (r := b2i (fX2_isBroken x1_8)) (rest := []) (fun _ h => h) (x_runV X (ctX2_isBroken l D cA ad x1_8 _ rfl) (x_cwV X kwX2_isBroken mk2_33 rfl rfl ⟨Nat.le_of_ble_eq_true rfl, Nat.le_of_ble_eq_true rfl⟩) x_IW.P 3 (wX_at3 ad cA x1_8) rfl rfl rfl (Nat.le_of_ble_eq_true rfl) dX7_objectCount_15 ⟨Nat.zero_le _, Nat.zero_le _⟩) ?_
  refine xj_if_eq (tgt := 26) X dX7_objectCount_18 rfl hf (fun hf => ?_) (fun hf => ?_)
  · refine xj_aload_n X 0 dX7_objectCount_26 rfl rfl ?_
    refine xj_get X x_IW.P inG_X7 0 (wX_at0 ad cA x1_8) rfl 1 (by decide) mk1_208 (.ref (ad 3)) rfl dX7_objectCount_27 ?_
    refine xj_get X x_IW.P inG_X2 3 (wX_at3 ad cA x1_8) rfl 5 (by decide) mk1_56 (.int (x1_8 3 5)) rfl dX7_objectCount_30 ?_
    exact xj_iret_wr X hr (x_2a hf) (congrArg (wX ad cA) (x_2b hf)) dX7_objectCount_33
  · refine xj_bipush (x := (-2 : Int32)) X dX7_objectCount_21 rfl ?_
    refine xj_goto (tgt := 33) X dX7_objectCount_23 rfl ?_
    exact xj_iret_wr X hr (x_2a hf) (congrArg (wX ad cA) (x_2b hf)) dX7_objectCount_33
set_option maxHeartbeats 4000000 in
set_option maxRecDepth 100000 in
theorem ctX7_objectError (l : Launch) (D : va_G) (cA : ClassId) {ad : Nat → Nat} (hj : x_inj 26 ad) (σ : x_M) (p1 : Int32) (r0 : Int32) (σ0 : x_M) (hf : fX7_objectError σ p1 = some (r0, σ0)) : Met l yX7_objectError zX7_objectError ({ frames := 4, cells := 0, slots := 0, locals := 90 } : Room) (x_P D cA [.ref (ad 0), .int p1] (wX ad cA σ)) (x_U D (some (.int r0)) (wX ad cA σ0) (x_A 26 ad)) 0 0 (x_A 26 ad) := by
  refine x_met (cc := cX7_objectError) (maxL := 2) (ret := (some .int)) RX7 rfl (by decide) rfl [(0, .ref (ad 0)), (1, .int p1)] rfl (Nat.le_of_ble_eq_true rfl) ?_
  intro p e s m args below meth c hr X
  refine xj_w (A := x_A 26 ad) ?_
  rw [fX7_objectError] at hf
  refine xj_iload_n X 1 dX7_objectError_0 rfl rfl ?_
  refine xj_if_ge (tgt := 6) X dX7_objectError_1 rfl hf (fun hf => ?_) (fun hf => ?_)
  · refine xj_aload_n X 0 dX7_objectError_6 rfl rfl ?_
    refine xj_get X x_IW.P inG_X7 0 (wX_at0 ad cA σ) rfl 1 (by decide) mk1_208 (.ref (ad 3)) rfl dX7_objectError_7 ?_
    refine xj_aload_n X 0 dX7_objectError_10 rfl rfl ?_
    refine xj_get X x_IW.P inG_X7 0 (wX_at0 ad cA σ) rfl 0 (by decide) mk1_207 (.ref (ad 1)) rfl dX7_objectError_11 ?_
    obtain ⟨x1_14, hx1_14, hf⟩ := x_bind hf
    refine xj_wrV (rest := []) (x_runV X (ctX2_read l D cA hj σ x1_14 hx1_14) (x_cwV X kwX2_read mk2_5 rfl rfl ⟨Nat.le_of_ble_eq_true rfl, Nat.le_of_ble_eq_true rfl⟩) x_IW.P 3 (wX_at3 ad cA σ) rfl rfl rfl (Nat.le_of_ble_eq_true rfl) dX7_objectError_14 ⟨Nat.zero_le _, Nat.zero_le _⟩) (fun _ _ _ h _ => h) (fun _ h => h) ?_
    refine xj_aload_n X 0 dX7_objectError_17 rfl rfl ?_
    refine xj_get X x_IW.P inG_X7 0 (wX_at0 ad cA x1_14) rfl 1 (by decide) mk1_208 (.ref (ad 3)) rfl dX7_objectError_18 ?_
    refine xj_roI (r := b2i (fX2_isBroken x1_14)) (rest := []) (fun _ h => h) (x_runV X (ctX2_isBroken l D cA ad x1_14 _ rfl) (x_cwV X kwX2_isBroken mk2_33 rfl rfl ⟨Nat.le_of_ble_eq_true rfl, Nat.le_of_ble_eq_true rfl⟩) x_IW.P 3 (wX_at3 ad cA x1_14) rfl rfl rfl (Nat.le_of_ble_eq_true rfl) dX7_objectError_21 ⟨Nat.zero_le _, Nat.zero_le _⟩) ?_
    refine xj_if_eq (tgt := 30) X dX7_objectError_24 rfl hf (fun hf => ?_) (fun hf => ?_)
    · refine xj_iload_n X 1 dX7_objectError_30 rfl rfl ?_
      refine xj_aload_n X 0 dX7_objectError_31 rfl rfl ?_
      refine xj_get X x_IW.P inG_X7 0 (wX_at0 ad cA x1_14) rfl 1 (by decide) mk1_208 (.ref (ad 3)) rfl dX7_objectError_32 ?_
      refine xj_get X x_IW.P inG_X2 3 (wX_at3 ad cA x1_14) rfl 5 (by decide) mk1_56 (.int (x1_14 3 5)) rfl dX7_objectError_35 ?_
      refine xj_icmp_lt (tgt := 46) X dX7_objectError_38 rfl hf (fun hf => ?_) (fun hf => ?_)
      · refine xj_iconst (x := (0 : Int32)) X dX7_objectError_46 rfl ?_
        exact xj_iret_wr X hr (x_2a hf) (congrArg (wX ad cA) (x_2b hf)) dX7_objectError_47
      · refine xj_bipush (x := (-4 : Int32)) X dX7_objectError_41 rfl ?_
        refine xj_goto (tgt := 47) X dX7_objectError_43 rfl ?_
        exact xj_iret_wr X hr (x_2a hf) (congrArg (wX ad cA) (x_2b hf)) dX7_objectError_47
    · refine xj_bipush (x := (-2 : Int32)) X dX7_objectError_27 rfl ?_
      exact xj_iret_wr X hr (x_2a hf) (congrArg (wX ad cA) (x_2b hf)) dX7_objectError_29
  · refine xj_iconst (x := (-1 : Int32)) X dX7_objectError_4 rfl ?_
    exact xj_iret_wr X hr (x_2a hf) (congrArg (wX ad cA) (x_2b hf)) dX7_objectError_5
set_option maxHeartbeats 4000000 in
set_option maxRecDepth 100000 in
theorem ctX7_objectTag (l : Launch) (D : va_G) (cA : ClassId) {ad : Nat → Nat} (hj : x_inj 26 ad) (σ : x_M) (p1 : Int32) (r0 : Int32) (σ0 : x_M) (hf : fX7_objectTag σ p1 = some (r0, σ0)) : Met l yX7_objectTag zX7_objectTag ({ frames := 5, cells := 0, slots := 0, locals := 111 } : Room) (x_P D cA [.ref (ad 0), .int p1] (wX ad cA σ)) (x_U D (some (.int r0)) (wX ad cA σ0) (x_A 26 ad)) 0 0 (x_A 26 ad) := by
  refine x_met (cc := cX7_objectTag) (maxL := 3) (ret := (some .int)) RX7 rfl (by decide) rfl [(0, .ref (ad 0)), (1, .int p1)] rfl (Nat.le_of_ble_eq_true rfl) ?_
  intro p e s m args below meth c hr X
  refine xj_w (A := x_A 26 ad) ?_
  rw [fX7_objectTag] at hf
  refine xj_aload_n X 0 dX7_objectTag_0 rfl rfl ?_
  refine xj_iload_n X 1 dX7_objectTag_1 rfl rfl ?_
  obtain ⟨x1_2, hx1_2, hf⟩ := x_bind hf
  refine xj_wrI (r := x1_2.1) (rest := []) (x_runV X (ctX7_objectError l D cA hj σ p1 x1_2.1 x1_2.2 hx1_2) (x_cwV X kwX7_objectError mk2_45 rfl rfl ⟨Nat.le_of_ble_eq_true rfl, Nat.le_of_ble_eq_true rfl⟩) x_IW.P 0 (wX_at0 ad cA σ) rfl rfl rfl (Nat.le_of_ble_eq_true rfl) dX7_objectTag_2 ⟨Nat.zero_le _, Nat.zero_le _⟩) (fun _ _ _ h _ => h) (fun _ h => h) ?_
  refine xj_istore_n (lv' := [(2, .int x1_2.1), (0, .ref (ad 0)), (1, .int p1)]) X dX7_objectTag_5 rfl (Nat.le_of_ble_eq_true rfl) rfl ?_
  refine xj_sub [1, 2, 0] rfl ?_
  refine xj_iload_n X 2 dX7_objectTag_6 rfl rfl ?_
  refine xj_if_eq (tgt := 14) X dX7_objectTag_7 rfl hf (fun hf => ?_) (fun hf => ?_)
  · refine xj_aload_n X 0 dX7_objectTag_14 rfl rfl ?_
    refine xj_get X x_IW.P inG_X7 0 (wX_at0 ad cA x1_2.2) rfl 1 (by decide) mk1_208 (.ref (ad 3)) rfl dX7_objectTag_15 ?_
    refine xj_get X x_IW.P inG_X2 3 (wX_at3 ad cA x1_2.2) rfl 0 (by decide) mk1_45 (.ref (ad 4)) rfl dX7_objectTag_18 ?_
    refine xj_iload_n X 1 dX7_objectTag_21 rfl rfl ?_
    refine xj_roI (r := x_at 24 (x1_2.2 4) p1) (rest := []) (fun _ h => h) (x_runS X (c_at l D cA (wX_at4 ad cA x1_2.2) (by decide) p1) (x_cwS X kwX7_at mk2_49 rfl rfl ⟨Nat.le_of_ble_eq_true rfl, Nat.le_of_ble_eq_true rfl⟩) x_IW.P rfl rfl (Nat.le_of_ble_eq_true rfl) dX7_objectTag_22 ⟨Nat.zero_le _, Nat.zero_le _⟩) ?_
    exact xj_iret_wr X hr (x_2a hf) (congrArg (wX ad cA) (x_2b hf)) dX7_objectTag_25
  · refine xj_iload_n X 2 dX7_objectTag_10 rfl rfl ?_
    refine xj_goto (tgt := 25) X dX7_objectTag_11 rfl ?_
    exact xj_iret_wr X hr (x_2a hf) (congrArg (wX ad cA) (x_2b hf)) dX7_objectTag_25
set_option maxHeartbeats 4000000 in
set_option maxRecDepth 100000 in
theorem ctX7_objectDepth (l : Launch) (D : va_G) (cA : ClassId) {ad : Nat → Nat} (hj : x_inj 26 ad) (σ : x_M) (p1 : Int32) (r0 : Int32) (σ0 : x_M) (hf : fX7_objectDepth σ p1 = some (r0, σ0)) : Met l yX7_objectDepth zX7_objectDepth ({ frames := 5, cells := 0, slots := 0, locals := 111 } : Room) (x_P D cA [.ref (ad 0), .int p1] (wX ad cA σ)) (x_U D (some (.int r0)) (wX ad cA σ0) (x_A 26 ad)) 0 0 (x_A 26 ad) := by
  refine x_met (cc := cX7_objectDepth) (maxL := 3) (ret := (some .int)) RX7 rfl (by decide) rfl [(0, .ref (ad 0)), (1, .int p1)] rfl (Nat.le_of_ble_eq_true rfl) ?_
  intro p e s m args below meth c hr X
  refine xj_w (A := x_A 26 ad) ?_
  rw [fX7_objectDepth] at hf
  refine xj_aload_n X 0 dX7_objectDepth_0 rfl rfl ?_
  refine xj_iload_n X 1 dX7_objectDepth_1 rfl rfl ?_
  obtain ⟨x1_2, hx1_2, hf⟩ := x_bind hf
  refine xj_wrI (r := x1_2.1) (rest := []) (x_runV X (ctX7_objectError l D cA hj σ p1 x1_2.1 x1_2.2 hx1_2) (x_cwV X kwX7_objectError mk2_45 rfl rfl ⟨Nat.le_of_ble_eq_true rfl, Nat.le_of_ble_eq_true rfl⟩) x_IW.P 0 (wX_at0 ad cA σ) rfl rfl rfl (Nat.le_of_ble_eq_true rfl) dX7_objectDepth_2 ⟨Nat.zero_le _, Nat.zero_le _⟩) (fun _ _ _ h _ => h) (fun _ h => h) ?_
  refine xj_istore_n (lv' := [(2, .int x1_2.1), (0, .ref (ad 0)), (1, .int p1)]) X dX7_objectDepth_5 rfl (Nat.le_of_ble_eq_true rfl) rfl ?_
  refine xj_sub [1, 2, 0] rfl ?_
  refine xj_iload_n X 2 dX7_objectDepth_6 rfl rfl ?_
  refine xj_if_eq (tgt := 14) X dX7_objectDepth_7 rfl hf (fun hf => ?_) (fun hf => ?_)
  · refine xj_aload_n X 0 dX7_objectDepth_14 rfl rfl ?_
    refine xj_get X x_IW.P inG_X7 0 (wX_at0 ad cA x1_2.2) rfl 1 (by decide) mk1_208 (.ref (ad 3)) rfl dX7_objectDepth_15 ?_
    refine xj_get X x_IW.P inG_X2 3 (wX_at3 ad cA x1_2.2) rfl 2 (by decide) mk1_50 (.ref (ad 6)) rfl dX7_objectDepth_18 ?_
    refine xj_iload_n X 1 dX7_objectDepth_21 rfl rfl ?_
    refine xj_roI (r := x_at 24 (x1_2.2 6) p1) (rest := []) (fun _ h => h) (x_runS X (c_at l D cA (wX_at6 ad cA x1_2.2) (by decide) p1) (x_cwS X kwX7_at mk2_49 rfl rfl ⟨Nat.le_of_ble_eq_true rfl, Nat.le_of_ble_eq_true rfl⟩) x_IW.P rfl rfl (Nat.le_of_ble_eq_true rfl) dX7_objectDepth_22 ⟨Nat.zero_le _, Nat.zero_le _⟩) ?_
    exact xj_iret_wr X hr (x_2a hf) (congrArg (wX ad cA) (x_2b hf)) dX7_objectDepth_25
  · refine xj_iload_n X 2 dX7_objectDepth_10 rfl rfl ?_
    refine xj_goto (tgt := 25) X dX7_objectDepth_11 rfl ?_
    exact xj_iret_wr X hr (x_2a hf) (congrArg (wX ad cA) (x_2b hf)) dX7_objectDepth_25
set_option maxHeartbeats 4000000 in
set_option maxRecDepth 100000 in
theorem ctX7_objectLength (l : Launch) (D : va_G) (cA : ClassId) {ad : Nat → Nat} (hj : x_inj 26 ad) (σ : x_M) (p1 : Int32) (r0 : Int32) (σ0 : x_M) (hf : fX7_objectLength σ p1 = some (r0, σ0)) : Met l yX7_objectLength zX7_objectLength ({ frames := 5, cells := 0, slots := 0, locals := 111 } : Room) (x_P D cA [.ref (ad 0), .int p1] (wX ad cA σ)) (x_U D (some (.int r0)) (wX ad cA σ0) (x_A 26 ad)) 0 0 (x_A 26 ad) := by
  refine x_met (cc := cX7_objectLength) (maxL := 3) (ret := (some .int)) RX7 rfl (by decide) rfl [(0, .ref (ad 0)), (1, .int p1)] rfl (Nat.le_of_ble_eq_true rfl) ?_
  intro p e s m args below meth c hr X
  refine xj_w (A := x_A 26 ad) ?_
  rw [fX7_objectLength] at hf
  refine xj_aload_n X 0 dX7_objectLength_0 rfl rfl ?_
  refine xj_iload_n X 1 dX7_objectLength_1 rfl rfl ?_
  obtain ⟨x1_2, hx1_2, hf⟩ := x_bind hf
  refine xj_wrI (r := x1_2.1) (rest := []) (x_runV X (ctX7_objectError l D cA hj σ p1 x1_2.1 x1_2.2 hx1_2) (x_cwV X kwX7_objectError mk2_45 rfl rfl ⟨Nat.le_of_ble_eq_true rfl, Nat.le_of_ble_eq_true rfl⟩) x_IW.P 0 (wX_at0 ad cA σ) rfl rfl rfl (Nat.le_of_ble_eq_true rfl) dX7_objectLength_2 ⟨Nat.zero_le _, Nat.zero_le _⟩) (fun _ _ _ h _ => h) (fun _ h => h) ?_
  refine xj_istore_n (lv' := [(2, .int x1_2.1), (0, .ref (ad 0)), (1, .int p1)]) X dX7_objectLength_5 rfl (Nat.le_of_ble_eq_true rfl) rfl ?_
  refine xj_sub [1, 2, 0] rfl ?_
  refine xj_iload_n X 2 dX7_objectLength_6 rfl rfl ?_
  refine xj_if_eq (tgt := 14) X dX7_objectLength_7 rfl hf (fun hf => ?_) (fun hf => ?_)
  · refine xj_aload_n X 0 dX7_objectLength_14 rfl rfl ?_
    refine xj_get X x_IW.P inG_X7 0 (wX_at0 ad cA x1_2.2) rfl 1 (by decide) mk1_208 (.ref (ad 3)) rfl dX7_objectLength_15 ?_
    refine xj_get X x_IW.P inG_X2 3 (wX_at3 ad cA x1_2.2) rfl 1 (by decide) mk1_48 (.ref (ad 5)) rfl dX7_objectLength_18 ?_
    refine xj_iload_n X 1 dX7_objectLength_21 rfl rfl ?_
    refine xj_roI (r := x_at 24 (x1_2.2 5) p1) (rest := []) (fun _ h => h) (x_runS X (c_at l D cA (wX_at5 ad cA x1_2.2) (by decide) p1) (x_cwS X kwX7_at mk2_49 rfl rfl ⟨Nat.le_of_ble_eq_true rfl, Nat.le_of_ble_eq_true rfl⟩) x_IW.P rfl rfl (Nat.le_of_ble_eq_true rfl) dX7_objectLength_22 ⟨Nat.zero_le _, Nat.zero_le _⟩) ?_
    exact xj_iret_wr X hr (x_2a hf) (congrArg (wX ad cA) (x_2b hf)) dX7_objectLength_25
  · refine xj_iload_n X 2 dX7_objectLength_10 rfl rfl ?_
    refine xj_goto (tgt := 25) X dX7_objectLength_11 rfl ?_
    exact xj_iret_wr X hr (x_2a hf) (congrArg (wX ad cA) (x_2b hf)) dX7_objectLength_25
set_option maxHeartbeats 4000000 in
set_option maxRecDepth 100000 in
theorem ctX2_firstWithTag (l : Launch) (D : va_G) (cA : ClassId) (ad : Nat → Nat) (σ : x_M) (p1 : Int32) (p2 : Int32) (r0 : Int32) (hf : fX2_firstWithTag σ p1 p2 = some r0) : Met l yX2_firstWithTag zX2_firstWithTag ({ frames := 1, cells := 0, slots := 0, locals := 21 } : Room) (x_P D cA [.ref (ad 3), .int p1, .int p2] (wX ad cA σ)) (x_R (some (.int r0))) 0 0 (fun _ => False) := by
  refine x_met (cc := cX2_firstWithTag) (maxL := 4) (ret := (some .int)) RX2 rfl (by decide) rfl [(0, .ref (ad 3)), (1, .int p1), (2, .int p2)] rfl (Nat.le_of_ble_eq_true rfl) ?_
  intro p e s m args below meth c hr X
  have B_2 : ∀ (n : Nat) (v1 : Int32) (v3 : Int32), fX2_firstWithTag_2 σ n v1 v3 = some r0 → x_J 4 p l e ({ frames := 1, cells := 0, slots := 0, locals := 21 } : Room) s m args below meth c 0 0 (x_IR D s (wX ad cA σ)) (MQ below (x_R (some (.int r0))) args s 0 0 (fun _ => False)) 2 [(0, .ref (ad 3)), (1, .int v1), (3, .int v3)] [] := by
    intro n
    induction n with
    | zero => intro v1 v3 hf; rw [fX2_firstWithTag_2] at hf; cases hf
    | succ n ih =>
      intro v1 v3 hf
      rw [fX2_firstWithTag_2] at hf
      refine xj_iload_n X 2 dX2_firstWithTag_2 rfl rfl ?_
      refine xj_aload_n X 0 dX2_firstWithTag_3 rfl rfl ?_
      refine xj_get X x_IR.P inG_X2 3 (wX_at3 ad cA σ) rfl 5 (by decide) mk1_54 (.int (σ 3 5)) rfl dX2_firstWithTag_4 ?_
      refine xj_icmp_ge (tgt := 30) X dX2_firstWithTag_7 rfl hf (fun hf => ?_) (fun hf => ?_)
      · refine xj_iconst (x := (-1 : Int32)) X dX2_firstWithTag_30 rfl ?_
        exact xj_iret_ro X hr (x_1 hf) dX2_firstWithTag_31
      · refine xj_aload_n X 0 dX2_firstWithTag_10 rfl rfl ?_
        refine xj_get X x_IR.P inG_X2 3 (wX_at3 ad cA σ) rfl 0 (by decide) mk1_44 (.ref (ad 4)) rfl dX2_firstWithTag_11 ?_
        refine xj_iload_n X 2 dX2_firstWithTag_14 rfl rfl ?_
        refine xj_roI (r := x_at 24 (σ 4) v3) (rest := []) (fun _ h => h) (x_runSN X (c_at l D cA (wX_at4 ad cA σ) (by decide) v3) (x_cwN X kwX7_at x_nest_9 rfl rfl ⟨Nat.le_of_ble_eq_true rfl, Nat.le_of_ble_eq_true rfl⟩) x_IR.P rfl rfl (Nat.le_of_ble_eq_true rfl) dX2_firstWithTag_15 ⟨Nat.zero_le _, Nat.zero_le _⟩) ?_
        refine xj_iload_n X 1 dX2_firstWithTag_18 rfl rfl ?_
        refine xj_icmp_ne (tgt := 24) X dX2_firstWithTag_19 rfl hf (fun hf => ?_) (fun hf => ?_)
        · refine xj_iinc (y := v3 + (1 : Int32)) (lv' := [(3, .int (v3 + (1 : Int32))), (0, .ref (ad 3)), (1, .int v1)]) X 2 dX2_firstWithTag_24 rfl rfl (Nat.le_of_ble_eq_true rfl) rfl ?_
          refine xj_sub [1, 2, 0] rfl ?_
          refine xj_goto (tgt := 2) X dX2_firstWithTag_27 rfl ?_
          exact ih v1 (v3 + (1 : Int32)) hf
        · refine xj_iload_n X 2 dX2_firstWithTag_22 rfl rfl ?_
          exact xj_iret_ro X hr (x_1 hf) dX2_firstWithTag_23
  rw [fX2_firstWithTag] at hf
  refine xj_iload_n X 2 dX2_firstWithTag_0 rfl rfl ?_
  refine xj_istore_n (lv' := [(3, .int p2), (0, .ref (ad 3)), (1, .int p1), (2, .int p2)]) X dX2_firstWithTag_1 rfl (Nat.le_of_ble_eq_true rfl) rfl ?_
  refine xj_sub [1, 2, 3, 0] rfl ?_
  exact xj_sub [0, 1, 3] rfl (B_2 x_fuel p1 p2 hf)
set_option maxHeartbeats 4000000 in
set_option maxRecDepth 100000 in
theorem ctX7_findObject (l : Launch) (D : va_G) (cA : ClassId) {ad : Nat → Nat} (hj : x_inj 26 ad) (σ : x_M) (p1 : Int32) (p2 : Int32) (r0 : Int32) (σ0 : x_M) (hf : fX7_findObject σ p1 p2 = some (r0, σ0)) : Met l yX7_findObject zX7_findObject ({ frames := 4, cells := 0, slots := 0, locals := 90 } : Room) (x_P D cA [.ref (ad 0), .int p1, .int p2] (wX ad cA σ)) (x_U D (some (.int r0)) (wX ad cA σ0) (x_A 26 ad)) 0 0 (x_A 26 ad) := by
  refine x_met (cc := cX7_findObject) (maxL := 4) (ret := (some .int)) RX7 rfl (by decide) rfl [(0, .ref (ad 0)), (1, .int p1), (2, .int p2)] rfl (Nat.le_of_ble_eq_true rfl) ?_
  intro p e s m args below meth c hr X
  refine xj_w (A := x_A 26 ad) ?_
  rw [fX7_findObject] at hf
  refine xj_iload_n X 1 dX7_findObject_0 rfl rfl ?_
  refine xj_if_lt (tgt := 8) X dX7_findObject_1 rfl hf (fun hf => ?_) (fun hf => ?_)
  · refine xj_iconst (x := (-1 : Int32)) X dX7_findObject_8 rfl ?_
    exact xj_iret_wr X hr (x_2a hf) (congrArg (wX ad cA) (x_2b hf)) dX7_findObject_9
  · refine xj_iload_n X 2 dX7_findObject_4 rfl rfl ?_
    refine xj_if_ge (tgt := 10) X dX7_findObject_5 rfl hf (fun hf => ?_) (fun hf => ?_)
    · refine xj_aload_n X 0 dX7_findObject_10 rfl rfl ?_
      refine xj_get X x_IW.P inG_X7 0 (wX_at0 ad cA σ) rfl 1 (by decide) mk1_208 (.ref (ad 3)) rfl dX7_findObject_11 ?_
      refine xj_aload_n X 0 dX7_findObject_14 rfl rfl ?_
      refine xj_get X x_IW.P inG_X7 0 (wX_at0 ad cA σ) rfl 0 (by decide) mk1_207 (.ref (ad 1)) rfl dX7_findObject_15 ?_
      obtain ⟨x1_18, hx1_18, hf⟩ := x_bind hf
      refine xj_wrV (rest := []) (x_runV X (ctX2_read l D cA hj σ x1_18 hx1_18) (x_cwV X kwX2_read mk2_5 rfl rfl ⟨Nat.le_of_ble_eq_true rfl, Nat.le_of_ble_eq_true rfl⟩) x_IW.P 3 (wX_at3 ad cA σ) rfl rfl rfl (Nat.le_of_ble_eq_true rfl) dX7_findObject_18 ⟨Nat.zero_le _, Nat.zero_le _⟩) (fun _ _ _ h _ => h) (fun _ h => h) ?_
      refine xj_aload_n X 0 dX7_findObject_21 rfl rfl ?_
      refine xj_get X x_IW.P inG_X7 0 (wX_at0 ad cA x1_18) rfl 1 (by decide) mk1_208 (.ref (ad 3)) rfl dX7_findObject_22 ?_
      refine xj_roI (r := b2i (fX2_isBroken x1_18)) (rest := []) (fun _ h => h) (x_runV X (ctX2_isBroken l D cA ad x1_18 _ rfl) (x_cwV X kwX2_isBroken mk2_33 rfl rfl ⟨Nat.le_of_ble_eq_true rfl, Nat.le_of_ble_eq_true rfl⟩) x_IW.P 3 (wX_at3 ad cA x1_18) rfl rfl rfl (Nat.le_of_ble_eq_true rfl) dX7_findObject_25 ⟨Nat.zero_le _, Nat.zero_le _⟩) ?_
      refine xj_if_eq (tgt := 34) X dX7_findObject_28 rfl hf (fun hf => ?_) (fun hf => ?_)
      · refine xj_aload_n X 0 dX7_findObject_34 rfl rfl ?_
        refine xj_get X x_IW.P inG_X7 0 (wX_at0 ad cA x1_18) rfl 1 (by decide) mk1_208 (.ref (ad 3)) rfl dX7_findObject_35 ?_
        refine xj_iload_n X 1 dX7_findObject_38 rfl rfl ?_
        refine xj_iload_n X 2 dX7_findObject_39 rfl rfl ?_
        obtain ⟨x2_40, hx2_40, hf⟩ := x_bind hf
        refine xj_roI (r := x2_40) (rest := []) (fun _ h => h) (x_runV X (ctX2_firstWithTag l D cA ad x1_18 p1 p2 _ hx2_40) (x_cwV X kwX2_firstWithTag mk2_62 rfl rfl ⟨Nat.le_of_ble_eq_true rfl, Nat.le_of_ble_eq_true rfl⟩) x_IW.P 3 (wX_at3 ad cA x1_18) rfl rfl rfl (Nat.le_of_ble_eq_true rfl) dX7_findObject_40 ⟨Nat.zero_le _, Nat.zero_le _⟩) ?_
        refine xj_istore_n (lv' := [(3, .int x2_40), (0, .ref (ad 0)), (1, .int p1), (2, .int p2)]) X dX7_findObject_43 rfl (Nat.le_of_ble_eq_true rfl) rfl ?_
        refine xj_sub [1, 2, 3, 0] rfl ?_
        refine xj_iload_n X 3 dX7_findObject_44 rfl rfl ?_
        refine xj_iconst (x := (-1 : Int32)) X dX7_findObject_45 rfl ?_
        refine xj_icmp_ne (tgt := 54) X dX7_findObject_46 rfl hf (fun hf => ?_) (fun hf => ?_)
        · refine xj_iload_n X 3 dX7_findObject_54 rfl rfl ?_
          exact xj_iret_wr X hr (x_2a hf) (congrArg (wX ad cA) (x_2b hf)) dX7_findObject_55
        · refine xj_bipush (x := (-4 : Int32)) X dX7_findObject_49 rfl ?_
          refine xj_goto (tgt := 55) X dX7_findObject_51 rfl ?_
          exact xj_iret_wr X hr (x_2a hf) (congrArg (wX ad cA) (x_2b hf)) dX7_findObject_55
      · refine xj_bipush (x := (-2 : Int32)) X dX7_findObject_31 rfl ?_
        exact xj_iret_wr X hr (x_2a hf) (congrArg (wX ad cA) (x_2b hf)) dX7_findObject_33
    · refine xj_iconst (x := (-1 : Int32)) X dX7_findObject_8 rfl ?_
      exact xj_iret_wr X hr (x_2a hf) (congrArg (wX ad cA) (x_2b hf)) dX7_findObject_9
set_option maxHeartbeats 4000000 in
set_option maxRecDepth 100000 in
theorem ctX6_isPending (l : Launch) (D : va_G) (cA : ClassId) (ad : Nat → Nat) (σ : x_M) (r0 : Bool) (hf : fX6_isPending σ = r0) : Met l yX6_isPending zX6_isPending ({ frames := 1, cells := 0, slots := 0, locals := 21 } : Room) (x_P D cA [.ref (ad 21)] (wX ad cA σ)) (x_R (some (.int (b2i r0)))) 0 0 (fun _ => False) := by
  refine x_met (cc := cX6_isPending) (maxL := 1) (ret := (some .boolean)) RX6 rfl (by decide) rfl [(0, .ref (ad 21))] rfl (Nat.le_of_ble_eq_true rfl) ?_
  intro p e s m args below meth c hr X
  rw [fX6_isPending] at hf
  refine xj_aload_n X 0 dX6_isPending_0 rfl rfl ?_
  refine xj_get X x_IR.P inG_X6 21 (wX_at21 ad cA σ) rfl 0 (by decide) mk1_173 (.ref (ad 22)) rfl dX6_isPending_1 ?_
  refine xj_iconst (x := (3 : Int32)) X dX6_isPending_4 rfl ?_
  refine xj_roI (r := x_at 4 (σ 22) ((3 : Int32))) (rest := []) (fun _ h => h) (x_runSN X (c_at l D cA (wX_at22 ad cA σ) (by decide) ((3 : Int32))) (x_cwN X kwX7_at x_nest_11 rfl rfl ⟨Nat.le_of_ble_eq_true rfl, Nat.le_of_ble_eq_true rfl⟩) x_IR.P rfl rfl (Nat.le_of_ble_eq_true rfl) dX6_isPending_5 ⟨Nat.zero_le _, Nat.zero_le _⟩) ?_
  refine xj_if_le (tgt := 15) X dX6_isPending_8 rfl hf (fun hf => ?_) (fun hf => ?_)
  · refine xj_iconst (x := (0 : Int32)) X dX6_isPending_15 rfl ?_
    exact xj_zret_ro X hr (x_b2i hf) dX6_isPending_16
  · refine xj_iconst (x := (1 : Int32)) X dX6_isPending_11 rfl ?_
    refine xj_goto (tgt := 16) X dX6_isPending_12 rfl ?_
    exact xj_zret_ro X hr (x_b2i hf) dX6_isPending_16
set_option maxHeartbeats 4000000 in
set_option maxRecDepth 100000 in
theorem ctX2_childFrom (l : Launch) (D : va_G) (cA : ClassId) (ad : Nat → Nat) (σ : x_M) (p1 : Int32) (p2 : Int32) (p3 : Int32) (p4 : Int32) (p5 : Int32) (r0 : Int32) (hf : fX2_childFrom σ p1 p2 p3 p4 p5 = some r0) : Met l yX2_childFrom zX2_childFrom ({ frames := 1, cells := 0, slots := 0, locals := 21 } : Room) (x_P D cA [.ref (ad 3), .int p1, .int p2, .int p3, .int p4, .int p5] (wX ad cA σ)) (x_R (some (.int r0))) 0 0 (fun _ => False) := by
  refine x_met (cc := cX2_childFrom) (maxL := 8) (ret := (some .int)) RX2 rfl (by decide) rfl [(0, .ref (ad 3)), (1, .int p1), (2, .int p2), (3, .int p3), (4, .int p4), (5, .int p5)] rfl (Nat.le_of_ble_eq_true rfl) ?_
  intro p e s m args below meth c hr X
  have B_3 : ∀ (n : Nat) (v2 : Int32) (v3 : Int32) (v4 : Int32) (v5 : Int32) (v6 : Int32), fX2_childFrom_3 σ n v2 v3 v4 v5 v6 = some r0 → x_J 8 p l e ({ frames := 1, cells := 0, slots := 0, locals := 21 } : Room) s m args below meth c 0 0 (x_IR D s (wX ad cA σ)) (MQ below (x_R (some (.int r0))) args s 0 0 (fun _ => False)) 3 [(0, .ref (ad 3)), (2, .int v2), (3, .int v3), (4, .int v4), (5, .int v5), (6, .int v6)] [] := by
    intro n
    induction n with
    | zero => intro v2 v3 v4 v5 v6 hf; rw [fX2_childFrom_3] at hf; cases hf
    | succ n ih =>
      intro v2 v3 v4 v5 v6 hf
      rw [fX2_childFrom_3] at hf
      refine xj_iload X 5 dX2_childFrom_3 rfl ?_
      refine xj_aload_n X 0 dX2_childFrom_5 rfl rfl ?_
      refine xj_get X x_IR.P inG_X2 3 (wX_at3 ad cA σ) rfl 5 (by decide) mk1_54 (.int (σ 3 5)) rfl dX2_childFrom_6 ?_
      refine xj_icmp_ge (tgt := 72) X dX2_childFrom_9 rfl hf (fun hf => ?_) (fun hf => ?_)
      · refine xj_iconst (x := (-1 : Int32)) X dX2_childFrom_72 rfl ?_
        exact xj_iret_ro X hr (x_1 hf) dX2_childFrom_73
      · refine xj_aload_n X 0 dX2_childFrom_12 rfl rfl ?_
        refine xj_get X x_IR.P inG_X2 3 (wX_at3 ad cA σ) rfl 1 (by decide) mk1_46 (.ref (ad 5)) rfl dX2_childFrom_13 ?_
        refine xj_iload X 5 dX2_childFrom_16 rfl ?_
        refine xj_roI (r := x_at 24 (σ 5) v6) (rest := []) (fun _ h => h) (x_runSN X (c_at l D cA (wX_at5 ad cA σ) (by decide) v6) (x_cwN X kwX7_at x_nest_9 rfl rfl ⟨Nat.le_of_ble_eq_true rfl, Nat.le_of_ble_eq_true rfl⟩) x_IR.P rfl rfl (Nat.le_of_ble_eq_true rfl) dX2_childFrom_18 ⟨Nat.zero_le _, Nat.zero_le _⟩) ?_
        refine xj_istore (lv' := [(7, .int (x_at 24 (σ 5) v6)), (0, .ref (ad 3)), (2, .int v2), (3, .int v3), (4, .int v4), (5, .int v5), (6, .int v6)]) X dX2_childFrom_21 (Nat.le_of_ble_eq_true rfl) rfl ?_
        refine xj_sub [1, 2, 3, 4, 5, 6, 0] rfl ?_
        refine xj_aload_n X 0 dX2_childFrom_23 rfl rfl ?_
        refine xj_get X x_IR.P inG_X2 3 (wX_at3 ad cA σ) rfl 3 (by decide) mk1_51 (.ref (ad 7)) rfl dX2_childFrom_24 ?_
        refine xj_iload X 5 dX2_childFrom_27 rfl ?_
        refine xj_roI (r := x_at 24 (σ 7) v6) (rest := []) (fun _ h => h) (x_runSN X (c_at l D cA (wX_at7 ad cA σ) (by decide) v6) (x_cwN X kwX7_at x_nest_9 rfl rfl ⟨Nat.le_of_ble_eq_true rfl, Nat.le_of_ble_eq_true rfl⟩) x_IR.P rfl rfl (Nat.le_of_ble_eq_true rfl) dX2_childFrom_29 ⟨Nat.zero_le _, Nat.zero_le _⟩) ?_
        refine xj_iload_n X 1 dX2_childFrom_32 rfl rfl ?_
        refine xj_icmp_ne (tgt := 66) X dX2_childFrom_33 rfl hf (fun hf => ?_) (fun hf => ?_)
        · refine xj_iinc (y := v6 + (1 : Int32)) (lv' := [(6, .int (v6 + (1 : Int32))), (0, .ref (ad 3)), (2, .int v2), (3, .int v3), (4, .int v4), (5, .int v5), (7, .int (x_at 24 (σ 5) v6))]) X 5 dX2_childFrom_66 rfl rfl (Nat.le_of_ble_eq_true rfl) rfl ?_
          refine xj_sub [1, 2, 3, 4, 5, 0, 6] rfl ?_
          refine xj_goto (tgt := 3) X dX2_childFrom_69 rfl ?_
          exact xj_sub [0, 1, 2, 3, 4, 5] rfl (ih v2 v3 v4 v5 (v6 + (1 : Int32)) hf)
        · refine xj_aload_n X 0 dX2_childFrom_36 rfl rfl ?_
          refine xj_get X x_IR.P inG_X2 3 (wX_at3 ad cA σ) rfl 0 (by decide) mk1_44 (.ref (ad 4)) rfl dX2_childFrom_37 ?_
          refine xj_iload X 5 dX2_childFrom_40 rfl ?_
          refine xj_roI (r := x_at 24 (σ 4) v6) (rest := []) (fun _ h => h) (x_runSN X (c_at l D cA (wX_at4 ad cA σ) (by decide) v6) (x_cwN X kwX7_at x_nest_9 rfl rfl ⟨Nat.le_of_ble_eq_true rfl, Nat.le_of_ble_eq_true rfl⟩) x_IR.P rfl rfl (Nat.le_of_ble_eq_true rfl) dX2_childFrom_42 ⟨Nat.zero_le _, Nat.zero_le _⟩) ?_
          refine xj_iload_n X 2 dX2_childFrom_45 rfl rfl ?_
          refine xj_icmp_ne (tgt := 66) X dX2_childFrom_46 rfl hf (fun hf => ?_) (fun hf => ?_)
          · refine xj_iinc (y := v6 + (1 : Int32)) (lv' := [(6, .int (v6 + (1 : Int32))), (0, .ref (ad 3)), (2, .int v2), (3, .int v3), (4, .int v4), (5, .int v5), (7, .int (x_at 24 (σ 5) v6))]) X 5 dX2_childFrom_66 rfl rfl (Nat.le_of_ble_eq_true rfl) rfl ?_
            refine xj_sub [1, 2, 3, 4, 5, 0, 6] rfl ?_
            refine xj_goto (tgt := 3) X dX2_childFrom_69 rfl ?_
            exact xj_sub [0, 1, 2, 3, 4, 5] rfl (ih v2 v3 v4 v5 (v6 + (1 : Int32)) hf)
          · refine xj_iload X 6 dX2_childFrom_49 rfl ?_
            refine xj_iload X 3 dX2_childFrom_51 rfl ?_
            refine xj_icmp_lt (tgt := 66) X dX2_childFrom_53 rfl hf (fun hf => ?_) (fun hf => ?_)
            · refine xj_iinc (y := v6 + (1 : Int32)) (lv' := [(6, .int (v6 + (1 : Int32))), (0, .ref (ad 3)), (2, .int v2), (3, .int v3), (4, .int v4), (5, .int v5), (7, .int (x_at 24 (σ 5) v6))]) X 5 dX2_childFrom_66 rfl rfl (Nat.le_of_ble_eq_true rfl) rfl ?_
              refine xj_sub [1, 2, 3, 4, 5, 0, 6] rfl ?_
              refine xj_goto (tgt := 3) X dX2_childFrom_69 rfl ?_
              exact xj_sub [0, 1, 2, 3, 4, 5] rfl (ih v2 v3 v4 v5 (v6 + (1 : Int32)) hf)
            · refine xj_iload X 6 dX2_childFrom_56 rfl ?_
              refine xj_iload X 4 dX2_childFrom_58 rfl ?_
              refine xj_icmp_gt (tgt := 66) X dX2_childFrom_60 rfl hf (fun hf => ?_) (fun hf => ?_)
              · refine xj_iinc (y := v6 + (1 : Int32)) (lv' := [(6, .int (v6 + (1 : Int32))), (0, .ref (ad 3)), (2, .int v2), (3, .int v3), (4, .int v4), (5, .int v5), (7, .int (x_at 24 (σ 5) v6))]) X 5 dX2_childFrom_66 rfl rfl (Nat.le_of_ble_eq_true rfl) rfl ?_
                refine xj_sub [1, 2, 3, 4, 5, 0, 6] rfl ?_
                refine xj_goto (tgt := 3) X dX2_childFrom_69 rfl ?_
                exact xj_sub [0, 1, 2, 3, 4, 5] rfl (ih v2 v3 v4 v5 (v6 + (1 : Int32)) hf)
              · refine xj_iload X 5 dX2_childFrom_63 rfl ?_
                exact xj_iret_ro X hr (x_1 hf) dX2_childFrom_65
  rw [fX2_childFrom] at hf
  refine xj_iload_n X 1 dX2_childFrom_0 rfl rfl ?_
  refine xj_istore (lv' := [(6, .int p1), (0, .ref (ad 3)), (1, .int p1), (2, .int p2), (3, .int p3), (4, .int p4), (5, .int p5)]) X dX2_childFrom_1 (Nat.le_of_ble_eq_true rfl) rfl ?_
  refine xj_sub [1, 2, 3, 4, 5, 6, 0] rfl ?_
  exact xj_sub [0, 2, 3, 4, 5, 6] rfl (B_3 x_fuel p2 p3 p4 p5 p1 hf)
set_option maxHeartbeats 4000000 in
set_option maxRecDepth 100000 in
theorem ctX2_identifierIn (l : Launch) (D : va_G) (cA : ClassId) (ad : Nat → Nat) (σ : x_M) (p1 : Int32) (r0 : Int32) (hf : fX2_identifierIn σ p1 = some r0) : Met l yX2_identifierIn zX2_identifierIn ({ frames := 2, cells := 0, slots := 0, locals := 48 } : Room) (x_P D cA [.ref (ad 3), .int p1] (wX ad cA σ)) (x_R (some (.int r0))) 0 0 (fun _ => False) := by
  refine x_met (cc := cX2_identifierIn) (maxL := 4) (ret := (some .int)) RX2 rfl (by decide) rfl [(0, .ref (ad 3)), (1, .int p1)] rfl (Nat.le_of_ble_eq_true rfl) ?_
  intro p e s m args below meth c hr X
  rw [fX2_identifierIn] at hf
  refine xj_aload_n X 0 dX2_identifierIn_0 rfl rfl ?_
  refine xj_get X x_IR.P inG_X2 3 (wX_at3 ad cA σ) rfl 0 (by decide) mk1_44 (.ref (ad 4)) rfl dX2_identifierIn_1 ?_
  refine xj_iload_n X 1 dX2_identifierIn_4 rfl rfl ?_
  refine xj_roI (r := x_at 24 (σ 4) p1) (rest := []) (fun _ h => h) (x_runSN X (c_at l D cA (wX_at4 ad cA σ) (by decide) p1) (x_cwN X kwX7_at x_nest_9 rfl rfl ⟨Nat.le_of_ble_eq_true rfl, Nat.le_of_ble_eq_true rfl⟩) x_IR.P rfl rfl (Nat.le_of_ble_eq_true rfl) dX2_identifierIn_5 ⟨Nat.zero_le _, Nat.zero_le _⟩) ?_
  refine xj_bipush (x := (97 : Int32)) X dX2_identifierIn_8 rfl ?_
  refine xj_icmp_eq (tgt := 15) X dX2_identifierIn_10 rfl hf (fun hf => ?_) (fun hf => ?_)
  · refine xj_aload_n X 0 dX2_identifierIn_15 rfl rfl ?_
    refine xj_iload_n X 1 dX2_identifierIn_16 rfl rfl ?_
    refine xj_iconst (x := (1 : Int32)) X dX2_identifierIn_17 rfl ?_
    refine xj_iadd X dX2_identifierIn_18 ?_
    refine xj_iload_n X 1 dX2_identifierIn_19 rfl rfl ?_
    refine xj_bipush (x := (79 : Int32)) X dX2_identifierIn_20 rfl ?_
    refine xj_iconst (x := (5 : Int32)) X dX2_identifierIn_22 rfl ?_
    refine xj_bipush (x := (16 : Int32)) X dX2_identifierIn_23 rfl ?_
    obtain ⟨x1_25, hx1_25, hf⟩ := x_bind hf
    refine xj_roI (r := x1_25) (rest := []) (fun _ h => h) (x_runV X (ctX2_childFrom l D cA ad σ (p1 + ((1 : Int32))) p1 ((79 : Int32)) ((5 : Int32)) ((16 : Int32)) _ hx1_25) (x_cwV X kwX2_childFrom mk2_83 rfl rfl ⟨Nat.le_of_ble_eq_true rfl, Nat.le_of_ble_eq_true rfl⟩) x_IR.P 3 (wX_at3 ad cA σ) rfl rfl rfl (Nat.le_of_ble_eq_true rfl) dX2_identifierIn_25 ⟨Nat.zero_le _, Nat.zero_le _⟩) ?_
    refine xj_istore_n (lv' := [(2, .int x1_25), (0, .ref (ad 3)), (1, .int p1)]) X dX2_identifierIn_28 rfl (Nat.le_of_ble_eq_true rfl) rfl ?_
    refine xj_sub [1, 2, 0] rfl ?_
    refine xj_iload_n X 2 dX2_identifierIn_29 rfl rfl ?_
    refine xj_iconst (x := (-1 : Int32)) X dX2_identifierIn_30 rfl ?_
    refine xj_icmp_ne (tgt := 36) X dX2_identifierIn_31 rfl hf (fun hf => ?_) (fun hf => ?_)
    · refine xj_aload_n X 0 dX2_identifierIn_36 rfl rfl ?_
      refine xj_iload_n X 2 dX2_identifierIn_37 rfl rfl ?_
      refine xj_iconst (x := (1 : Int32)) X dX2_identifierIn_38 rfl ?_
      refine xj_iadd X dX2_identifierIn_39 ?_
      refine xj_iload_n X 1 dX2_identifierIn_40 rfl rfl ?_
      refine xj_bipush (x := (79 : Int32)) X dX2_identifierIn_41 rfl ?_
      refine xj_iconst (x := (5 : Int32)) X dX2_identifierIn_43 rfl ?_
      refine xj_bipush (x := (16 : Int32)) X dX2_identifierIn_44 rfl ?_
      obtain ⟨x2_46, hx2_46, hf⟩ := x_bind hf
      refine xj_roI (r := x2_46) (rest := []) (fun _ h => h) (x_runV X (ctX2_childFrom l D cA ad σ (x1_25 + ((1 : Int32))) p1 ((79 : Int32)) ((5 : Int32)) ((16 : Int32)) _ hx2_46) (x_cwV X kwX2_childFrom mk2_83 rfl rfl ⟨Nat.le_of_ble_eq_true rfl, Nat.le_of_ble_eq_true rfl⟩) x_IR.P 3 (wX_at3 ad cA σ) rfl rfl rfl (Nat.le_of_ble_eq_true rfl) dX2_identifierIn_46 ⟨Nat.zero_le _, Nat.zero_le _⟩) ?_
      refine xj_istore_n (lv' := [(3, .int x2_46), (0, .ref (ad 3)), (1, .int p1), (2, .int x1_25)]) X dX2_identifierIn_49 rfl (Nat.le_of_ble_eq_true rfl) rfl ?_
      refine xj_sub [1, 2, 3, 0] rfl ?_
      refine xj_iload_n X 3 dX2_identifierIn_50 rfl rfl ?_
      refine xj_iconst (x := (-1 : Int32)) X dX2_identifierIn_51 rfl ?_
      refine xj_icmp_ne (tgt := 59) X dX2_identifierIn_52 rfl hf (fun hf => ?_) (fun hf => ?_)
      · refine xj_iconst (x := (-1 : Int32)) X dX2_identifierIn_59 rfl ?_
        exact xj_iret_ro X hr (x_1 hf) dX2_identifierIn_60
      · refine xj_iload_n X 2 dX2_identifierIn_55 rfl rfl ?_
        refine xj_goto (tgt := 60) X dX2_identifierIn_56 rfl ?_
        exact xj_iret_ro X hr (x_1 hf) dX2_identifierIn_60
    · refine xj_iconst (x := (-1 : Int32)) X dX2_identifierIn_34 rfl ?_
      exact xj_iret_ro X hr (x_1 hf) dX2_identifierIn_35
  · refine xj_iconst (x := (-1 : Int32)) X dX2_identifierIn_13 rfl ?_
    exact xj_iret_ro X hr (x_1 hf) dX2_identifierIn_14
set_option maxHeartbeats 4000000 in
set_option maxRecDepth 100000 in
theorem ctX2_applicationCount (l : Launch) (D : va_G) (cA : ClassId) (ad : Nat → Nat) (σ : x_M) (r0 : Int32) (hf : fX2_applicationCount σ = some r0) : Met l yX2_applicationCount zX2_applicationCount ({ frames := 3, cells := 0, slots := 0, locals := 71 } : Room) (x_P D cA [.ref (ad 3)] (wX ad cA σ)) (x_R (some (.int r0))) 0 0 (fun _ => False) := by
  refine x_met (cc := cX2_applicationCount) (maxL := 3) (ret := (some .int)) RX2 rfl (by decide) rfl [(0, .ref (ad 3))] rfl (Nat.le_of_ble_eq_true rfl) ?_
  intro p e s m args below meth c hr X
  have B_4 : ∀ (n : Nat) (v1 : Int32) (v2 : Int32), fX2_applicationCount_4 σ n v1 v2 = some r0 → x_J 3 p l e ({ frames := 3, cells := 0, slots := 0, locals := 71 } : Room) s m args below meth c 0 0 (x_IR D s (wX ad cA σ)) (MQ below (x_R (some (.int r0))) args s 0 0 (fun _ => False)) 4 [(0, .ref (ad 3)), (1, .int v1), (2, .int v2)] [] := by
    intro n
    induction n with
    | zero => intro v1 v2 hf; rw [fX2_applicationCount_4] at hf; cases hf
    | succ n ih =>
      intro v1 v2 hf
      rw [fX2_applicationCount_4] at hf
      refine xj_iload_n X 2 dX2_applicationCount_4 rfl rfl ?_
      refine xj_aload_n X 0 dX2_applicationCount_5 rfl rfl ?_
      refine xj_get X x_IR.P inG_X2 3 (wX_at3 ad cA σ) rfl 5 (by decide) mk1_54 (.int (σ 3 5)) rfl dX2_applicationCount_6 ?_
      refine xj_icmp_ge (tgt := 30) X dX2_applicationCount_9 rfl hf (fun hf => ?_) (fun hf => ?_)
      · refine xj_iload_n X 1 dX2_applicationCount_30 rfl rfl ?_
        exact xj_iret_ro X hr (x_1 hf) dX2_applicationCount_31
      · refine xj_aload_n X 0 dX2_applicationCount_12 rfl rfl ?_
        refine xj_iload_n X 2 dX2_applicationCount_13 rfl rfl ?_
        obtain ⟨x1_14, hx1_14, hf⟩ := x_bind hf
        refine xj_roI (r := x1_14) (rest := []) (fun _ h => h) (x_runV X (ctX2_identifierIn l D cA ad σ v2 _ hx1_14) (x_cwV X kwX2_identifierIn mk2_79 rfl rfl ⟨Nat.le_of_ble_eq_true rfl, Nat.le_of_ble_eq_true rfl⟩) x_IR.P 3 (wX_at3 ad cA σ) rfl rfl rfl (Nat.le_of_ble_eq_true rfl) dX2_applicationCount_14 ⟨Nat.zero_le _, Nat.zero_le _⟩) ?_
        refine xj_iconst (x := (-1 : Int32)) X dX2_applicationCount_17 rfl ?_
        refine xj_icmp_eq (tgt := 24) X dX2_applicationCount_18 rfl hf (fun hf => ?_) (fun hf => ?_)
        · refine xj_iinc (y := v2 + (1 : Int32)) (lv' := [(2, .int (v2 + (1 : Int32))), (0, .ref (ad 3)), (1, .int v1)]) X 2 dX2_applicationCount_24 rfl rfl (Nat.le_of_ble_eq_true rfl) rfl ?_
          refine xj_sub [1, 2, 0] rfl ?_
          refine xj_goto (tgt := 4) X dX2_applicationCount_27 rfl ?_
          exact ih v1 (v2 + (1 : Int32)) hf
        · refine xj_iinc (y := v1 + (1 : Int32)) (lv' := [(1, .int (v1 + (1 : Int32))), (0, .ref (ad 3)), (2, .int v2)]) X 1 dX2_applicationCount_21 rfl rfl (Nat.le_of_ble_eq_true rfl) rfl ?_
          refine xj_sub [1, 0, 2] rfl ?_
          refine xj_iinc (y := v2 + (1 : Int32)) (lv' := [(2, .int (v2 + (1 : Int32))), (0, .ref (ad 3)), (1, .int (v1 + (1 : Int32)))]) X 2 dX2_applicationCount_24 rfl rfl (Nat.le_of_ble_eq_true rfl) rfl ?_
          refine xj_sub [1, 2, 0] rfl ?_
          refine xj_goto (tgt := 4) X dX2_applicationCount_27 rfl ?_
          exact ih (v1 + (1 : Int32)) (v2 + (1 : Int32)) hf
  rw [fX2_applicationCount] at hf
  refine xj_iconst (x := (0 : Int32)) X dX2_applicationCount_0 rfl ?_
  refine xj_istore_n (lv' := [(1, .int ((0 : Int32))), (0, .ref (ad 3))]) X dX2_applicationCount_1 rfl (Nat.le_of_ble_eq_true rfl) rfl ?_
  refine xj_sub [1, 0] rfl ?_
  refine xj_iconst (x := (0 : Int32)) X dX2_applicationCount_2 rfl ?_
  refine xj_istore_n (lv' := [(2, .int ((0 : Int32))), (0, .ref (ad 3)), (1, .int ((0 : Int32)))]) X dX2_applicationCount_3 rfl (Nat.le_of_ble_eq_true rfl) rfl ?_
  refine xj_sub [1, 2, 0] rfl ?_
  exact (B_4 x_fuel ((0 : Int32)) ((0 : Int32)) hf)
