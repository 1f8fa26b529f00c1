set_option maxHeartbeats 4000000 in
set_option maxRecDepth 100000 in
theorem ctX7_sendReversal (l : Launch) (D : va_G) (cA : ClassId) {ad : Nat → Nat} (hj : x_inj 26 ad) (σ : x_M) (p1 : Bool) (r0 : Int32) (σ0 : x_M) (hf : fX7_sendReversal σ p1 = some (r0, σ0)) : Met l yX7_sendReversal zX7_sendReversal ({ frames := 2, cells := 0, slots := 0, locals := 43 } : Room) (x_P D cA [.ref (ad 0), .int (b2i p1)] (wX ad cA σ)) (x_U D (some (.int r0)) (wX ad cA σ0) (x_A 26 ad)) 0 0 (x_A 26 ad) := by
  refine x_met (cc := cX7_sendReversal) (maxL := 3) (ret := (some .int)) RX7 rfl (by decide) rfl [(0, .ref (ad 0)), (1, .int (b2i p1))] rfl (Nat.le_of_ble_eq_true rfl) ?_
  intro p e s m args below meth c hr X
  refine xj_w (A := x_A 26 ad) ?_
  rw [fX7_sendReversal] at hf
  refine xj_aload_n X 0 dX7_sendReversal_0 rfl rfl ?_
  refine xj_get X x_IW.P inG_X7 0 (wX_at0 ad cA σ) rfl 5 (by decide) mk1_212 (.ref (ad 24)) rfl dX7_sendReversal_1 ?_
  refine xj_get X x_IW.P inG_X4 24 (wX_at24 ad cA σ) rfl 0 (by decide) mk1_200 (.int (σ 24 0)) rfl dX7_sendReversal_4 ?_
  refine xj_if_ne (tgt := 13) X dX7_sendReversal_7 rfl hf (fun hf => ?_) (fun hf => ?_)
  · refine xj_aload_n X 0 dX7_sendReversal_13 rfl rfl ?_
    refine xj_get X x_IW.P inG_X7 0 (wX_at0 ad cA σ) rfl 5 (by decide) mk1_212 (.ref (ad 24)) rfl dX7_sendReversal_14 ?_
    refine xj_roI (r := fX4_first σ) (rest := []) (fun _ h => h) (x_runV X (ctX4_first l D cA ad σ _ rfl) (x_cwV X kwX4_first mk3_47 rfl rfl ⟨Nat.le_of_ble_eq_true rfl, Nat.le_of_ble_eq_true rfl⟩) x_IW.P 24 (wX_at24 ad cA σ) rfl rfl rfl (Nat.le_of_ble_eq_true rfl) dX7_sendReversal_17 ⟨Nat.zero_le _, Nat.zero_le _⟩) ?_
    refine xj_istore_n (lv' := [(2, .int (fX4_first σ)), (0, .ref (ad 0)), (1, .int (b2i p1))]) X dX7_sendReversal_20 rfl (Nat.le_of_ble_eq_true rfl) rfl ?_
    refine xj_sub [1, 2, 0] rfl ?_
    refine xj_iload_n X 1 dX7_sendReversal_21 rfl rfl ?_
    refine xj_if_eq (tgt := 32) X dX7_sendReversal_22 rfl hf (fun hf => ?_) (fun hf => ?_)
    · refine xj_iload_n X 2 dX7_sendReversal_32 rfl rfl ?_
      exact xj_iret_wr X hr (x_2a hf) (congrArg (wX ad cA) (x_2b hf)) dX7_sendReversal_33
    · refine xj_aload_n X 0 dX7_sendReversal_25 rfl rfl ?_
      refine xj_get X x_IW.P inG_X7 0 (wX_at0 ad cA σ) rfl 5 (by decide) mk1_212 (.ref (ad 24)) rfl dX7_sendReversal_26 ?_
      obtain ⟨x1_29, hx1_29, hf⟩ := x_bind hf
      refine xj_wrV (rest := []) (x_runV X (ctX4_dropFirst l D cA hj σ x1_29 hx1_29) (x_cwV X kwX4_dropFirst mk3_52 rfl rfl ⟨Nat.le_of_ble_eq_true rfl, Nat.le_of_ble_eq_true rfl⟩) x_IW.P 24 (wX_at24 ad cA σ) rfl rfl rfl (Nat.le_of_ble_eq_true rfl) dX7_sendReversal_29 ⟨Nat.zero_le _, Nat.zero_le _⟩) (fun _ _ _ h _ => h) (fun _ h => h) ?_
      refine xj_iload_n X 2 dX7_sendReversal_32 rfl rfl ?_
      exact xj_iret_wr X hr (x_2a hf) (congrArg (wX ad cA) (x_2b hf)) dX7_sendReversal_33
  · refine xj_bipush (x := (-2 : Int32)) X dX7_sendReversal_10 rfl ?_
    exact xj_iret_wr X hr (x_2a hf) (congrArg (wX ad cA) (x_2b hf)) dX7_sendReversal_12
set_option maxHeartbeats 4000000 in
set_option maxRecDepth 100000 in
theorem ctX7_reversalCount (l : Launch) (D : va_G) (cA : ClassId) (ad : Nat → Nat) (σ : x_M) (r0 : Int32) (hf : fX7_reversalCount σ = r0) : Met l yX7_reversalCount zX7_reversalCount ({ frames := 0, cells := 0, slots := 0, locals := 0 } : Room) (x_P D cA [.ref (ad 0)] (wX ad cA σ)) (x_R (some (.int r0))) 0 0 (fun _ => False) := by
  refine x_met (cc := cX7_reversalCount) (maxL := 1) (ret := (some .int)) RX7 rfl (by decide) rfl [(0, .ref (ad 0))] rfl (Nat.le_of_ble_eq_true rfl) ?_
  intro p e s m args below meth c hr X
  rw [fX7_reversalCount] at hf
  refine xj_aload_n X 0 dX7_reversalCount_0 rfl rfl ?_
  refine xj_get X x_IR.P inG_X7 0 (wX_at0 ad cA σ) rfl 5 (by decide) mk1_212 (.ref (ad 24)) rfl dX7_reversalCount_1 ?_
  refine xj_get X x_IR.P inG_X4 24 (wX_at24 ad cA σ) rfl 0 (by decide) mk1_200 (.int (σ 24 0)) rfl dX7_reversalCount_4 ?_
  exact xj_iret_ro X hr hf dX7_reversalCount_7
set_option maxHeartbeats 4000000 in
set_option maxRecDepth 100000 in
theorem ctX7_verificationResults (l : Launch) (D : va_G) (cA : ClassId) (ad : Nat → Nat) (σ : x_M) (r0 : Int32) (hf : fX7_verificationResults σ = r0) : Met l yX7_verificationResults zX7_verificationResults ({ frames := 0, cells := 0, slots := 0, locals := 0 } : Room) (x_P D cA [.ref (ad 0)] (wX ad cA σ)) (x_R (some (.int r0))) 0 0 (fun _ => False) := by
  refine x_met (cc := cX7_verificationResults) (maxL := 1) (ret := (some .int)) RX7 rfl (by decide) rfl [(0, .ref (ad 0))] rfl (Nat.le_of_ble_eq_true rfl) ?_
  intro p e s m args below meth c hr X
  rw [fX7_verificationResults] at hf
  refine xj_aload_n X 0 dX7_verificationResults_0 rfl rfl ?_
  refine xj_get X x_IR.P inG_X7 0 (wX_at0 ad cA σ) rfl 4 (by decide) mk1_211 (.ref (ad 21)) rfl dX7_verificationResults_1 ?_
  refine xj_get X x_IR.P inG_X6 21 (wX_at21 ad cA σ) rfl 2 (by decide) mk1_178 (.int (σ 21 2)) rfl dX7_verificationResults_4 ?_
  refine xj_if_ne (tgt := 15) X dX7_verificationResults_7 rfl hf (fun hf => ?_) (fun hf => ?_)
  · refine xj_aload_n X 0 dX7_verificationResults_15 rfl rfl ?_
    refine xj_get X x_IR.P inG_X7 0 (wX_at0 ad cA σ) rfl 4 (by decide) mk1_211 (.ref (ad 21)) rfl dX7_verificationResults_16 ?_
    refine xj_get X x_IR.P inG_X6 21 (wX_at21 ad cA σ) rfl 3 (by decide) mk1_180 (.int (σ 21 3)) rfl dX7_verificationResults_19 ?_
    exact xj_iret_ro X hr hf dX7_verificationResults_22
  · refine xj_bipush (x := (-4 : Int32)) X dX7_verificationResults_10 rfl ?_
    refine xj_goto (tgt := 22) X dX7_verificationResults_12 rfl ?_
    exact xj_iret_ro X hr hf dX7_verificationResults_22
set_option maxHeartbeats 4000000 in
set_option maxRecDepth 100000 in
theorem ctX7_isOutcome (l : Launch) (D : va_G) (cA : ClassId) (ad : Nat → Nat) (σ : x_M) (p0 : Int32) (r0 : Bool) (hf : fX7_isOutcome p0 = r0) : Met l yX7_isOutcome zX7_isOutcome ({ frames := 0, cells := 0, slots := 0, locals := 0 } : Room) (x_P D cA [.int p0] (wX ad cA σ)) (x_R (some (.int (b2i r0)))) 0 0 (fun _ => False) := by
  refine x_met (cc := cX7_isOutcome) (maxL := 1) (ret := (some .boolean)) RX7 rfl (by decide) rfl [(0, .int p0)] rfl (Nat.le_of_ble_eq_true rfl) ?_
  intro p e s m args below meth c hr X
  rw [fX7_isOutcome] at hf
  refine xj_iload_n X 0 dX7_isOutcome_0 rfl rfl ?_
  refine xj_if_lt (tgt := 13) X dX7_isOutcome_1 rfl hf (fun hf => ?_) (fun hf => ?_)
  · refine xj_iconst (x := (0 : Int32)) X dX7_isOutcome_13 rfl ?_
    exact xj_zret_ro X hr (x_b2i hf) dX7_isOutcome_14
  · refine xj_iload_n X 0 dX7_isOutcome_4 rfl rfl ?_
    refine xj_iconst (x := (3 : Int32)) X dX7_isOutcome_5 rfl ?_
    refine xj_icmp_gt (tgt := 13) X dX7_isOutcome_6 rfl hf (fun hf => ?_) (fun hf => ?_)
    · refine xj_iconst (x := (0 : Int32)) X dX7_isOutcome_13 rfl ?_
      exact xj_zret_ro X hr (x_b2i hf) dX7_isOutcome_14
    · refine xj_iconst (x := (1 : Int32)) X dX7_isOutcome_9 rfl ?_
      refine xj_goto (tgt := 14) X dX7_isOutcome_10 rfl ?_
      exact xj_zret_ro X hr (x_b2i hf) dX7_isOutcome_14
set_option maxHeartbeats 4000000 in
set_option maxRecDepth 100000 in
theorem ctX7_outcomeCount (l : Launch) (D : va_G) (cA : ClassId) (ad : Nat → Nat) (σ : x_M) (p1 : Int32) (r0 : Int32) (hf : fX7_outcomeCount σ p1 = r0) : Met l yX7_outcomeCount zX7_outcomeCount ({ frames := 1, cells := 0, slots := 0, locals := 21 } : Room) (x_P D cA [.ref (ad 0), .int p1] (wX ad cA σ)) (x_R (some (.int r0))) 0 0 (fun _ => False) := by
  refine x_met (cc := cX7_outcomeCount) (maxL := 2) (ret := (some .int)) RX7 rfl (by decide) rfl [(0, .ref (ad 0)), (1, .int p1)] rfl (Nat.le_of_ble_eq_true rfl) ?_
  intro p e s m args below meth c hr X
  rw [fX7_outcomeCount] at hf
  refine xj_iload_n X 1 dX7_outcomeCount_0 rfl rfl ?_
  refine xj_roI (r := b2i (fX7_isOutcome p1)) (rest := []) (fun _ h => h) (x_runS X (ctX7_isOutcome l D cA ad σ p1 _ rfl) (x_cwS X kwX7_isOutcome mk3_68 rfl rfl ⟨Nat.le_of_ble_eq_true rfl, Nat.le_of_ble_eq_true rfl⟩) x_IR.P rfl rfl (Nat.le_of_ble_eq_true rfl) dX7_outcomeCount_1 ⟨Nat.zero_le _, Nat.zero_le _⟩) ?_
  refine xj_if_eq (tgt := 21) X dX7_outcomeCount_4 rfl hf (fun hf => ?_) (fun hf => ?_)
  · refine xj_iconst (x := (-1 : Int32)) X dX7_outcomeCount_21 rfl ?_
    exact xj_iret_ro X hr hf dX7_outcomeCount_22
  · refine xj_aload_n X 0 dX7_outcomeCount_7 rfl rfl ?_
    refine xj_get X x_IR.P inG_X7 0 (wX_at0 ad cA σ) rfl 4 (by decide) mk1_211 (.ref (ad 21)) rfl dX7_outcomeCount_8 ?_
    refine xj_get X x_IR.P inG_X6 21 (wX_at21 ad cA σ) rfl 0 (by decide) mk1_174 (.ref (ad 22)) rfl dX7_outcomeCount_11 ?_
    refine xj_iload_n X 1 dX7_outcomeCount_14 rfl rfl ?_
    refine xj_roI (r := x_at 4 (σ 22) p1) (rest := []) (fun _ h => h) (x_runS X (c_at l D cA (wX_at22 ad cA σ) (by decide) p1) (x_cwS X kwX7_at mk2_49 rfl rfl ⟨Nat.le_of_ble_eq_true rfl, Nat.le_of_ble_eq_true rfl⟩) x_IR.P rfl rfl (Nat.le_of_ble_eq_true rfl) dX7_outcomeCount_15 ⟨Nat.zero_le _, Nat.zero_le _⟩) ?_
    refine xj_goto (tgt := 22) X dX7_outcomeCount_18 rfl ?_
    exact xj_iret_ro X hr hf dX7_outcomeCount_22
set_option maxHeartbeats 4000000 in
set_option maxRecDepth 100000 in
theorem ctX7_outcomeAmount (l : Launch) (D : va_G) (cA : ClassId) (ad : Nat → Nat) (σ : x_M) (p1 : Int32) (r0 : Int32) (hf : fX7_outcomeAmount σ p1 = r0) : Met l yX7_outcomeAmount zX7_outcomeAmount ({ frames := 1, cells := 0, slots := 0, locals := 21 } : Room) (x_P D cA [.ref (ad 0), .int p1] (wX ad cA σ)) (x_R (some (.int r0))) 0 0 (fun _ => False) := by
  refine x_met (cc := cX7_outcomeAmount) (maxL := 2) (ret := (some .int)) RX7 rfl (by decide) rfl [(0, .ref (ad 0)), (1, .int p1)] rfl (Nat.le_of_ble_eq_true rfl) ?_
  intro p e s m args below meth c hr X
  rw [fX7_outcomeAmount] at hf
  refine xj_iload_n X 1 dX7_outcomeAmount_0 rfl rfl ?_
  refine xj_roI (r := b2i (fX7_isOutcome p1)) (rest := []) (fun _ h => h) (x_runS X (ctX7_isOutcome l D cA ad σ p1 _ rfl) (x_cwS X kwX7_isOutcome mk3_68 rfl rfl ⟨Nat.le_of_ble_eq_true rfl, Nat.le_of_ble_eq_true rfl⟩) x_IR.P rfl rfl (Nat.le_of_ble_eq_true rfl) dX7_outcomeAmount_1 ⟨Nat.zero_le _, Nat.zero_le _⟩) ?_
  refine xj_if_eq (tgt := 21) X dX7_outcomeAmount_4 rfl hf (fun hf => ?_) (fun hf => ?_)
  · refine xj_iconst (x := (-1 : Int32)) X dX7_outcomeAmount_21 rfl ?_
    exact xj_iret_ro X hr hf dX7_outcomeAmount_22
  · refine xj_aload_n X 0 dX7_outcomeAmount_7 rfl rfl ?_
    refine xj_get X x_IR.P inG_X7 0 (wX_at0 ad cA σ) rfl 4 (by decide) mk1_211 (.ref (ad 21)) rfl dX7_outcomeAmount_8 ?_
    refine xj_get X x_IR.P inG_X6 21 (wX_at21 ad cA σ) rfl 1 (by decide) mk1_176 (.ref (ad 23)) rfl dX7_outcomeAmount_11 ?_
    refine xj_iload_n X 1 dX7_outcomeAmount_14 rfl rfl ?_
    refine xj_roI (r := x_at 4 (σ 23) p1) (rest := []) (fun _ h => h) (x_runS X (c_at l D cA (wX_at23 ad cA σ) (by decide) p1) (x_cwS X kwX7_at mk2_49 rfl rfl ⟨Nat.le_of_ble_eq_true rfl, Nat.le_of_ble_eq_true rfl⟩) x_IR.P rfl rfl (Nat.le_of_ble_eq_true rfl) dX7_outcomeAmount_15 ⟨Nat.zero_le _, Nat.zero_le _⟩) ?_
    refine xj_goto (tgt := 22) X dX7_outcomeAmount_18 rfl ?_
    exact xj_iret_ro X hr hf dX7_outcomeAmount_22
set_option maxHeartbeats 4000000 in
set_option maxRecDepth 100000 in
theorem ctX7_offlineCounter (l : Launch) (D : va_G) (cA : ClassId) (ad : Nat → Nat) (σ : x_M) (r0 : Int32) (hf : fX7_offlineCounter σ = r0) : Met l yX7_offlineCounter zX7_offlineCounter ({ frames := 0, cells := 0, slots := 0, locals := 0 } : Room) (x_P D cA [.ref (ad 0)] (wX ad cA σ)) (x_R (some (.int r0))) 0 0 (fun _ => False) := by
  refine x_met (cc := cX7_offlineCounter) (maxL := 1) (ret := (some .int)) RX7 rfl (by decide) rfl [(0, .ref (ad 0))] rfl (Nat.le_of_ble_eq_true rfl) ?_
  intro p e s m args below meth c hr X
  rw [fX7_offlineCounter] at hf
  refine xj_aload_n X 0 dX7_offlineCounter_0 rfl rfl ?_
  refine xj_get X x_IR.P inG_X7 0 (wX_at0 ad cA σ) rfl 2 (by decide) mk1_209 (.ref (ad 9)) rfl dX7_offlineCounter_1 ?_
  refine xj_get X x_IR.P inG_X1 9 (wX_at9 ad cA σ) rfl 3 (by decide) mk1_110 (.int (σ 9 3)) rfl dX7_offlineCounter_4 ?_
  exact xj_iret_ro X hr hf dX7_offlineCounter_7
set_option maxHeartbeats 4000000 in
set_option maxRecDepth 100000 in
theorem ctX8_in (l : Launch) (D : va_G) (cA : ClassId) (ad : Nat → Nat) (σ : x_M) (p0 : Int32) (p1 : Int32) (p2 : Int32) (r0 : Bool) (hf : fX8_in p0 p1 p2 = r0) : Met l yX8_in zX8_in ({ frames := 0, cells := 0, slots := 0, locals := 0 } : Room) (x_P D cA [.int p0, .int p1, .int p2] (wM ad cA σ)) (x_R (some (.int (b2i r0)))) 0 0 (fun _ => False) := by
  refine x_met (cc := cX8_in) (maxL := 3) (ret := (some .boolean)) RX8 rfl (by decide) rfl [(0, .int p0), (1, .int p1), (2, .int p2)] rfl (Nat.le_of_ble_eq_true rfl) ?_
  intro p e s m args below meth c hr X
  rw [fX8_in] at hf
  refine xj_iload_n X 0 dX8_in_0 rfl rfl ?_
  refine xj_iload_n X 1 dX8_in_1 rfl rfl ?_
  refine xj_icmp_lt (tgt := 14) X dX8_in_2 rfl hf (fun hf => ?_) (fun hf => ?_)
  · refine xj_iconst (x := (0 : Int32)) X dX8_in_14 rfl ?_
    exact xj_zret_ro X hr (x_b2i hf) dX8_in_15
  · refine xj_iload_n X 0 dX8_in_5 rfl rfl ?_
    refine xj_iload_n X 2 dX8_in_6 rfl rfl ?_
    refine xj_icmp_gt (tgt := 14) X dX8_in_7 rfl hf (fun hf => ?_) (fun hf => ?_)
    · refine xj_iconst (x := (0 : Int32)) X dX8_in_14 rfl ?_
      exact xj_zret_ro X hr (x_b2i hf) dX8_in_15
    · refine xj_iconst (x := (1 : Int32)) X dX8_in_10 rfl ?_
      refine xj_goto (tgt := 15) X dX8_in_11 rfl ?_
      exact xj_zret_ro X hr (x_b2i hf) dX8_in_15
set_option maxHeartbeats 4000000 in
set_option maxRecDepth 100000 in
theorem ctX8_appendByte (l : Launch) (D : va_G) (cA : ClassId) {ad : Nat → Nat} (hj : x_inj 20 ad) (σ : x_M) (p1 : Int32) (r0 : Int32) (σ0 : x_M) (hf : fX8_appendByte σ p1 = some (r0, σ0)) : Met l yX8_appendByte zX8_appendByte ({ frames := 1, cells := 0, slots := 0, locals := 22 } : Room) (x_P D cA [.ref (ad 0), .int p1] (wM ad cA σ)) (x_U D (some (.int r0)) (wM ad cA σ0) (x_A 20 ad)) 0 0 (x_A 20 ad) := by
  refine x_met (cc := cX8_appendByte) (maxL := 2) (ret := (some .int)) RX8 rfl (by decide) rfl [(0, .ref (ad 0)), (1, .int p1)] rfl (Nat.le_of_ble_eq_true rfl) ?_
  intro p e s m args below meth c hr X
  refine xj_w (A := x_A 20 ad) ?_
  rw [fX8_appendByte] at hf
  refine xj_iload_n X 1 dX8_appendByte_0 rfl rfl ?_
  refine xj_iconst (x := (0 : Int32)) X dX8_appendByte_1 rfl ?_
  refine xj_sipush (x := (255 : Int32)) X dX8_appendByte_2 rfl ?_
  refine xj_roI (r := b2i (fX8_in p1 ((0 : Int32)) ((255 : Int32)))) (rest := []) (fun _ h => h) (x_runS X (ctX8_in l D cA ad σ p1 ((0 : Int32)) ((255 : Int32)) _ rfl) (x_cwS X kwX8_in mk3_201 rfl rfl ⟨Nat.le_of_ble_eq_true rfl, Nat.le_of_ble_eq_true rfl⟩) x_IW.P rfl rfl (Nat.le_of_ble_eq_true rfl) dX8_appendByte_5 ⟨Nat.zero_le _, Nat.zero_le _⟩) ?_
  refine xj_if_ne (tgt := 13) X dX8_appendByte_8 rfl hf (fun hf => ?_) (fun hf => ?_)
  · refine xj_aload_n X 0 dX8_appendByte_13 rfl rfl ?_
    refine xj_get X x_IW.P inG_X8 0 (wM_at0 ad cA σ) rfl 0 (by decide) mk3_85 (.int (σ 0 0)) rfl dX8_appendByte_14 ?_
    refine xj_bipush (x := (120 : Int32)) X dX8_appendByte_17 rfl ?_
    refine xj_icmp_ne (tgt := 25) X dX8_appendByte_19 rfl hf (fun hf => ?_) (fun hf => ?_)
    · refine xj_aload_n X 0 dX8_appendByte_25 rfl rfl ?_
      refine xj_get X x_IW.P inG_X8 0 (wM_at0 ad cA σ) rfl 1 (by decide) mk3_86 (.ref (ad 1)) rfl dX8_appendByte_26 ?_
      refine xj_aload_n X 0 dX8_appendByte_29 rfl rfl ?_
      refine xj_get X x_IW.P inG_X8 0 (wM_at0 ad cA σ) rfl 0 (by decide) mk3_85 (.int (σ 0 0)) rfl dX8_appendByte_30 ?_
      refine xj_iload_n X 1 dX8_appendByte_33 rfl rfl ?_
      refine xj_iast X (wM_D hj cA _) 1 (wM_at1 ad cA σ) hf (wM_ar1 ad cA σ (σ 0 0).toNatClampNeg p1) dX8_appendByte_34 (fun hf => ?_)
      refine xj_aload_n X 0 dX8_appendByte_35 rfl rfl ?_
      refine xj_dup X dX8_appendByte_36 rfl ?_
      refine xj_get X x_IW.P inG_X8 0 (wM_at0 ad cA (up2 σ 1 (σ 0 0).toNatClampNeg p1)) rfl 0 (by decide) mk3_85 (.int (σ 0 0)) rfl dX8_appendByte_37 ?_
      refine xj_iconst (x := (1 : Int32)) X dX8_appendByte_40 rfl ?_
      refine xj_iadd X dX8_appendByte_41 ?_
      refine xj_put X (wM_D hj cA _) inG_X8 tyX8_ok nmX8 0 (wM_at0 ad cA (up2 σ 1 (σ 0 0).toNatClampNeg p1)) rfl 0 (by decide) mk3_85 rfl .int rfl rfl rfl (Nat.le_of_ble_eq_true rfl) (wM_st0_0 ad cA (up2 σ 1 (σ 0 0).toNatClampNeg p1) ((σ 0 0) + ((1 : Int32)))) dX8_appendByte_42 ?_
      refine xj_aload_n X 0 dX8_appendByte_45 rfl rfl ?_
      refine xj_get X x_IW.P inG_X8 0 (wM_at0 ad cA (up2 (up2 σ 1 (σ 0 0).toNatClampNeg p1) 0 0 ((σ 0 0) + ((1 : Int32))))) rfl 0 (by decide) mk3_85 (.int ((σ 0 0) + ((1 : Int32)))) rfl dX8_appendByte_46 ?_
      exact xj_iret_wr X hr (x_2a hf) (congrArg (wM ad cA) (x_2b hf)) dX8_appendByte_49
    · refine xj_bipush (x := (-3 : Int32)) X dX8_appendByte_22 rfl ?_
      exact xj_iret_wr X hr (x_2a hf) (congrArg (wM ad cA) (x_2b hf)) dX8_appendByte_24
  · refine xj_iconst (x := (-1 : Int32)) X dX8_appendByte_11 rfl ?_
    exact xj_iret_wr X hr (x_2a hf) (congrArg (wM ad cA) (x_2b hf)) dX8_appendByte_12
set_option maxHeartbeats 4000000 in
set_option maxRecDepth 100000 in
theorem ctX8_clearBytes (l : Launch) (D : va_G) (cA : ClassId) {ad : Nat → Nat} (hj : x_inj 20 ad) (σ : x_M) (r0 : Int32) (σ0 : x_M) (hf : fX8_clearBytes σ = some (r0, σ0)) : Met l yX8_clearBytes zX8_clearBytes ({ frames := 0, cells := 0, slots := 0, locals := 0 } : Room) (x_P D cA [.ref (ad 0)] (wM ad cA σ)) (x_U D (some (.int r0)) (wM ad cA σ0) (x_A 20 ad)) 0 0 (x_A 20 ad) := by
  refine x_met (cc := cX8_clearBytes) (maxL := 2) (ret := (some .int)) RX8 rfl (by decide) rfl [(0, .ref (ad 0))] rfl (Nat.le_of_ble_eq_true rfl) ?_
  intro p e s m args below meth c hr X
  refine xj_w (A := x_A 20 ad) ?_
  rw [fX8_clearBytes] at hf
  refine xj_aload_n X 0 dX8_clearBytes_0 rfl rfl ?_
  refine xj_get X x_IW.P inG_X8 0 (wM_at0 ad cA σ) rfl 0 (by decide) mk3_85 (.int (σ 0 0)) rfl dX8_clearBytes_1 ?_
  refine xj_istore_n (lv' := [(1, .int (σ 0 0)), (0, .ref (ad 0))]) X dX8_clearBytes_4 rfl (Nat.le_of_ble_eq_true rfl) rfl ?_
  refine xj_sub [1, 0] rfl ?_
  refine xj_aload_n X 0 dX8_clearBytes_5 rfl rfl ?_
  refine xj_iconst (x := (0 : Int32)) X dX8_clearBytes_6 rfl ?_
  refine xj_put X (wM_D hj cA _) inG_X8 tyX8_ok nmX8 0 (wM_at0 ad cA σ) rfl 0 (by decide) mk3_85 rfl .int rfl rfl rfl (Nat.le_of_ble_eq_true rfl) (wM_st0_0 ad cA σ ((0 : Int32))) dX8_clearBytes_7 ?_
  refine xj_iload_n X 1 dX8_clearBytes_10 rfl rfl ?_
  exact xj_iret_wr X hr (x_2a hf) (congrArg (wM ad cA) (x_2b hf)) dX8_clearBytes_11
set_option maxHeartbeats 4000000 in
set_option maxRecDepth 100000 in
theorem ctX8_reads (l : Launch) (D : va_G) (cA : ClassId) {ad : Nat → Nat} (hj : x_inj 20 ad) (σ : x_M) (r0 : Int32) (σ0 : x_M) (hf : fX8_reads σ = some (r0, σ0)) : Met l yX8_reads zX8_reads ({ frames := 0, cells := 0, slots := 0, locals := 0 } : Room) (x_P D cA [.ref (ad 0)] (wM ad cA σ)) (x_U D (some (.int r0)) (wM ad cA σ0) (x_A 20 ad)) 0 0 (x_A 20 ad) := by
  refine x_met (cc := cX8_reads) (maxL := 9) (ret := (some .int)) RX8 rfl (by decide) rfl [(0, .ref (ad 0))] rfl (Nat.le_of_ble_eq_true rfl) ?_
  intro p e s m args below meth c hr X
  have B_202 : ∀ (K19 : x_M → Int32 → Int32 → Option (Int32 × x_M)) (_ : ∀ (σ : x_M) (v1 : Int32) (v2 : Int32), K19 σ v1 v2 = some (r0, σ0) → x_J 9 p l e ({ frames := 0, cells := 0, slots := 0, locals := 0 } : Room) s m args below meth c 0 0 (x_IW D s (x_A 20 ad) (wM ad cA σ)) (MQ below (x_U D (some (.int r0)) (wM ad cA σ0) (x_A 20 ad)) args s 0 0 (x_A 20 ad)) 19 [(0, .ref (ad 0)), (1, .int v1), (2, .int v2)] []) (σ : x_M) (v1 : Int32) (v3 : Int32) (v4 : Int32) (v5 : Int32) (v6 : Int32) (v7 : Int32) (v8 : Int32), fX8_reads_202 K19 σ v1 v3 v4 v5 v6 v7 v8 = some (r0, σ0) → x_J 9 p l e ({ frames := 0, cells := 0, slots := 0, locals := 0 } : Room) s m args below meth c 0 0 (x_IW D s (x_A 20 ad) (wM ad cA σ)) (MQ below (x_U D (some (.int r0)) (wM ad cA σ0) (x_A 20 ad)) args s 0 0 (x_A 20 ad)) 202 [(0, .ref (ad 0)), (1, .int v1), (3, .int v3), (4, .int v4), (5, .int v5), (6, .int v6), (7, .int v7), (8, .int v8)] [] := by
    intro K19 hK19 σ v1 v3 v4 v5 v6 v7 v8 hf
    rw [fX8_reads_202] at hf
    refine xj_iload X 5 dX8_reads_202 rfl ?_
    refine xj_iload X 7 dX8_reads_204 rfl ?_
    refine xj_iadd X dX8_reads_206 ?_
    refine xj_iload_n X 2 dX8_reads_207 rfl rfl ?_
    refine xj_icmp_le (tgt := 214) X dX8_reads_208 rfl hf (fun hf => ?_) (fun hf => ?_)
    · refine xj_aload_n X 0 dX8_reads_214 rfl rfl ?_
      refine xj_get X x_IW.P inG_X8 0 (wM_at0 ad cA σ) rfl 3 (by decide) mk3_88 (.ref (ad 2)) rfl dX8_reads_215 ?_
      refine xj_aload_n X 0 dX8_reads_218 rfl rfl ?_
      refine xj_get X x_IW.P inG_X8 0 (wM_at0 ad cA σ) rfl 2 (by decide) mk3_87 (.int (σ 0 2)) rfl dX8_reads_219 ?_
      refine xj_iload X 4 dX8_reads_222 rfl ?_
      refine xj_iast X (wM_D hj cA _) 2 (wM_at2 ad cA σ) hf (wM_ar2 ad cA σ (σ 0 2).toNatClampNeg v5) dX8_reads_224 (fun hf => ?_)
      refine xj_aload_n X 0 dX8_reads_225 rfl rfl ?_
      refine xj_get X x_IW.P inG_X8 0 (wM_at0 ad cA (up2 σ 2 (σ 0 2).toNatClampNeg v5)) rfl 4 (by decide) mk3_89 (.ref (ad 3)) rfl dX8_reads_226 ?_
      refine xj_aload_n X 0 dX8_reads_229 rfl rfl ?_
      refine xj_get X x_IW.P inG_X8 0 (wM_at0 ad cA (up2 σ 2 (σ 0 2).toNatClampNeg v5)) rfl 2 (by decide) mk3_87 (.int (σ 0 2)) rfl dX8_reads_230 ?_
      refine xj_iload_n X 1 dX8_reads_233 rfl rfl ?_
      refine xj_iast X (wM_D hj cA _) 3 (wM_at3 ad cA (up2 σ 2 (σ 0 2).toNatClampNeg v5)) hf (wM_ar3 ad cA (up2 σ 2 (σ 0 2).toNatClampNeg v5) (σ 0 2).toNatClampNeg v1) dX8_reads_234 (fun hf => ?_)
      refine xj_aload_n X 0 dX8_reads_235 rfl rfl ?_
      refine xj_get X x_IW.P inG_X8 0 (wM_at0 ad cA (up2 (up2 σ 2 (σ 0 2).toNatClampNeg v5) 3 (σ 0 2).toNatClampNeg v1)) rfl 5 (by decide) mk3_90 (.ref (ad 4)) rfl dX8_reads_236 ?_
      refine xj_aload_n X 0 dX8_reads_239 rfl rfl ?_
      refine xj_get X x_IW.P inG_X8 0 (wM_at0 ad cA (up2 (up2 σ 2 (σ 0 2).toNatClampNeg v5) 3 (σ 0 2).toNatClampNeg v1)) rfl 2 (by decide) mk3_87 (.int (σ 0 2)) rfl dX8_reads_240 ?_
      refine xj_iload X 7 dX8_reads_243 rfl ?_
      refine xj_iast X (wM_D hj cA _) 4 (wM_at4 ad cA (up2 (up2 σ 2 (σ 0 2).toNatClampNeg v5) 3 (σ 0 2).toNatClampNeg v1)) hf (wM_ar4 ad cA (up2 (up2 σ 2 (σ 0 2).toNatClampNeg v5) 3 (σ 0 2).toNatClampNeg v1) (σ 0 2).toNatClampNeg v8) dX8_reads_245 (fun hf => ?_)
      refine xj_aload_n X 0 dX8_reads_246 rfl rfl ?_
      refine xj_get X x_IW.P inG_X8 0 (wM_at0 ad cA (up2 (up2 (up2 σ 2 (σ 0 2).toNatClampNeg v5) 3 (σ 0 2).toNatClampNeg v1) 4 (σ 0 2).toNatClampNeg v8)) rfl 6 (by decide) mk3_91 (.ref (ad 5)) rfl dX8_reads_247 ?_
      refine xj_aload_n X 0 dX8_reads_250 rfl rfl ?_
      refine xj_get X x_IW.P inG_X8 0 (wM_at0 ad cA (up2 (up2 (up2 σ 2 (σ 0 2).toNatClampNeg v5) 3 (σ 0 2).toNatClampNeg v1) 4 (σ 0 2).toNatClampNeg v8)) rfl 2 (by decide) mk3_87 (.int (σ 0 2)) rfl dX8_reads_251 ?_
      refine xj_iload X 5 dX8_reads_254 rfl ?_
      refine xj_iast X (wM_D hj cA _) 5 (wM_at5 ad cA (up2 (up2 (up2 σ 2 (σ 0 2).toNatClampNeg v5) 3 (σ 0 2).toNatClampNeg v1) 4 (σ 0 2).toNatClampNeg v8)) hf (wM_ar5 ad cA (up2 (up2 (up2 σ 2 (σ 0 2).toNatClampNeg v5) 3 (σ 0 2).toNatClampNeg v1) 4 (σ 0 2).toNatClampNeg v8) (σ 0 2).toNatClampNeg v6) dX8_reads_256 (fun hf => ?_)
      refine xj_aload_n X 0 dX8_reads_257 rfl rfl ?_
      refine xj_dup X dX8_reads_258 rfl ?_
      refine xj_get X x_IW.P inG_X8 0 (wM_at0 ad cA (up2 (up2 (up2 (up2 σ 2 (σ 0 2).toNatClampNeg v5) 3 (σ 0 2).toNatClampNeg v1) 4 (σ 0 2).toNatClampNeg v8) 5 (σ 0 2).toNatClampNeg v6)) rfl 2 (by decide) mk3_87 (.int (σ 0 2)) rfl dX8_reads_259 ?_
      refine xj_iconst (x := (1 : Int32)) X dX8_reads_262 rfl ?_
      refine xj_iadd X dX8_reads_263 ?_
      refine xj_put X (wM_D hj cA _) inG_X8 tyX8_ok nmX8 0 (wM_at0 ad cA (up2 (up2 (up2 (up2 σ 2 (σ 0 2).toNatClampNeg v5) 3 (σ 0 2).toNatClampNeg v1) 4 (σ 0 2).toNatClampNeg v8) 5 (σ 0 2).toNatClampNeg v6)) rfl 2 (by decide) mk3_87 rfl .int rfl rfl rfl (Nat.le_of_ble_eq_true rfl) (wM_st0_2 ad cA (up2 (up2 (up2 (up2 σ 2 (σ 0 2).toNatClampNeg v5) 3 (σ 0 2).toNatClampNeg v1) 4 (σ 0 2).toNatClampNeg v8) 5 (σ 0 2).toNatClampNeg v6) ((σ 0 2) + ((1 : Int32)))) dX8_reads_264 ?_
      refine xj_iload X 5 dX8_reads_267 rfl ?_
      refine xj_istore_n (lv' := [(2, .int v6), (0, .ref (ad 0)), (1, .int v1), (3, .int v3), (4, .int v4), (5, .int v5), (6, .int v6), (7, .int v7), (8, .int v8)]) X dX8_reads_269 rfl (Nat.le_of_ble_eq_true rfl) rfl ?_
      refine xj_sub [1, 2, 0, 3, 4, 5, 6, 7, 8] rfl ?_
      refine xj_iload X 4 dX8_reads_270 rfl ?_
      refine xj_bipush (x := (32 : Int32)) X dX8_reads_272 rfl ?_
      refine xj_iand X dX8_reads_274 ?_
      refine xj_bipush (x := (32 : Int32)) X dX8_reads_275 rfl ?_
      refine xj_icmp_ne (tgt := 297) X dX8_reads_277 rfl hf (fun hf => ?_) (fun hf => ?_)
      · refine xj_iload_n X 2 dX8_reads_297 rfl rfl ?_
        refine xj_iload X 8 dX8_reads_298 rfl ?_
        refine xj_iadd X dX8_reads_300 ?_
        refine xj_istore_n (lv' := [(2, .int (v6 + v8)), (0, .ref (ad 0)), (1, .int v1), (3, .int v3), (4, .int v4), (5, .int v5), (6, .int v6), (7, .int v7), (8, .int v8)]) X dX8_reads_301 rfl (Nat.le_of_ble_eq_true rfl) rfl ?_
        refine xj_sub [1, 2, 0, 3, 4, 5, 6, 7, 8] rfl ?_
        refine xj_goto (tgt := 19) X dX8_reads_302 rfl ?_
        exact xj_sub [0, 1, 2] rfl (hK19 (up2 (up2 (up2 (up2 (up2 σ 2 (σ 0 2).toNatClampNeg v5) 3 (σ 0 2).toNatClampNeg v1) 4 (σ 0 2).toNatClampNeg v8) 5 (σ 0 2).toNatClampNeg v6) 0 2 ((σ 0 2) + ((1 : Int32)))) v1 (v6 + v8) hf)
      · refine xj_iinc (y := v1 + (1 : Int32)) (lv' := [(1, .int (v1 + (1 : Int32))), (0, .ref (ad 0)), (2, .int v6), (3, .int v3), (4, .int v4), (5, .int v5), (6, .int v6), (7, .int v7), (8, .int v8)]) X 1 dX8_reads_280 rfl rfl (Nat.le_of_ble_eq_true rfl) rfl ?_
        refine xj_sub [1, 0, 2, 3, 4, 5, 6, 7, 8] rfl ?_
        refine xj_aload_n X 0 dX8_reads_283 rfl rfl ?_
        refine xj_get X x_IW.P inG_X8 0 (wM_at0 ad cA (up2 (up2 (up2 (up2 (up2 σ 2 (σ 0 2).toNatClampNeg v5) 3 (σ 0 2).toNatClampNeg v1) 4 (σ 0 2).toNatClampNeg v8) 5 (σ 0 2).toNatClampNeg v6) 0 2 ((σ 0 2) + ((1 : Int32))))) rfl 7 (by decide) mk3_92 (.ref (ad 6)) rfl dX8_reads_284 ?_
        refine xj_iload_n X 1 dX8_reads_287 rfl rfl ?_
        refine xj_iload X 6 dX8_reads_288 rfl ?_
        refine xj_iload X 8 dX8_reads_290 rfl ?_
        refine xj_iadd X dX8_reads_292 ?_
        refine xj_iast X (wM_D hj cA _) 6 (wM_at6 ad cA (up2 (up2 (up2 (up2 (up2 σ 2 (σ 0 2).toNatClampNeg v5) 3 (σ 0 2).toNatClampNeg v1) 4 (σ 0 2).toNatClampNeg v8) 5 (σ 0 2).toNatClampNeg v6) 0 2 ((σ 0 2) + ((1 : Int32))))) hf (wM_ar6 ad cA (up2 (up2 (up2 (up2 (up2 σ 2 (σ 0 2).toNatClampNeg v5) 3 (σ 0 2).toNatClampNeg v1) 4 (σ 0 2).toNatClampNeg v8) 5 (σ 0 2).toNatClampNeg v6) 0 2 ((σ 0 2) + ((1 : Int32)))) (v1 + (1 : Int32)).toNatClampNeg (v6 + v8)) dX8_reads_293 (fun hf => ?_)
        refine xj_goto (tgt := 302) X dX8_reads_294 rfl ?_
        refine xj_goto (tgt := 19) X dX8_reads_302 rfl ?_
        exact xj_sub [0, 1, 2] rfl (hK19 (up2 (up2 (up2 (up2 (up2 (up2 σ 2 (σ 0 2).toNatClampNeg v5) 3 (σ 0 2).toNatClampNeg v1) 4 (σ 0 2).toNatClampNeg v8) 5 (σ 0 2).toNatClampNeg v6) 0 2 ((σ 0 2) + ((1 : Int32)))) 6 (v1 + (1 : Int32)).toNatClampNeg (v6 + v8)) (v1 + (1 : Int32)) v6 hf)
    · refine xj_iload X 6 dX8_reads_211 rfl ?_
      exact xj_iret_wr X hr (x_2a hf) (congrArg (wM ad cA) (x_2b hf)) dX8_reads_213
  have B_137 : ∀ (K19 : x_M → Int32 → Int32 → Option (Int32 × x_M)) (_ : ∀ (σ : x_M) (v1 : Int32) (v2 : Int32), K19 σ v1 v2 = some (r0, σ0) → x_J 9 p l e ({ frames := 0, cells := 0, slots := 0, locals := 0 } : Room) s m args below meth c 0 0 (x_IW D s (x_A 20 ad) (wM ad cA σ)) (MQ below (x_U D (some (.int r0)) (wM ad cA σ0) (x_A 20 ad)) args s 0 0 (x_A 20 ad)) 19 [(0, .ref (ad 0)), (1, .int v1), (2, .int v2)] []) (σ : x_M) (v1 : Int32) (v3 : Int32) (v4 : Int32) (v5 : Int32) (v6 : Int32), fX8_reads_137 K19 σ v1 v3 v4 v5 v6 = some (r0, σ0) → x_J 9 p l e ({ frames := 0, cells := 0, slots := 0, locals := 0 } : Room) s m args below meth c 0 0 (x_IW D s (x_A 20 ad) (wM ad cA σ)) (MQ below (x_U D (some (.int r0)) (wM ad cA σ0) (x_A 20 ad)) args s 0 0 (x_A 20 ad)) 137 [(0, .ref (ad 0)), (1, .int v1), (3, .int v3), (4, .int v4), (5, .int v5), (6, .int v6)] [] := by
    intro K19 hK19 σ v1 v3 v4 v5 v6 hf
    rw [fX8_reads_137] at hf
    refine xj_iload X 5 dX8_reads_137 rfl ?_
    refine xj_iload_n X 2 dX8_reads_139 rfl rfl ?_
    refine xj_icmp_lt (tgt := 145) X dX8_reads_140 rfl hf (fun hf => ?_) (fun hf => ?_)
    · refine xj_iload X 5 dX8_reads_145 rfl ?_
      refine xj_istore (lv' := [(7, .int v6), (0, .ref (ad 0)), (1, .int v1), (3, .int v3), (4, .int v4), (5, .int v5), (6, .int v6)]) X dX8_reads_147 (Nat.le_of_ble_eq_true rfl) rfl ?_
      refine xj_sub [1, 2, 3, 4, 5, 6, 0] rfl ?_
      refine xj_aload_n X 0 dX8_reads_149 rfl rfl ?_
      refine xj_get X x_IW.P inG_X8 0 (wM_at0 ad cA σ) rfl 1 (by decide) mk3_86 (.ref (ad 1)) rfl dX8_reads_150 ?_
      refine xj_iload X 5 dX8_reads_153 rfl ?_
      refine xj_iald X x_IW.P 1 (wM_at1 ad cA σ) hf ((σ 1) v6.toNatClampNeg) rfl dX8_reads_155 (fun hf => ?_)
      refine xj_istore (lv' := [(8, .int ((σ 1) v6.toNatClampNeg)), (0, .ref (ad 0)), (1, .int v1), (3, .int v3), (4, .int v4), (5, .int v5), (6, .int v6), (7, .int v6)]) X dX8_reads_156 (Nat.le_of_ble_eq_true rfl) rfl ?_
      refine xj_sub [1, 2, 3, 4, 5, 6, 7, 0] rfl ?_
      refine xj_iinc (y := v6 + (1 : Int32)) (lv' := [(6, .int (v6 + (1 : Int32))), (0, .ref (ad 0)), (1, .int v1), (3, .int v3), (4, .int v4), (5, .int v5), (7, .int v6), (8, .int ((σ 1) v6.toNatClampNeg))]) X 5 dX8_reads_158 rfl rfl (Nat.le_of_ble_eq_true rfl) rfl ?_
      refine xj_sub [1, 2, 3, 4, 5, 0, 6, 7] rfl ?_
      refine xj_iload X 7 dX8_reads_161 rfl ?_
      refine xj_sipush (x := (129 : Int32)) X dX8_reads_163 rfl ?_
      refine xj_icmp_ne (tgt := 192) X dX8_reads_166 rfl hf (fun hf => ?_) (fun hf => ?_)
      · refine xj_iload X 7 dX8_reads_192 rfl ?_
        refine xj_bipush (x := (127 : Int32)) X dX8_reads_194 rfl ?_
        refine xj_icmp_le (tgt := 202) X dX8_reads_196 rfl hf (fun hf => ?_) (fun hf => ?_)
        · exact (B_202 K19 hK19 σ v1 v3 v4 v5 (v6 + (1 : Int32)) v6 ((σ 1) v6.toNatClampNeg) hf)
        · refine xj_iload X 6 dX8_reads_199 rfl ?_
          exact xj_iret_wr X hr (x_2a hf) (congrArg (wM ad cA) (x_2b hf)) dX8_reads_201
      · refine xj_iload X 5 dX8_reads_169 rfl ?_
        refine xj_iload_n X 2 dX8_reads_171 rfl rfl ?_
        refine xj_icmp_lt (tgt := 177) X dX8_reads_172 rfl hf (fun hf => ?_) (fun hf => ?_)
        · refine xj_aload_n X 0 dX8_reads_177 rfl rfl ?_
          refine xj_get X x_IW.P inG_X8 0 (wM_at0 ad cA σ) rfl 1 (by decide) mk3_86 (.ref (ad 1)) rfl dX8_reads_178 ?_
          refine xj_iload X 5 dX8_reads_181 rfl ?_
          refine xj_iald X x_IW.P 1 (wM_at1 ad cA σ) hf ((σ 1) (v6 + (1 : Int32)).toNatClampNeg) rfl dX8_reads_183 (fun hf => ?_)
          refine xj_istore (lv' := [(8, .int ((σ 1) (v6 + (1 : Int32)).toNatClampNeg)), (0, .ref (ad 0)), (1, .int v1), (3, .int v3), (4, .int v4), (5, .int v5), (6, .int (v6 + (1 : Int32))), (7, .int v6)]) X dX8_reads_184 (Nat.le_of_ble_eq_true rfl) rfl ?_
          refine xj_sub [1, 2, 3, 4, 5, 6, 7, 0] rfl ?_
          refine xj_iinc (y := (v6 + (1 : Int32)) + (1 : Int32)) (lv' := [(6, .int ((v6 + (1 : Int32)) + (1 : Int32))), (0, .ref (ad 0)), (1, .int v1), (3, .int v3), (4, .int v4), (5, .int v5), (7, .int v6), (8, .int ((σ 1) (v6 + (1 : Int32)).toNatClampNeg))]) X 5 dX8_reads_186 rfl rfl (Nat.le_of_ble_eq_true rfl) rfl ?_
          refine xj_sub [1, 2, 3, 4, 5, 0, 6, 7] rfl ?_
          refine xj_goto (tgt := 202) X dX8_reads_189 rfl ?_
          exact (B_202 K19 hK19 σ v1 v3 v4 v5 ((v6 + (1 : Int32)) + (1 : Int32)) v6 ((σ 1) (v6 + (1 : Int32)).toNatClampNeg) hf)
        · refine xj_iload_n X 2 dX8_reads_175 rfl rfl ?_
          exact xj_iret_wr X hr (x_2a hf) (congrArg (wM ad cA) (x_2b hf)) dX8_reads_176
    · refine xj_iload_n X 2 dX8_reads_143 rfl rfl ?_
      exact xj_iret_wr X hr (x_2a hf) (congrArg (wM ad cA) (x_2b hf)) dX8_reads_144
  have B_39 : ∀ (K19 : x_M → Int32 → Int32 → Option (Int32 × x_M)) (_ : ∀ (σ : x_M) (v1 : Int32) (v2 : Int32), K19 σ v1 v2 = some (r0, σ0) → x_J 9 p l e ({ frames := 0, cells := 0, slots := 0, locals := 0 } : Room) s m args below meth c 0 0 (x_IW D s (x_A 20 ad) (wM ad cA σ)) (MQ below (x_U D (some (.int r0)) (wM ad cA σ0) (x_A 20 ad)) args s 0 0 (x_A 20 ad)) 19 [(0, .ref (ad 0)), (1, .int v1), (2, .int v2)] []) (σ : x_M) (v1 : Int32) (v2 : Int32), fX8_reads_39 K19 σ v1 v2 = some (r0, σ0) → x_J 9 p l e ({ frames := 0, cells := 0, slots := 0, locals := 0 } : Room) s m args below meth c 0 0 (x_IW D s (x_A 20 ad) (wM ad cA σ)) (MQ below (x_U D (some (.int r0)) (wM ad cA σ0) (x_A 20 ad)) args s 0 0 (x_A 20 ad)) 39 [(0, .ref (ad 0)), (1, .int v1), (2, .int v2)] [] := by
    intro K19 hK19 σ v1 v2 hf
    rw [fX8_reads_39] at hf
    refine xj_iload_n X 2 dX8_reads_39 rfl rfl ?_
    refine xj_aload_n X 0 dX8_reads_40 rfl rfl ?_
    refine xj_get X x_IW.P inG_X8 0 (wM_at0 ad cA σ) rfl 0 (by decide) mk3_85 (.int (σ 0 0)) rfl dX8_reads_41 ?_
    refine xj_icmp_ne (tgt := 50) X dX8_reads_44 rfl hf (fun hf => ?_) (fun hf => ?_)
    · refine xj_aload_n X 0 dX8_reads_50 rfl rfl ?_
      refine xj_get X x_IW.P inG_X8 0 (wM_at0 ad cA σ) rfl 7 (by decide) mk3_92 (.ref (ad 6)) rfl dX8_reads_51 ?_
      refine xj_iload_n X 1 dX8_reads_54 rfl rfl ?_
      refine xj_iald X x_IW.P 6 (wM_at6 ad cA σ) hf ((σ 6) v1.toNatClampNeg) rfl dX8_reads_55 (fun hf => ?_)
      refine xj_istore_n (lv' := [(3, .int ((σ 6) v1.toNatClampNeg)), (0, .ref (ad 0)), (1, .int v1), (2, .int v2)]) X dX8_reads_56 rfl (Nat.le_of_ble_eq_true rfl) rfl ?_
      refine xj_sub [1, 2, 3, 0] rfl ?_
      refine xj_aload_n X 0 dX8_reads_57 rfl rfl ?_
      refine xj_get X x_IW.P inG_X8 0 (wM_at0 ad cA σ) rfl 2 (by decide) mk3_87 (.int (σ 0 2)) rfl dX8_reads_58 ?_
      refine xj_bipush (x := (24 : Int32)) X dX8_reads_61 rfl ?_
      refine xj_icmp_ne (tgt := 68) X dX8_reads_63 rfl hf (fun hf => ?_) (fun hf => ?_)
      · refine xj_aload_n X 0 dX8_reads_68 rfl rfl ?_
        refine xj_get X x_IW.P inG_X8 0 (wM_at0 ad cA σ) rfl 1 (by decide) mk3_86 (.ref (ad 1)) rfl dX8_reads_69 ?_
        refine xj_iload_n X 2 dX8_reads_72 rfl rfl ?_
        refine xj_iald X x_IW.P 1 (wM_at1 ad cA σ) hf ((σ 1) v2.toNatClampNeg) rfl dX8_reads_73 (fun hf => ?_)
        refine xj_istore (lv' := [(4, .int ((σ 1) v2.toNatClampNeg)), (0, .ref (ad 0)), (1, .int v1), (2, .int v2), (3, .int ((σ 6) v1.toNatClampNeg))]) X dX8_reads_74 (Nat.le_of_ble_eq_true rfl) rfl ?_
        refine xj_sub [1, 2, 3, 4, 0] rfl ?_
        refine xj_iload X 4 dX8_reads_76 rfl ?_
        refine xj_istore (lv' := [(5, .int ((σ 1) v2.toNatClampNeg)), (0, .ref (ad 0)), (1, .int v1), (2, .int v2), (3, .int ((σ 6) v1.toNatClampNeg)), (4, .int ((σ 1) v2.toNatClampNeg))]) X dX8_reads_78 (Nat.le_of_ble_eq_true rfl) rfl ?_
        refine xj_sub [1, 2, 3, 4, 5, 0] rfl ?_
        refine xj_iload_n X 2 dX8_reads_80 rfl rfl ?_
        refine xj_iconst (x := (1 : Int32)) X dX8_reads_81 rfl ?_
        refine xj_iadd X dX8_reads_82 ?_
        refine xj_istore (lv' := [(6, .int (v2 + ((1 : Int32)))), (0, .ref (ad 0)), (1, .int v1), (2, .int v2), (3, .int ((σ 6) v1.toNatClampNeg)), (4, .int ((σ 1) v2.toNatClampNeg)), (5, .int ((σ 1) v2.toNatClampNeg))]) X dX8_reads_83 (Nat.le_of_ble_eq_true rfl) rfl ?_
        refine xj_sub [1, 2, 3, 4, 5, 6, 0] rfl ?_
        refine xj_iload X 4 dX8_reads_85 rfl ?_
        refine xj_bipush (x := (31 : Int32)) X dX8_reads_87 rfl ?_
        refine xj_iand X dX8_reads_89 ?_
        refine xj_bipush (x := (31 : Int32)) X dX8_reads_90 rfl ?_
        refine xj_icmp_ne (tgt := 137) X dX8_reads_92 rfl hf (fun hf => ?_) (fun hf => ?_)
        · exact xj_sub [0, 1, 3, 4, 5, 6] rfl (B_137 K19 hK19 σ v1 ((σ 6) v1.toNatClampNeg) ((σ 1) v2.toNatClampNeg) ((σ 1) v2.toNatClampNeg) (v2 + ((1 : Int32))) hf)
        · refine xj_iload X 6 dX8_reads_95 rfl ?_
          refine xj_iload_n X 3 dX8_reads_97 rfl rfl ?_
          refine xj_icmp_lt (tgt := 103) X dX8_reads_98 rfl hf (fun hf => ?_) (fun hf => ?_)
          · refine xj_aload_n X 0 dX8_reads_103 rfl rfl ?_
            refine xj_get X x_IW.P inG_X8 0 (wM_at0 ad cA σ) rfl 1 (by decide) mk3_86 (.ref (ad 1)) rfl dX8_reads_104 ?_
            refine xj_iload X 6 dX8_reads_107 rfl ?_
            refine xj_iald X x_IW.P 1 (wM_at1 ad cA σ) hf ((σ 1) (v2 + ((1 : Int32))).toNatClampNeg) rfl dX8_reads_109 (fun hf => ?_)
            refine xj_bipush (x := (127 : Int32)) X dX8_reads_110 rfl ?_
            refine xj_icmp_le (tgt := 118) X dX8_reads_112 rfl hf (fun hf => ?_) (fun hf => ?_)
            · refine xj_sipush (x := (256 : Int32)) X dX8_reads_118 rfl ?_
              refine xj_iload X 4 dX8_reads_121 rfl ?_
              refine xj_imul X dX8_reads_123 ?_
              refine xj_aload_n X 0 dX8_reads_124 rfl rfl ?_
              refine xj_get X x_IW.P inG_X8 0 (wM_at0 ad cA σ) rfl 1 (by decide) mk3_86 (.ref (ad 1)) rfl dX8_reads_125 ?_
              refine xj_iload X 6 dX8_reads_128 rfl ?_
              refine xj_iald X x_IW.P 1 (wM_at1 ad cA σ) hf ((σ 1) (v2 + ((1 : Int32))).toNatClampNeg) rfl dX8_reads_130 (fun hf => ?_)
              refine xj_iadd X dX8_reads_131 ?_
              refine xj_istore (lv' := [(5, .int ((((256 : Int32)) * ((σ 1) v2.toNatClampNeg)) + ((σ 1) (v2 + ((1 : Int32))).toNatClampNeg))), (0, .ref (ad 0)), (1, .int v1), (2, .int v2), (3, .int ((σ 6) v1.toNatClampNeg)), (4, .int ((σ 1) v2.toNatClampNeg)), (6, .int (v2 + ((1 : Int32))))]) X dX8_reads_132 (Nat.le_of_ble_eq_true rfl) rfl ?_
              refine xj_sub [1, 2, 3, 4, 5, 0, 6] rfl ?_
              refine xj_iinc (y := (v2 + ((1 : Int32))) + (1 : Int32)) (lv' := [(6, .int ((v2 + ((1 : Int32))) + (1 : Int32))), (0, .ref (ad 0)), (1, .int v1), (2, .int v2), (3, .int ((σ 6) v1.toNatClampNeg)), (4, .int ((σ 1) v2.toNatClampNeg)), (5, .int ((((256 : Int32)) * ((σ 1) v2.toNatClampNeg)) + ((σ 1) (v2 + ((1 : Int32))).toNatClampNeg)))]) X 6 dX8_reads_134 rfl rfl (Nat.le_of_ble_eq_true rfl) rfl ?_
              refine xj_sub [1, 2, 3, 4, 5, 6, 0] rfl ?_
              exact xj_sub [0, 1, 3, 4, 5, 6] rfl (B_137 K19 hK19 σ v1 ((σ 6) v1.toNatClampNeg) ((σ 1) v2.toNatClampNeg) ((((256 : Int32)) * ((σ 1) v2.toNatClampNeg)) + ((σ 1) (v2 + ((1 : Int32))).toNatClampNeg)) ((v2 + ((1 : Int32))) + (1 : Int32)) hf)
            · refine xj_iload X 6 dX8_reads_115 rfl ?_
              exact xj_iret_wr X hr (x_2a hf) (congrArg (wM ad cA) (x_2b hf)) dX8_reads_117
          · refine xj_iload_n X 3 dX8_reads_101 rfl rfl ?_
            exact xj_iret_wr X hr (x_2a hf) (congrArg (wM ad cA) (x_2b hf)) dX8_reads_102
      · refine xj_iload_n X 2 dX8_reads_66 rfl rfl ?_
        exact xj_iret_wr X hr (x_2a hf) (congrArg (wM ad cA) (x_2b hf)) dX8_reads_67
    · refine xj_bipush (x := (-4 : Int32)) X dX8_reads_47 rfl ?_
      exact xj_iret_wr X hr (x_2a hf) (congrArg (wM ad cA) (x_2b hf)) dX8_reads_49
  have B_19 : ∀ (n : Nat) (σ : x_M) (v1 : Int32) (v2 : Int32), fX8_reads_19 n σ v1 v2 = some (r0, σ0) → x_J 9 p l e ({ frames := 0, cells := 0, slots := 0, locals := 0 } : Room) s m args below meth c 0 0 (x_IW D s (x_A 20 ad) (wM ad cA σ)) (MQ below (x_U D (some (.int r0)) (wM ad cA σ0) (x_A 20 ad)) args s 0 0 (x_A 20 ad)) 19 [(0, .ref (ad 0)), (1, .int v1), (2, .int v2)] [] := by
    intro n
    induction n with
    | zero => intro σ v1 v2 hf; rw [fX8_reads_19] at hf; cases hf
    | succ n ih =>
      intro σ v1 v2 hf
      rw [fX8_reads_19] at hf
      refine xj_iload_n X 1 dX8_reads_19 rfl rfl ?_
      refine xj_if_le (tgt := 39) X dX8_reads_20 rfl hf (fun hf => ?_) (fun hf => ?_)
      · exact (B_39 (fX8_reads_19 n) ih σ v1 v2 hf)
      · refine xj_iload_n X 2 dX8_reads_23 rfl rfl ?_
        refine xj_aload_n X 0 dX8_reads_24 rfl rfl ?_
        refine xj_get X x_IW.P inG_X8 0 (wM_at0 ad cA σ) rfl 7 (by decide) mk3_92 (.ref (ad 6)) rfl dX8_reads_25 ?_
        refine xj_iload_n X 1 dX8_reads_28 rfl rfl ?_
        refine xj_iald X x_IW.P 6 (wM_at6 ad cA σ) hf ((σ 6) v1.toNatClampNeg) rfl dX8_reads_29 (fun hf => ?_)
        refine xj_icmp_ne (tgt := 39) X dX8_reads_30 rfl hf (fun hf => ?_) (fun hf => ?_)
        · exact (B_39 (fX8_reads_19 n) ih σ v1 v2 hf)
        · refine xj_iinc (y := v1 + (-1 : Int32)) (lv' := [(1, .int (v1 + (-1 : Int32))), (0, .ref (ad 0)), (2, .int v2)]) X 1 dX8_reads_33 rfl rfl (Nat.le_of_ble_eq_true rfl) rfl ?_
          refine xj_sub [1, 0, 2] rfl ?_
          refine xj_goto (tgt := 19) X dX8_reads_36 rfl ?_
          exact ih σ (v1 + (-1 : Int32)) v2 hf
  refine xj_w (A := x_A 20 ad) ?_
  rw [fX8_reads] at hf
  refine xj_aload_n X 0 dX8_reads_0 rfl rfl ?_
  refine xj_iconst (x := (0 : Int32)) X dX8_reads_1 rfl ?_
  refine xj_put X (wM_D hj cA _) inG_X8 tyX8_ok nmX8 0 (wM_at0 ad cA σ) rfl 2 (by decide) mk3_87 rfl .int rfl rfl rfl (Nat.le_of_ble_eq_true rfl) (wM_st0_2 ad cA σ ((0 : Int32))) dX8_reads_2 ?_
  refine xj_aload_n X 0 dX8_reads_5 rfl rfl ?_
  refine xj_get X x_IW.P inG_X8 0 (wM_at0 ad cA (up2 σ 0 2 ((0 : Int32)))) rfl 7 (by decide) mk3_92 (.ref (ad 6)) rfl dX8_reads_6 ?_
  refine xj_iconst (x := (0 : Int32)) X dX8_reads_9 rfl ?_
  refine xj_aload_n X 0 dX8_reads_10 rfl rfl ?_
  refine xj_get X x_IW.P inG_X8 0 (wM_at0 ad cA (up2 σ 0 2 ((0 : Int32)))) rfl 0 (by decide) mk3_85 (.int (σ 0 0)) rfl dX8_reads_11 ?_
  refine xj_iast X (wM_D hj cA _) 6 (wM_at6 ad cA (up2 σ 0 2 ((0 : Int32)))) hf (wM_ar6 ad cA (up2 σ 0 2 ((0 : Int32))) ((0 : Int32)).toNatClampNeg (σ 0 0)) dX8_reads_14 (fun hf => ?_)
  refine xj_iconst (x := (0 : Int32)) X dX8_reads_15 rfl ?_
  refine xj_istore_n (lv' := [(1, .int ((0 : Int32))), (0, .ref (ad 0))]) X dX8_reads_16 rfl (Nat.le_of_ble_eq_true rfl) rfl ?_
  refine xj_sub [1, 0] rfl ?_
  refine xj_iconst (x := (0 : Int32)) X dX8_reads_17 rfl ?_
  refine xj_istore_n (lv' := [(2, .int ((0 : Int32))), (0, .ref (ad 0)), (1, .int ((0 : Int32)))]) X dX8_reads_18 rfl (Nat.le_of_ble_eq_true rfl) rfl ?_
  refine xj_sub [1, 2, 0] rfl ?_
  exact (B_19 x_fuel (up2 (up2 σ 0 2 ((0 : Int32))) 6 ((0 : Int32)).toNatClampNeg (σ 0 0)) ((0 : Int32)) ((0 : Int32)) hf)
set_option maxHeartbeats 4000000 in
set_option maxRecDepth 100000 in
theorem ctX8_errorOffset (l : Launch) (D : va_G) (cA : ClassId) {ad : Nat → Nat} (hj : x_inj 20 ad) (σ : x_M) (r0 : Int32) (σ0 : x_M) (hf : fX8_errorOffset σ = some (r0, σ0)) : Met l yX8_errorOffset zX8_errorOffset ({ frames := 1, cells := 0, slots := 0, locals := 28 } : Room) (x_P D cA [.ref (ad 0)] (wM ad cA σ)) (x_U D (some (.int r0)) (wM ad cA σ0) (x_A 20 ad)) 0 0 (x_A 20 ad) := by
  refine x_met (cc := cX8_errorOffset) (maxL := 1) (ret := (some .int)) RX8 rfl (by decide) rfl [(0, .ref (ad 0))] rfl (Nat.le_of_ble_eq_true rfl) ?_
  intro p e s m args below meth c hr X
  refine xj_w (A := x_A 20 ad) ?_
  rw [fX8_errorOffset] at hf
  refine xj_aload_n X 0 dX8_errorOffset_0 rfl rfl ?_
  obtain ⟨x1_1, hx1_1, hf⟩ := x_bind hf
  refine xj_wrI (r := x1_1.1) (rest := []) (x_runV X (ctX8_reads l D cA hj σ x1_1.1 x1_1.2 hx1_1) (x_cwV X kwX8_reads mk3_212 rfl rfl ⟨Nat.le_of_ble_eq_true rfl, Nat.le_of_ble_eq_true rfl⟩) x_IW.P 0 (wM_at0 ad cA σ) rfl rfl rfl (Nat.le_of_ble_eq_true rfl) dX8_errorOffset_1 ⟨Nat.zero_le _, Nat.zero_le _⟩) (fun _ _ _ h _ => h) (fun _ h => h) ?_
  exact xj_iret_wr X hr (x_2a hf) (congrArg (wM ad cA) (x_2b hf)) dX8_errorOffset_4
set_option maxHeartbeats 4000000 in
set_option maxRecDepth 100000 in
theorem ctX8_objectCount (l : Launch) (D : va_G) (cA : ClassId) {ad : Nat → Nat} (hj : x_inj 20 ad) (σ : x_M) (r0 : Int32) (σ0 : x_M) (hf : fX8_objectCount σ = some (r0, σ0)) : Met l yX8_objectCount zX8_objectCount ({ frames := 1, cells := 0, slots := 0, locals := 28 } : Room) (x_P D cA [.ref (ad 0)] (wM ad cA σ)) (x_U D (some (.int r0)) (wM ad cA σ0) (x_A 20 ad)) 0 0 (x_A 20 ad) := by
  refine x_met (cc := cX8_objectCount) (maxL := 1) (ret := (some .int)) RX8 rfl (by decide) rfl [(0, .ref (ad 0))] rfl (Nat.le_of_ble_eq_true rfl) ?_
  intro p e s m args below meth c hr X
  refine xj_w (A := x_A 20 ad) ?_
  rw [fX8_objectCount] at hf
  refine xj_aload_n X 0 dX8_objectCount_0 rfl rfl ?_
  obtain ⟨x1_1, hx1_1, hf⟩ := x_bind hf
  refine xj_wrI (r := x1_1.1) (rest := []) (x_runV X (ctX8_reads l D cA hj σ x1_1.1 x1_1.2 hx1_1) (x_cwV X kwX8_reads mk3_212 rfl rfl ⟨Nat.le_of_ble_eq_true rfl, Nat.le_of_ble_eq_true rfl⟩) x_IW.P 0 (wM_at0 ad cA σ) rfl rfl rfl (Nat.le_of_ble_eq_true rfl) dX8_objectCount_1 ⟨Nat.zero_le _, Nat.zero_le _⟩) (fun _ _ _ h _ => h) (fun _ h => h) ?_
  refine xj_bipush (x := (-4 : Int32)) X dX8_objectCount_4 rfl ?_
  refine xj_icmp_ne (tgt := 16) X dX8_objectCount_6 rfl hf (fun hf => ?_) (fun hf => ?_)
  · refine xj_bipush (x := (-2 : Int32)) X dX8_objectCount_16 rfl ?_
    exact xj_iret_wr X hr (x_2a hf) (congrArg (wM ad cA) (x_2b hf)) dX8_objectCount_18
  · refine xj_aload_n X 0 dX8_objectCount_9 rfl rfl ?_
    refine xj_get X x_IW.P inG_X8 0 (wM_at0 ad cA x1_1.2) rfl 2 (by decide) mk3_87 (.int (x1_1.2 0 2)) rfl dX8_objectCount_10 ?_
    refine xj_goto (tgt := 18) X dX8_objectCount_13 rfl ?_
    exact xj_iret_wr X hr (x_2a hf) (congrArg (wM ad cA) (x_2b hf)) dX8_objectCount_18
set_option maxHeartbeats 4000000 in
set_option maxRecDepth 100000 in
theorem ctX8_errorOf (l : Launch) (D : va_G) (cA : ClassId) {ad : Nat → Nat} (hj : x_inj 20 ad) (σ : x_M) (p1 : Int32) (r0 : Int32) (σ0 : x_M) (hf : fX8_errorOf σ p1 = some (r0, σ0)) : Met l yX8_errorOf zX8_errorOf ({ frames := 1, cells := 0, slots := 0, locals := 28 } : Room) (x_P D cA [.ref (ad 0), .int p1] (wM ad cA σ)) (x_U D (some (.int r0)) (wM ad cA σ0) (x_A 20 ad)) 0 0 (x_A 20 ad) := by
  refine x_met (cc := cX8_errorOf) (maxL := 2) (ret := (some .int)) RX8 rfl (by decide) rfl [(0, .ref (ad 0)), (1, .int p1)] rfl (Nat.le_of_ble_eq_true rfl) ?_
  intro p e s m args below meth c hr X
  refine xj_w (A := x_A 20 ad) ?_
  rw [fX8_errorOf] at hf
  refine xj_iload_n X 1 dX8_errorOf_0 rfl rfl ?_
  refine xj_if_ge (tgt := 6) X dX8_errorOf_1 rfl hf (fun hf => ?_) (fun hf => ?_)
  · refine xj_aload_n X 0 dX8_errorOf_6 rfl rfl ?_
    obtain ⟨x1_7, hx1_7, hf⟩ := x_bind hf
    refine xj_wrI (r := x1_7.1) (rest := []) (x_runV X (ctX8_reads l D cA hj σ x1_7.1 x1_7.2 hx1_7) (x_cwV X kwX8_reads mk3_212 rfl rfl ⟨Nat.le_of_ble_eq_true rfl, Nat.le_of_ble_eq_true rfl⟩) x_IW.P 0 (wM_at0 ad cA σ) rfl rfl rfl (Nat.le_of_ble_eq_true rfl) dX8_errorOf_7 ⟨Nat.zero_le _, Nat.zero_le _⟩) (fun _ _ _ h _ => h) (fun _ h => h) ?_
    refine xj_bipush (x := (-4 : Int32)) X dX8_errorOf_10 rfl ?_
    refine xj_icmp_eq (tgt := 18) X dX8_errorOf_12 rfl hf (fun hf => ?_) (fun hf => ?_)
    · refine xj_iload_n X 1 dX8_errorOf_18 rfl rfl ?_
      refine xj_aload_n X 0 dX8_errorOf_19 rfl rfl ?_
      refine xj_get X x_IW.P inG_X8 0 (wM_at0 ad cA x1_7.2) rfl 2 (by decide) mk3_87 (.int (x1_7.2 0 2)) rfl dX8_errorOf_20 ?_
      refine xj_icmp_ge (tgt := 30) X dX8_errorOf_23 rfl hf (fun hf => ?_) (fun hf => ?_)
      · refine xj_bipush (x := (-4 : Int32)) X dX8_errorOf_30 rfl ?_
        exact xj_iret_wr X hr (x_2a hf) (congrArg (wM ad cA) (x_2b hf)) dX8_errorOf_32
      · refine xj_iconst (x := (0 : Int32)) X dX8_errorOf_26 rfl ?_
        refine xj_goto (tgt := 32) X dX8_errorOf_27 rfl ?_
        exact xj_iret_wr X hr (x_2a hf) (congrArg (wM ad cA) (x_2b hf)) dX8_errorOf_32
    · refine xj_bipush (x := (-2 : Int32)) X dX8_errorOf_15 rfl ?_
      exact xj_iret_wr X hr (x_2a hf) (congrArg (wM ad cA) (x_2b hf)) dX8_errorOf_17
  · refine xj_iconst (x := (-1 : Int32)) X dX8_errorOf_4 rfl ?_
    exact xj_iret_wr X hr (x_2a hf) (congrArg (wM ad cA) (x_2b hf)) dX8_errorOf_5
set_option maxHeartbeats 4000000 in
set_option maxRecDepth 100000 in
theorem ctX8_objectTag (l : Launch) (D : va_G) (cA : ClassId) {ad : Nat → Nat} (hj : x_inj 20 ad) (σ : x_M) (p1 : Int32) (r0 : Int32) (σ0 : x_M) (hf : fX8_objectTag σ p1 = some (r0, σ0)) : Met l yX8_objectTag zX8_objectTag ({ frames := 2, cells := 0, slots := 0, locals := 49 } : Room) (x_P D cA [.ref (ad 0), .int p1] (wM ad cA σ)) (x_U D (some (.int r0)) (wM ad cA σ0) (x_A 20 ad)) 0 0 (x_A 20 ad) := by
  refine x_met (cc := cX8_objectTag) (maxL := 3) (ret := (some .int)) RX8 rfl (by decide) rfl [(0, .ref (ad 0)), (1, .int p1)] rfl (Nat.le_of_ble_eq_true rfl) ?_
  intro p e s m args below meth c hr X
  refine xj_w (A := x_A 20 ad) ?_
  rw [fX8_objectTag] at hf
  refine xj_aload_n X 0 dX8_objectTag_0 rfl rfl ?_
  refine xj_iload_n X 1 dX8_objectTag_1 rfl rfl ?_
  obtain ⟨x1_2, hx1_2, hf⟩ := x_bind hf
  refine xj_wrI (r := x1_2.1) (rest := []) (x_runV X (ctX8_errorOf l D cA hj σ p1 x1_2.1 x1_2.2 hx1_2) (x_cwV X kwX8_errorOf mk3_224 rfl rfl ⟨Nat.le_of_ble_eq_true rfl, Nat.le_of_ble_eq_true rfl⟩) x_IW.P 0 (wM_at0 ad cA σ) rfl rfl rfl (Nat.le_of_ble_eq_true rfl) dX8_objectTag_2 ⟨Nat.zero_le _, Nat.zero_le _⟩) (fun _ _ _ h _ => h) (fun _ h => h) ?_
  refine xj_istore_n (lv' := [(2, .int x1_2.1), (0, .ref (ad 0)), (1, .int p1)]) X dX8_objectTag_5 rfl (Nat.le_of_ble_eq_true rfl) rfl ?_
  refine xj_sub [1, 2, 0] rfl ?_
  refine xj_iload_n X 2 dX8_objectTag_6 rfl rfl ?_
  refine xj_if_ne (tgt := 19) X dX8_objectTag_7 rfl hf (fun hf => ?_) (fun hf => ?_)
  · refine xj_iload_n X 2 dX8_objectTag_19 rfl rfl ?_
    exact xj_iret_wr X hr (x_2a hf) (congrArg (wM ad cA) (x_2b hf)) dX8_objectTag_20
  · refine xj_aload_n X 0 dX8_objectTag_10 rfl rfl ?_
    refine xj_get X x_IW.P inG_X8 0 (wM_at0 ad cA x1_2.2) rfl 3 (by decide) mk3_88 (.ref (ad 2)) rfl dX8_objectTag_11 ?_
    refine xj_iload_n X 1 dX8_objectTag_14 rfl rfl ?_
    refine xj_iald X x_IW.P 2 (wM_at2 ad cA x1_2.2) hf ((x1_2.2 2) p1.toNatClampNeg) rfl dX8_objectTag_15 (fun hf => ?_)
    refine xj_goto (tgt := 20) X dX8_objectTag_16 rfl ?_
    exact xj_iret_wr X hr (x_2a hf) (congrArg (wM ad cA) (x_2b hf)) dX8_objectTag_20
set_option maxHeartbeats 4000000 in
set_option maxRecDepth 100000 in
theorem ctX8_objectDepth (l : Launch) (D : va_G) (cA : ClassId) {ad : Nat → Nat} (hj : x_inj 20 ad) (σ : x_M) (p1 : Int32) (r0 : Int32) (σ0 : x_M) (hf : fX8_objectDepth σ p1 = some (r0, σ0)) : Met l yX8_objectDepth zX8_objectDepth ({ frames := 2, cells := 0, slots := 0, locals := 49 } : Room) (x_P D cA [.ref (ad 0), .int p1] (wM ad cA σ)) (x_U D (some (.int r0)) (wM ad cA σ0) (x_A 20 ad)) 0 0 (x_A 20 ad) := by
  refine x_met (cc := cX8_objectDepth) (maxL := 3) (ret := (some .int)) RX8 rfl (by decide) rfl [(0, .ref (ad 0)), (1, .int p1)] rfl (Nat.le_of_ble_eq_true rfl) ?_
  intro p e s m args below meth c hr X
  refine xj_w (A := x_A 20 ad) ?_
  rw [fX8_objectDepth] at hf
  refine xj_aload_n X 0 dX8_objectDepth_0 rfl rfl ?_
  refine xj_iload_n X 1 dX8_objectDepth_1 rfl rfl ?_
  obtain ⟨x1_2, hx1_2, hf⟩ := x_bind hf
  refine xj_wrI (r := x1_2.1) (rest := []) (x_runV X (ctX8_errorOf l D cA hj σ p1 x1_2.1 x1_2.2 hx1_2) (x_cwV X kwX8_errorOf mk3_224 rfl rfl ⟨Nat.le_of_ble_eq_true rfl, Nat.le_of_ble_eq_true rfl⟩) x_IW.P 0 (wM_at0 ad cA σ) rfl rfl rfl (Nat.le_of_ble_eq_true rfl) dX8_objectDepth_2 ⟨Nat.zero_le _, Nat.zero_le _⟩) (fun _ _ _ h _ => h) (fun _ h => h) ?_
  refine xj_istore_n (lv' := [(2, .int x1_2.1), (0, .ref (ad 0)), (1, .int p1)]) X dX8_objectDepth_5 rfl (Nat.le_of_ble_eq_true rfl) rfl ?_
  refine xj_sub [1, 2, 0] rfl ?_
  refine xj_iload_n X 2 dX8_objectDepth_6 rfl rfl ?_
  refine xj_if_ne (tgt := 19) X dX8_objectDepth_7 rfl hf (fun hf => ?_) (fun hf => ?_)
  · refine xj_iload_n X 2 dX8_objectDepth_19 rfl rfl ?_
    exact xj_iret_wr X hr (x_2a hf) (congrArg (wM ad cA) (x_2b hf)) dX8_objectDepth_20
  · refine xj_aload_n X 0 dX8_objectDepth_10 rfl rfl ?_
    refine xj_get X x_IW.P inG_X8 0 (wM_at0 ad cA x1_2.2) rfl 4 (by decide) mk3_89 (.ref (ad 3)) rfl dX8_objectDepth_11 ?_
    refine xj_iload_n X 1 dX8_objectDepth_14 rfl rfl ?_
    refine xj_iald X x_IW.P 3 (wM_at3 ad cA x1_2.2) hf ((x1_2.2 3) p1.toNatClampNeg) rfl dX8_objectDepth_15 (fun hf => ?_)
    refine xj_goto (tgt := 20) X dX8_objectDepth_16 rfl ?_
    exact xj_iret_wr X hr (x_2a hf) (congrArg (wM ad cA) (x_2b hf)) dX8_objectDepth_20
set_option maxHeartbeats 4000000 in
set_option maxRecDepth 100000 in
theorem ctX8_objectLength (l : Launch) (D : va_G) (cA : ClassId) {ad : Nat → Nat} (hj : x_inj 20 ad) (σ : x_M) (p1 : Int32) (r0 : Int32) (σ0 : x_M) (hf : fX8_objectLength σ p1 = some (r0, σ0)) : Met l yX8_objectLength zX8_objectLength ({ frames := 2, cells := 0, slots := 0, locals := 49 } : Room) (x_P D cA [.ref (ad 0), .int p1] (wM ad cA σ)) (x_U D (some (.int r0)) (wM ad cA σ0) (x_A 20 ad)) 0 0 (x_A 20 ad) := by
  refine x_met (cc := cX8_objectLength) (maxL := 3) (ret := (some .int)) RX8 rfl (by decide) rfl [(0, .ref (ad 0)), (1, .int p1)] rfl (Nat.le_of_ble_eq_true rfl) ?_
  intro p e s m args below meth c hr X
  refine xj_w (A := x_A 20 ad) ?_
  rw [fX8_objectLength] at hf
  refine xj_aload_n X 0 dX8_objectLength_0 rfl rfl ?_
  refine xj_iload_n X 1 dX8_objectLength_1 rfl rfl ?_
  obtain ⟨x1_2, hx1_2, hf⟩ := x_bind hf
  refine xj_wrI (r := x1_2.1) (rest := []) (x_runV X (ctX8_errorOf l D cA hj σ p1 x1_2.1 x1_2.2 hx1_2) (x_cwV X kwX8_errorOf mk3_224 rfl rfl ⟨Nat.le_of_ble_eq_true rfl, Nat.le_of_ble_eq_true rfl⟩) x_IW.P 0 (wM_at0 ad cA σ) rfl rfl rfl (Nat.le_of_ble_eq_true rfl) dX8_objectLength_2 ⟨Nat.zero_le _, Nat.zero_le _⟩) (fun _ _ _ h _ => h) (fun _ h => h) ?_
  refine xj_istore_n (lv' := [(2, .int x1_2.1), (0, .ref (ad 0)), (1, .int p1)]) X dX8_objectLength_5 rfl (Nat.le_of_ble_eq_true rfl) rfl ?_
  refine xj_sub [1, 2, 0] rfl ?_
  refine xj_iload_n X 2 dX8_objectLength_6 rfl rfl ?_
  refine xj_if_ne (tgt := 19) X dX8_objectLength_7 rfl hf (fun hf => ?_) (fun hf => ?_)
  · refine xj_iload_n X 2 dX8_objectLength_19 rfl rfl ?_
    exact xj_iret_wr X hr (x_2a hf) (congrArg (wM ad cA) (x_2b hf)) dX8_objectLength_20
  · refine xj_aload_n X 0 dX8_objectLength_10 rfl rfl ?_
    refine xj_get X x_IW.P inG_X8 0 (wM_at0 ad cA x1_2.2) rfl 5 (by decide) mk3_90 (.ref (ad 4)) rfl dX8_objectLength_11 ?_
    refine xj_iload_n X 1 dX8_objectLength_14 rfl rfl ?_
    refine xj_iald X x_IW.P 4 (wM_at4 ad cA x1_2.2) hf ((x1_2.2 4) p1.toNatClampNeg) rfl dX8_objectLength_15 (fun hf => ?_)
    refine xj_goto (tgt := 20) X dX8_objectLength_16 rfl ?_
    exact xj_iret_wr X hr (x_2a hf) (congrArg (wM ad cA) (x_2b hf)) dX8_objectLength_20
set_option maxHeartbeats 4000000 in
set_option maxRecDepth 100000 in
theorem ctX8_findObject (l : Launch) (D : va_G) (cA : ClassId) {ad : Nat → Nat} (hj : x_inj 20 ad) (σ : x_M) (p1 : Int32) (p2 : Int32) (r0 : Int32) (σ0 : x_M) (hf : fX8_findObject σ p1 p2 = some (r0, σ0)) : Met l yX8_findObject zX8_findObject ({ frames := 1, cells := 0, slots := 0, locals := 28 } : Room) (x_P D cA [.ref (ad 0), .int p1, .int p2] (wM ad cA σ)) (x_U D (some (.int r0)) (wM ad cA σ0) (x_A 20 ad)) 0 0 (x_A 20 ad) := by
  refine x_met (cc := cX8_findObject) (maxL := 4) (ret := (some .int)) RX8 rfl (by decide) rfl [(0, .ref (ad 0)), (1, .int p1), (2, .int p2)] rfl (Nat.le_of_ble_eq_true rfl) ?_
  intro p e s m args below meth c hr X
  have B_24 : ∀ (n : Nat) (σ : x_M) (v1 : Int32) (v3 : Int32), fX8_findObject_24 n σ v1 v3 = some (r0, σ0) → x_J 4 p l e ({ frames := 1, cells := 0, slots := 0, locals := 28 } : Room) s m args below meth c 0 0 (x_IW D s (x_A 20 ad) (wM ad cA σ)) (MQ below (x_U D (some (.int r0)) (wM ad cA σ0) (x_A 20 ad)) args s 0 0 (x_A 20 ad)) 24 [(0, .ref (ad 0)), (1, .int v1), (3, .int v3)] [] := by
    intro n
    induction n with
    | zero => intro σ v1 v3 hf; rw [fX8_findObject_24] at hf; cases hf
    | succ n ih =>
      intro σ v1 v3 hf
      rw [fX8_findObject_24] at hf
      refine xj_iload_n X 2 dX8_findObject_24 rfl rfl ?_
      refine xj_aload_n X 0 dX8_findObject_25 rfl rfl ?_
      refine xj_get X x_IW.P inG_X8 0 (wM_at0 ad cA σ) rfl 2 (by decide) mk3_87 (.int (σ 0 2)) rfl dX8_findObject_26 ?_
      refine xj_icmp_ge (tgt := 50) X dX8_findObject_29 rfl hf (fun hf => ?_) (fun hf => ?_)
      · refine xj_bipush (x := (-4 : Int32)) X dX8_findObject_50 rfl ?_
        exact xj_iret_wr X hr (x_2a hf) (congrArg (wM ad cA) (x_2b hf)) dX8_findObject_52
      · refine xj_aload_n X 0 dX8_findObject_32 rfl rfl ?_
        refine xj_get X x_IW.P inG_X8 0 (wM_at0 ad cA σ) rfl 3 (by decide) mk3_88 (.ref (ad 2)) rfl dX8_findObject_33 ?_
        refine xj_iload_n X 2 dX8_findObject_36 rfl rfl ?_
        refine xj_iald X x_IW.P 2 (wM_at2 ad cA σ) hf ((σ 2) v3.toNatClampNeg) rfl dX8_findObject_37 (fun hf => ?_)
        refine xj_iload_n X 1 dX8_findObject_38 rfl rfl ?_
        refine xj_icmp_ne (tgt := 44) X dX8_findObject_39 rfl hf (fun hf => ?_) (fun hf => ?_)
        · refine xj_iinc (y := v3 + (1 : Int32)) (lv' := [(3, .int (v3 + (1 : Int32))), (0, .ref (ad 0)), (1, .int v1)]) X 2 dX8_findObject_44 rfl rfl (Nat.le_of_ble_eq_true rfl) rfl ?_
          refine xj_sub [1, 2, 0] rfl ?_
          refine xj_goto (tgt := 24) X dX8_findObject_47 rfl ?_
          exact ih σ v1 (v3 + (1 : Int32)) hf
        · refine xj_iload_n X 2 dX8_findObject_42 rfl rfl ?_
          exact xj_iret_wr X hr (x_2a hf) (congrArg (wM ad cA) (x_2b hf)) dX8_findObject_43
  refine xj_w (A := x_A 20 ad) ?_
  rw [fX8_findObject] at hf
  refine xj_iload_n X 1 dX8_findObject_0 rfl rfl ?_
  refine xj_if_lt (tgt := 8) X dX8_findObject_1 rfl hf (fun hf => ?_) (fun hf => ?_)
  · refine xj_iconst (x := (-1 : Int32)) X dX8_findObject_8 rfl ?_
    exact xj_iret_wr X hr (x_2a hf) (congrArg (wM ad cA) (x_2b hf)) dX8_findObject_9
  · refine xj_iload_n X 2 dX8_findObject_4 rfl rfl ?_
    refine xj_if_ge (tgt := 10) X dX8_findObject_5 rfl hf (fun hf => ?_) (fun hf => ?_)
    · refine xj_aload_n X 0 dX8_findObject_10 rfl rfl ?_
      obtain ⟨x1_11, hx1_11, hf⟩ := x_bind hf
      refine xj_wrI (r := x1_11.1) (rest := []) (x_runV X (ctX8_reads l D cA hj σ x1_11.1 x1_11.2 hx1_11) (x_cwV X kwX8_reads mk3_212 rfl rfl ⟨Nat.le_of_ble_eq_true rfl, Nat.le_of_ble_eq_true rfl⟩) x_IW.P 0 (wM_at0 ad cA σ) rfl rfl rfl (Nat.le_of_ble_eq_true rfl) dX8_findObject_11 ⟨Nat.zero_le _, Nat.zero_le _⟩) (fun _ _ _ h _ => h) (fun _ h => h) ?_
      refine xj_bipush (x := (-4 : Int32)) X dX8_findObject_14 rfl ?_
      refine xj_icmp_eq (tgt := 22) X dX8_findObject_16 rfl hf (fun hf => ?_) (fun hf => ?_)
      · refine xj_iload_n X 2 dX8_findObject_22 rfl rfl ?_
        refine xj_istore_n (lv' := [(3, .int p2), (0, .ref (ad 0)), (1, .int p1), (2, .int p2)]) X dX8_findObject_23 rfl (Nat.le_of_ble_eq_true rfl) rfl ?_
        refine xj_sub [1, 2, 3, 0] rfl ?_
        exact xj_sub [0, 1, 3] rfl (B_24 x_fuel x1_11.2 p1 p2 hf)
      · refine xj_bipush (x := (-2 : Int32)) X dX8_findObject_19 rfl ?_
        exact xj_iret_wr X hr (x_2a hf) (congrArg (wM ad cA) (x_2b hf)) dX8_findObject_21
    · refine xj_iconst (x := (-1 : Int32)) X dX8_findObject_8 rfl ?_
      exact xj_iret_wr X hr (x_2a hf) (congrArg (wM ad cA) (x_2b hf)) dX8_findObject_9
set_option maxHeartbeats 4000000 in
set_option maxRecDepth 100000 in
theorem ctX8_nameOf (l : Launch) (D : va_G) (cA : ClassId) (ad : Nat → Nat) (σ : x_M) (p1 : Int32) (r0 : Int32) (hf : fX8_nameOf σ p1 = some r0) : Met l yX8_nameOf zX8_nameOf ({ frames := 1, cells := 0, slots := 0, locals := 22 } : Room) (x_P D cA [.ref (ad 0), .int p1] (wM ad cA σ)) (x_R (some (.int r0))) 0 0 (fun _ => False) := by
  refine x_met (cc := cX8_nameOf) (maxL := 6) (ret := (some .int)) RX8 rfl (by decide) rfl [(0, .ref (ad 0)), (1, .int p1)] rfl (Nat.le_of_ble_eq_true rfl) ?_
  intro p e s m args below meth c hr X
  have B_119 : ∀ (v2 : Int32) (v3 : Int32), fX8_nameOf_119 σ v2 v3 = some r0 → x_J 6 p l e ({ frames := 1, cells := 0, slots := 0, locals := 22 } : Room) s m args below meth c 0 0 (x_IR D s (wM ad cA σ)) (MQ below (x_R (some (.int r0))) args s 0 0 (fun _ => False)) 119 [(2, .int v2), (3, .int v3)] [] := by
    intro  v2 v3 hf
    rw [fX8_nameOf_119] at hf
    refine xj_iload_n X 1 dX8_nameOf_119 rfl rfl ?_
    refine xj_iconst (x := (1 : Int32)) X dX8_nameOf_120 rfl ?_
    refine xj_icmp_ne (tgt := 128) X dX8_nameOf_121 rfl hf (fun hf => ?_) (fun hf => ?_)
    · refine xj_bipush (x := (-4 : Int32)) X dX8_nameOf_128 rfl ?_
      exact xj_iret_ro X hr (x_1 hf) dX8_nameOf_130
    · refine xj_iload_n X 0 dX8_nameOf_124 rfl rfl ?_
      refine xj_goto (tgt := 130) X dX8_nameOf_125 rfl ?_
      exact xj_iret_ro X hr (x_1 hf) dX8_nameOf_130
  have B_99 : ∀ (K10 : Int32 → Int32 → Int32 → Int32 → Option Int32) (_ : ∀ (v1 : Int32) (v2 : Int32) (v3 : Int32) (v4 : Int32), K10 v1 v2 v3 v4 = some r0 → x_J 6 p l e ({ frames := 1, cells := 0, slots := 0, locals := 22 } : Room) s m args below meth c 0 0 (x_IR D s (wM ad cA σ)) (MQ below (x_R (some (.int r0))) args s 0 0 (fun _ => False)) 10 [(0, .ref (ad 0)), (1, .int v1), (2, .int v2), (3, .int v3), (4, .int v4)] []) (v1 : Int32) (v3 : Int32) (v4 : Int32) (v5 : Int32) (w0 : Int32), fX8_nameOf_99 σ K10 v1 v3 v4 v5 w0 = some r0 → x_J 6 p l e ({ frames := 1, cells := 0, slots := 0, locals := 22 } : Room) s m args below meth c 0 0 (x_IR D s (wM ad cA σ)) (MQ below (x_R (some (.int r0))) args s 0 0 (fun _ => False)) 99 [(0, .ref (ad 0)), (1, .int v1), (3, .int v3), (4, .int v4), (5, .int v5)] [.int w0] := by
    intro K10 hK10 v1 v3 v4 v5 w0 hf
    rw [fX8_nameOf_99] at hf
    refine xj_istore_n (lv' := [(2, .int w0), (0, .ref (ad 0)), (1, .int v1), (3, .int v3), (4, .int v4), (5, .int v5)]) X dX8_nameOf_99 rfl (Nat.le_of_ble_eq_true rfl) rfl ?_
    refine xj_sub [1, 2, 0, 3, 4, 5] rfl ?_
    refine xj_iload_n X 3 dX8_nameOf_100 rfl rfl ?_
    refine xj_iload X 5 dX8_nameOf_101 rfl ?_
    refine xj_if_eq (tgt := 110) X dX8_nameOf_103 rfl hf (fun hf => ?_) (fun hf => ?_)
    · refine xj_iconst (x := (0 : Int32)) X dX8_nameOf_110 rfl ?_
      refine xj_iadd X dX8_nameOf_111 ?_
      refine xj_istore_n (lv' := [(3, .int (v3 + ((0 : Int32)))), (0, .ref (ad 0)), (1, .int v1), (2, .int w0), (4, .int v4), (5, .int v5)]) X dX8_nameOf_112 rfl (Nat.le_of_ble_eq_true rfl) rfl ?_
      refine xj_sub [1, 2, 3, 0, 4, 5] rfl ?_
      refine xj_iinc (y := v4 + (1 : Int32)) (lv' := [(4, .int (v4 + (1 : Int32))), (0, .ref (ad 0)), (1, .int v1), (2, .int w0), (3, .int (v3 + ((0 : Int32)))), (5, .int v5)]) X 4 dX8_nameOf_113 rfl rfl (Nat.le_of_ble_eq_true rfl) rfl ?_
      refine xj_sub [1, 2, 3, 4, 0, 5] rfl ?_
      refine xj_goto (tgt := 10) X dX8_nameOf_116 rfl ?_
      exact xj_sub [0, 1, 2, 3, 4] rfl (hK10 v1 w0 (v3 + ((0 : Int32))) (v4 + (1 : Int32)) hf)
    · refine xj_iconst (x := (1 : Int32)) X dX8_nameOf_106 rfl ?_
      refine xj_goto (tgt := 111) X dX8_nameOf_107 rfl ?_
      refine xj_iadd X dX8_nameOf_111 ?_
      refine xj_istore_n (lv' := [(3, .int (v3 + ((1 : Int32)))), (0, .ref (ad 0)), (1, .int v1), (2, .int w0), (4, .int v4), (5, .int v5)]) X dX8_nameOf_112 rfl (Nat.le_of_ble_eq_true rfl) rfl ?_
      refine xj_sub [1, 2, 3, 0, 4, 5] rfl ?_
      refine xj_iinc (y := v4 + (1 : Int32)) (lv' := [(4, .int (v4 + (1 : Int32))), (0, .ref (ad 0)), (1, .int v1), (2, .int w0), (3, .int (v3 + ((1 : Int32)))), (5, .int v5)]) X 4 dX8_nameOf_113 rfl rfl (Nat.le_of_ble_eq_true rfl) rfl ?_
      refine xj_sub [1, 2, 3, 4, 0, 5] rfl ?_
      refine xj_goto (tgt := 10) X dX8_nameOf_116 rfl ?_
      exact xj_sub [0, 1, 2, 3, 4] rfl (hK10 v1 w0 (v3 + ((1 : Int32))) (v4 + (1 : Int32)) hf)
  have B_86 : ∀ (K10 : Int32 → Int32 → Int32 → Int32 → Option Int32) (_ : ∀ (v1 : Int32) (v2 : Int32) (v3 : Int32) (v4 : Int32), K10 v1 v2 v3 v4 = some r0 → x_J 6 p l e ({ frames := 1, cells := 0, slots := 0, locals := 22 } : Room) s m args below meth c 0 0 (x_IR D s (wM ad cA σ)) (MQ below (x_R (some (.int r0))) args s 0 0 (fun _ => False)) 10 [(0, .ref (ad 0)), (1, .int v1), (2, .int v2), (3, .int v3), (4, .int v4)] []) (v1 : Int32) (v2 : Int32) (v3 : Int32) (v4 : Int32) (w0 : Int32), fX8_nameOf_86 σ K10 v1 v2 v3 v4 w0 = some r0 → x_J 6 p l e ({ frames := 1, cells := 0, slots := 0, locals := 22 } : Room) s m args below meth c 0 0 (x_IR D s (wM ad cA σ)) (MQ below (x_R (some (.int r0))) args s 0 0 (fun _ => False)) 86 [(0, .ref (ad 0)), (1, .int v1), (2, .int v2), (3, .int v3), (4, .int v4)] [.int w0] := by
    intro K10 hK10 v1 v2 v3 v4 w0 hf
    rw [fX8_nameOf_86] at hf
    refine xj_istore (lv' := [(5, .int w0), (0, .ref (ad 0)), (1, .int v1), (2, .int v2), (3, .int v3), (4, .int v4)]) X dX8_nameOf_86 (Nat.le_of_ble_eq_true rfl) rfl ?_
    refine xj_sub [1, 2, 3, 4, 5, 0] rfl ?_
    refine xj_iload X 5 dX8_nameOf_88 rfl ?_
    refine xj_if_eq (tgt := 98) X dX8_nameOf_90 rfl hf (fun hf => ?_) (fun hf => ?_)
    · refine xj_iload_n X 2 dX8_nameOf_98 rfl rfl ?_
      exact xj_sub [0, 1, 3, 4, 5] rfl (B_99 K10 hK10 v1 v3 v4 w0 v2 hf)
    · refine xj_iload X 4 dX8_nameOf_93 rfl ?_
      refine xj_goto (tgt := 99) X dX8_nameOf_95 rfl ?_
      exact xj_sub [0, 1, 3, 4, 5] rfl (B_99 K10 hK10 v1 v3 v4 w0 v4 hf)
  have B_85 : ∀ (K10 : Int32 → Int32 → Int32 → Int32 → Option Int32) (_ : ∀ (v1 : Int32) (v2 : Int32) (v3 : Int32) (v4 : Int32), K10 v1 v2 v3 v4 = some r0 → x_J 6 p l e ({ frames := 1, cells := 0, slots := 0, locals := 22 } : Room) s m args below meth c 0 0 (x_IR D s (wM ad cA σ)) (MQ below (x_R (some (.int r0))) args s 0 0 (fun _ => False)) 10 [(0, .ref (ad 0)), (1, .int v1), (2, .int v2), (3, .int v3), (4, .int v4)] []) (v1 : Int32) (v2 : Int32) (v3 : Int32) (v4 : Int32), fX8_nameOf_85 σ K10 v1 v2 v3 v4 = some r0 → x_J 6 p l e ({ frames := 1, cells := 0, slots := 0, locals := 22 } : Room) s m args below meth c 0 0 (x_IR D s (wM ad cA σ)) (MQ below (x_R (some (.int r0))) args s 0 0 (fun _ => False)) 85 [(0, .ref (ad 0)), (1, .int v1), (2, .int v2), (3, .int v3), (4, .int v4)] [] := by
    intro K10 hK10 v1 v2 v3 v4 hf
    rw [fX8_nameOf_85] at hf
    refine xj_iconst (x := (0 : Int32)) X dX8_nameOf_85 rfl ?_
    exact (B_86 K10 hK10 v1 v2 v3 v4 ((0 : Int32)) hf)
  have B_10 : ∀ (n : Nat) (v1 : Int32) (v2 : Int32) (v3 : Int32) (v4 : Int32), fX8_nameOf_10 σ n v1 v2 v3 v4 = some r0 → x_J 6 p l e ({ frames := 1, cells := 0, slots := 0, locals := 22 } : Room) s m args below meth c 0 0 (x_IR D s (wM ad cA σ)) (MQ below (x_R (some (.int r0))) args s 0 0 (fun _ => False)) 10 [(0, .ref (ad 0)), (1, .int v1), (2, .int v2), (3, .int v3), (4, .int v4)] [] := by
    intro n
    induction n with
    | zero => intro v1 v2 v3 v4 hf; rw [fX8_nameOf_10] at hf; cases hf
    | succ n ih =>
      intro v1 v2 v3 v4 hf
      rw [fX8_nameOf_10] at hf
      refine xj_iload X 4 dX8_nameOf_10 rfl ?_
      refine xj_aload_n X 0 dX8_nameOf_12 rfl rfl ?_
      refine xj_get X x_IR.P inG_X8 0 (wM_at0 ad cA σ) rfl 2 (by decide) mk3_87 (.int (σ 0 2)) rfl dX8_nameOf_13 ?_
      refine xj_icmp_ge (tgt := 119) X dX8_nameOf_16 rfl hf (fun hf => ?_) (fun hf => ?_)
      · exact xj_sub [2, 3] rfl (B_119 v2 v3 hf)
      · refine xj_aload_n X 0 dX8_nameOf_19 rfl rfl ?_
        refine xj_get X x_IR.P inG_X8 0 (wM_at0 ad cA σ) rfl 4 (by decide) mk3_89 (.ref (ad 3)) rfl dX8_nameOf_20 ?_
        refine xj_iload X 4 dX8_nameOf_23 rfl ?_
        refine xj_iald X x_IR.P 3 (wM_at3 ad cA σ) hf ((σ 3) v4.toNatClampNeg) rfl dX8_nameOf_25 (fun hf => ?_)
        refine xj_aload_n X 0 dX8_nameOf_26 rfl rfl ?_
        refine xj_get X x_IR.P inG_X8 0 (wM_at0 ad cA σ) rfl 4 (by decide) mk3_89 (.ref (ad 3)) rfl dX8_nameOf_27 ?_
        refine xj_iload_n X 1 dX8_nameOf_30 rfl rfl ?_
        refine xj_iald X x_IR.P 3 (wM_at3 ad cA σ) hf ((σ 3) v1.toNatClampNeg) rfl dX8_nameOf_31 (fun hf => ?_)
        refine xj_icmp_le (tgt := 119) X dX8_nameOf_32 rfl hf (fun hf => ?_) (fun hf => ?_)
        · exact xj_sub [2, 3] rfl (B_119 v2 v3 hf)
        · refine xj_aload_n X 0 dX8_nameOf_35 rfl rfl ?_
          refine xj_get X x_IR.P inG_X8 0 (wM_at0 ad cA σ) rfl 4 (by decide) mk3_89 (.ref (ad 3)) rfl dX8_nameOf_36 ?_
          refine xj_iload X 4 dX8_nameOf_39 rfl ?_
          refine xj_iald X x_IR.P 3 (wM_at3 ad cA σ) hf ((σ 3) v4.toNatClampNeg) rfl dX8_nameOf_41 (fun hf => ?_)
          refine xj_aload_n X 0 dX8_nameOf_42 rfl rfl ?_
          refine xj_get X x_IR.P inG_X8 0 (wM_at0 ad cA σ) rfl 4 (by decide) mk3_89 (.ref (ad 3)) rfl dX8_nameOf_43 ?_
          refine xj_iload_n X 1 dX8_nameOf_46 rfl rfl ?_
          refine xj_iald X x_IR.P 3 (wM_at3 ad cA σ) hf ((σ 3) v1.toNatClampNeg) rfl dX8_nameOf_47 (fun hf => ?_)
          refine xj_iconst (x := (1 : Int32)) X dX8_nameOf_48 rfl ?_
          refine xj_iadd X dX8_nameOf_49 ?_
          refine xj_icmp_ne (tgt := 85) X dX8_nameOf_50 rfl hf (fun hf => ?_) (fun hf => ?_)
          · exact (B_85 (fX8_nameOf_10 σ n) ih v1 v2 v3 v4 hf)
          · refine xj_aload_n X 0 dX8_nameOf_53 rfl rfl ?_
            refine xj_get X x_IR.P inG_X8 0 (wM_at0 ad cA σ) rfl 3 (by decide) mk3_88 (.ref (ad 2)) rfl dX8_nameOf_54 ?_
            refine xj_iload X 4 dX8_nameOf_57 rfl ?_
            refine xj_iald X x_IR.P 2 (wM_at2 ad cA σ) hf ((σ 2) v4.toNatClampNeg) rfl dX8_nameOf_59 (fun hf => ?_)
            refine xj_bipush (x := (79 : Int32)) X dX8_nameOf_60 rfl ?_
            refine xj_icmp_ne (tgt := 85) X dX8_nameOf_62 rfl hf (fun hf => ?_) (fun hf => ?_)
            · exact (B_85 (fX8_nameOf_10 σ n) ih v1 v2 v3 v4 hf)
            · refine xj_aload_n X 0 dX8_nameOf_65 rfl rfl ?_
              refine xj_get X x_IR.P inG_X8 0 (wM_at0 ad cA σ) rfl 5 (by decide) mk3_90 (.ref (ad 4)) rfl dX8_nameOf_66 ?_
              refine xj_iload X 4 dX8_nameOf_69 rfl ?_
              refine xj_iald X x_IR.P 4 (wM_at4 ad cA σ) hf ((σ 4) v4.toNatClampNeg) rfl dX8_nameOf_71 (fun hf => ?_)
              refine xj_iconst (x := (5 : Int32)) X dX8_nameOf_72 rfl ?_
              refine xj_bipush (x := (16 : Int32)) X dX8_nameOf_73 rfl ?_
              refine xj_roI (r := b2i (fX8_in ((σ 4) v4.toNatClampNeg) ((5 : Int32)) ((16 : Int32)))) (rest := []) (fun _ h => h) (x_runS X (ctX8_in l D cA ad σ ((σ 4) v4.toNatClampNeg) ((5 : Int32)) ((16 : Int32)) _ rfl) (x_cwS X kwX8_in mk3_201 rfl rfl ⟨Nat.le_of_ble_eq_true rfl, Nat.le_of_ble_eq_true rfl⟩) x_IR.P rfl rfl (Nat.le_of_ble_eq_true rfl) dX8_nameOf_75 ⟨Nat.zero_le _, Nat.zero_le _⟩) ?_
              refine xj_if_eq (tgt := 85) X dX8_nameOf_78 rfl hf (fun hf => ?_) (fun hf => ?_)
              · exact (B_85 (fX8_nameOf_10 σ n) ih v1 v2 v3 v4 hf)
              · refine xj_iconst (x := (1 : Int32)) X dX8_nameOf_81 rfl ?_
                refine xj_goto (tgt := 86) X dX8_nameOf_82 rfl ?_
                exact (B_86 (fX8_nameOf_10 σ n) ih v1 v2 v3 v4 ((1 : Int32)) hf)
  rw [fX8_nameOf] at hf
  refine xj_bipush (x := (-4 : Int32)) X dX8_nameOf_0 rfl ?_
  refine xj_istore_n (lv' := [(2, .int ((-4 : Int32))), (0, .ref (ad 0)), (1, .int p1)]) X dX8_nameOf_2 rfl (Nat.le_of_ble_eq_true rfl) rfl ?_
  refine xj_sub [1, 2, 0] rfl ?_
  refine xj_iconst (x := (0 : Int32)) X dX8_nameOf_3 rfl ?_
  refine xj_istore_n (lv' := [(3, .int ((0 : Int32))), (0, .ref (ad 0)), (1, .int p1), (2, .int ((-4 : Int32)))]) X dX8_nameOf_4 rfl (Nat.le_of_ble_eq_true rfl) rfl ?_
  refine xj_sub [1, 2, 3, 0] rfl ?_
  refine xj_iload_n X 1 dX8_nameOf_5 rfl rfl ?_
  refine xj_iconst (x := (1 : Int32)) X dX8_nameOf_6 rfl ?_
  refine xj_iadd X dX8_nameOf_7 ?_
  refine xj_istore (lv' := [(4, .int (p1 + ((1 : Int32)))), (0, .ref (ad 0)), (1, .int p1), (2, .int ((-4 : Int32))), (3, .int ((0 : Int32)))]) X dX8_nameOf_8 (Nat.le_of_ble_eq_true rfl) rfl ?_
  refine xj_sub [1, 2, 3, 4, 0] rfl ?_
  exact (B_10 x_fuel p1 ((-4 : Int32)) ((0 : Int32)) (p1 + ((1 : Int32))) hf)
set_option maxHeartbeats 4000000 in
set_option maxRecDepth 100000 in
theorem ctX8_priorityByte (l : Launch) (D : va_G) (cA : ClassId) (ad : Nat → Nat) (σ : x_M) (p1 : Int32) (r0 : Int32) (hf : fX8_priorityByte σ p1 = some r0) : Met l yX8_priorityByte zX8_priorityByte ({ frames := 0, cells := 0, slots := 0, locals := 0 } : Room) (x_P D cA [.ref (ad 0), .int p1] (wM ad cA σ)) (x_R (some (.int r0))) 0 0 (fun _ => False) := by
  refine x_met (cc := cX8_priorityByte) (maxL := 3) (ret := (some .int)) RX8 rfl (by decide) rfl [(0, .ref (ad 0)), (1, .int p1)] rfl (Nat.le_of_ble_eq_true rfl) ?_
  intro p e s m args below meth c hr X
  have B_4 : ∀ (n : Nat) (v1 : Int32) (v2 : Int32), fX8_priorityByte_4 σ n v1 v2 = some r0 → x_J 3 p l e ({ frames := 0, cells := 0, slots := 0, locals := 0 } : Room) s m args below meth c 0 0 (x_IR D s (wM ad cA σ)) (MQ below (x_R (some (.int r0))) args s 0 0 (fun _ => False)) 4 [(0, .ref (ad 0)), (1, .int v1), (2, .int v2)] [] := by
    intro n
    induction n with
    | zero => intro v1 v2 hf; rw [fX8_priorityByte_4] at hf; cases hf
    | succ n ih =>
      intro v1 v2 hf
      rw [fX8_priorityByte_4] at hf
      refine xj_iload_n X 2 dX8_priorityByte_4 rfl rfl ?_
      refine xj_aload_n X 0 dX8_priorityByte_5 rfl rfl ?_
      refine xj_get X x_IR.P inG_X8 0 (wM_at0 ad cA σ) rfl 2 (by decide) mk3_87 (.int (σ 0 2)) rfl dX8_priorityByte_6 ?_
      refine xj_icmp_ge (tgt := 84) X dX8_priorityByte_9 rfl hf (fun hf => ?_) (fun hf => ?_)
      · refine xj_iconst (x := (0 : Int32)) X dX8_priorityByte_84 rfl ?_
        exact xj_iret_ro X hr (x_1 hf) dX8_priorityByte_85
      · refine xj_aload_n X 0 dX8_priorityByte_12 rfl rfl ?_
        refine xj_get X x_IR.P inG_X8 0 (wM_at0 ad cA σ) rfl 4 (by decide) mk3_89 (.ref (ad 3)) rfl dX8_priorityByte_13 ?_
        refine xj_iload_n X 2 dX8_priorityByte_16 rfl rfl ?_
        refine xj_iald X x_IR.P 3 (wM_at3 ad cA σ) hf ((σ 3) v2.toNatClampNeg) rfl dX8_priorityByte_17 (fun hf => ?_)
        refine xj_aload_n X 0 dX8_priorityByte_18 rfl rfl ?_
        refine xj_get X x_IR.P inG_X8 0 (wM_at0 ad cA σ) rfl 4 (by decide) mk3_89 (.ref (ad 3)) rfl dX8_priorityByte_19 ?_
        refine xj_iload_n X 1 dX8_priorityByte_22 rfl rfl ?_
        refine xj_iald X x_IR.P 3 (wM_at3 ad cA σ) hf ((σ 3) v1.toNatClampNeg) rfl dX8_priorityByte_23 (fun hf => ?_)
        refine xj_icmp_le (tgt := 84) X dX8_priorityByte_24 rfl hf (fun hf => ?_) (fun hf => ?_)
        · refine xj_iconst (x := (0 : Int32)) X dX8_priorityByte_84 rfl ?_
          exact xj_iret_ro X hr (x_1 hf) dX8_priorityByte_85
        · refine xj_aload_n X 0 dX8_priorityByte_27 rfl rfl ?_
          refine xj_get X x_IR.P inG_X8 0 (wM_at0 ad cA σ) rfl 4 (by decide) mk3_89 (.ref (ad 3)) rfl dX8_priorityByte_28 ?_
          refine xj_iload_n X 2 dX8_priorityByte_31 rfl rfl ?_
          refine xj_iald X x_IR.P 3 (wM_at3 ad cA σ) hf ((σ 3) v2.toNatClampNeg) rfl dX8_priorityByte_32 (fun hf => ?_)
          refine xj_aload_n X 0 dX8_priorityByte_33 rfl rfl ?_
          refine xj_get X x_IR.P inG_X8 0 (wM_at0 ad cA σ) rfl 4 (by decide) mk3_89 (.ref (ad 3)) rfl dX8_priorityByte_34 ?_
          refine xj_iload_n X 1 dX8_priorityByte_37 rfl rfl ?_
          refine xj_iald X x_IR.P 3 (wM_at3 ad cA σ) hf ((σ 3) v1.toNatClampNeg) rfl dX8_priorityByte_38 (fun hf => ?_)
          refine xj_iconst (x := (1 : Int32)) X dX8_priorityByte_39 rfl ?_
          refine xj_iadd X dX8_priorityByte_40 ?_
          refine xj_icmp_ne (tgt := 78) X dX8_priorityByte_41 rfl hf (fun hf => ?_) (fun hf => ?_)
          · refine xj_iinc (y := v2 + (1 : Int32)) (lv' := [(2, .int (v2 + (1 : Int32))), (0, .ref (ad 0)), (1, .int v1)]) X 2 dX8_priorityByte_78 rfl rfl (Nat.le_of_ble_eq_true rfl) rfl ?_
            refine xj_sub [1, 2, 0] rfl ?_
            refine xj_goto (tgt := 4) X dX8_priorityByte_81 rfl ?_
            exact ih v1 (v2 + (1 : Int32)) hf
          · refine xj_aload_n X 0 dX8_priorityByte_44 rfl rfl ?_
            refine xj_get X x_IR.P inG_X8 0 (wM_at0 ad cA σ) rfl 3 (by decide) mk3_88 (.ref (ad 2)) rfl dX8_priorityByte_45 ?_
            refine xj_iload_n X 2 dX8_priorityByte_48 rfl rfl ?_
            refine xj_iald X x_IR.P 2 (wM_at2 ad cA σ) hf ((σ 2) v2.toNatClampNeg) rfl dX8_priorityByte_49 (fun hf => ?_)
            refine xj_sipush (x := (135 : Int32)) X dX8_priorityByte_50 rfl ?_
            refine xj_icmp_ne (tgt := 78) X dX8_priorityByte_53 rfl hf (fun hf => ?_) (fun hf => ?_)
            · refine xj_iinc (y := v2 + (1 : Int32)) (lv' := [(2, .int (v2 + (1 : Int32))), (0, .ref (ad 0)), (1, .int v1)]) X 2 dX8_priorityByte_78 rfl rfl (Nat.le_of_ble_eq_true rfl) rfl ?_
              refine xj_sub [1, 2, 0] rfl ?_
              refine xj_goto (tgt := 4) X dX8_priorityByte_81 rfl ?_
              exact ih v1 (v2 + (1 : Int32)) hf
            · refine xj_aload_n X 0 dX8_priorityByte_56 rfl rfl ?_
              refine xj_get X x_IR.P inG_X8 0 (wM_at0 ad cA σ) rfl 5 (by decide) mk3_90 (.ref (ad 4)) rfl dX8_priorityByte_57 ?_
              refine xj_iload_n X 2 dX8_priorityByte_60 rfl rfl ?_
              refine xj_iald X x_IR.P 4 (wM_at4 ad cA σ) hf ((σ 4) v2.toNatClampNeg) rfl dX8_priorityByte_61 (fun hf => ?_)
              refine xj_iconst (x := (1 : Int32)) X dX8_priorityByte_62 rfl ?_
              refine xj_icmp_ne (tgt := 78) X dX8_priorityByte_63 rfl hf (fun hf => ?_) (fun hf => ?_)
              · refine xj_iinc (y := v2 + (1 : Int32)) (lv' := [(2, .int (v2 + (1 : Int32))), (0, .ref (ad 0)), (1, .int v1)]) X 2 dX8_priorityByte_78 rfl rfl (Nat.le_of_ble_eq_true rfl) rfl ?_
                refine xj_sub [1, 2, 0] rfl ?_
                refine xj_goto (tgt := 4) X dX8_priorityByte_81 rfl ?_
                exact ih v1 (v2 + (1 : Int32)) hf
              · refine xj_aload_n X 0 dX8_priorityByte_66 rfl rfl ?_
                refine xj_get X x_IR.P inG_X8 0 (wM_at0 ad cA σ) rfl 1 (by decide) mk3_86 (.ref (ad 1)) rfl dX8_priorityByte_67 ?_
                refine xj_aload_n X 0 dX8_priorityByte_70 rfl rfl ?_
                refine xj_get X x_IR.P inG_X8 0 (wM_at0 ad cA σ) rfl 6 (by decide) mk3_91 (.ref (ad 5)) rfl dX8_priorityByte_71 ?_
                refine xj_iload_n X 2 dX8_priorityByte_74 rfl rfl ?_
                refine xj_iald X x_IR.P 5 (wM_at5 ad cA σ) hf ((σ 5) v2.toNatClampNeg) rfl dX8_priorityByte_75 (fun hf => ?_)
                refine xj_iald X x_IR.P 1 (wM_at1 ad cA σ) hf ((σ 1) ((σ 5) v2.toNatClampNeg).toNatClampNeg) rfl dX8_priorityByte_76 (fun hf => ?_)
                exact xj_iret_ro X hr (x_1 hf) dX8_priorityByte_77
  rw [fX8_priorityByte] at hf
  refine xj_iload_n X 1 dX8_priorityByte_0 rfl rfl ?_
  refine xj_iconst (x := (1 : Int32)) X dX8_priorityByte_1 rfl ?_
  refine xj_iadd X dX8_priorityByte_2 ?_
  refine xj_istore_n (lv' := [(2, .int (p1 + ((1 : Int32)))), (0, .ref (ad 0)), (1, .int p1)]) X dX8_priorityByte_3 rfl (Nat.le_of_ble_eq_true rfl) rfl ?_
  refine xj_sub [1, 2, 0] rfl ?_
  exact (B_4 x_fuel p1 (p1 + ((1 : Int32))) hf)
