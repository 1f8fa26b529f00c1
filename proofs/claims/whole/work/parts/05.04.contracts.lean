set_option maxHeartbeats 4000000 in
set_option maxRecDepth 100000 in
theorem ctX8_insertCard (l : Launch) (D : va_G) (cA : ClassId) {ad : Nat → Nat} (hj : x_inj 20 ad) (σ : x_M) (r0 : Int32) (σ0 : x_M) (hf : fX8_insertCard σ = some (r0, σ0)) : Met l yX8_insertCard zX8_insertCard ({ frames := 2, cells := 0, slots := 0, locals := 47 } : Room) (x_P D cA [.ref (ad 0)] (wM ad cA σ)) (x_U D (some (.int r0)) (wM ad cA σ0) (x_A 20 ad)) 0 0 (x_A 20 ad) := by
  refine x_met (cc := cX8_insertCard) (maxL := 5) (ret := (some .int)) RX8 rfl (by decide) rfl [(0, .ref (ad 0))] rfl (Nat.le_of_ble_eq_true rfl) ?_
  intro p e s m args below meth c hr X
  have B_235 : ∀ (n : Nat) (σ : x_M) (v2 : Int32), fX8_insertCard_235 n σ v2 = some (r0, σ0) → x_J 5 p l e ({ frames := 2, cells := 0, slots := 0, locals := 47 } : Room) s m args below meth c 0 0 (x_IW D s (x_A 20 ad) (wM ad cA σ)) (MQ below (x_U D (some (.int r0)) (wM ad cA σ0) (x_A 20 ad)) args s 0 0 (x_A 20 ad)) 235 [(0, .ref (ad 0)), (2, .int v2)] [] := by
    intro n
    induction n with
    | zero => intro σ v2 hf; rw [fX8_insertCard_235] at hf; cases hf
    | succ n ih =>
      intro σ v2 hf
      rw [fX8_insertCard_235] at hf
      refine xj_iload_n X 1 dX8_insertCard_235 rfl rfl ?_
      refine xj_iconst (x := (3 : Int32)) X dX8_insertCard_236 rfl ?_
      refine xj_icmp_ge (tgt := 253) X dX8_insertCard_237 rfl hf (fun hf => ?_) (fun hf => ?_)
      · refine xj_aload_n X 0 dX8_insertCard_253 rfl rfl ?_
        refine xj_iconst (x := (0 : Int32)) X dX8_insertCard_254 rfl ?_
        refine xj_put X (wM_D hj cA _) inG_X8 tyX8_ok nmX8 0 (wM_at0 ad cA σ) rfl 14 (by decide) mk3_99 rfl .int rfl rfl rfl (Nat.le_of_ble_eq_true rfl) (wM_st0_14 ad cA σ ((0 : Int32))) dX8_insertCard_255 ?_
        refine xj_aload_n X 0 dX8_insertCard_258 rfl rfl ?_
        refine xj_iconst (x := (1 : Int32)) X dX8_insertCard_259 rfl ?_
        refine xj_put X (wM_D hj cA _) inG_X8 tyX8_ok nmX8 0 (wM_at0 ad cA (up2 σ 0 14 ((0 : Int32)))) rfl 15 (by decide) mk3_100 rfl .boolean rfl rfl rfl (Nat.le_of_ble_eq_true rfl) (wM_st0_15 ad cA (up2 σ 0 14 ((0 : Int32))) ((1 : Int32))) dX8_insertCard_260 ?_
        refine xj_aload_n X 0 dX8_insertCard_263 rfl rfl ?_
        refine xj_bipush (x := (-4 : Int32)) X dX8_insertCard_264 rfl ?_
        refine xj_put X (wM_D hj cA _) inG_X8 tyX8_ok nmX8 0 (wM_at0 ad cA (up2 (up2 σ 0 14 ((0 : Int32))) 0 15 ((1 : Int32)))) rfl 26 (by decide) mk3_111 rfl .int rfl rfl rfl (Nat.le_of_ble_eq_true rfl) (wM_st0_26 ad cA (up2 (up2 σ 0 14 ((0 : Int32))) 0 15 ((1 : Int32))) ((-4 : Int32))) dX8_insertCard_266 ?_
        refine xj_aload_n X 0 dX8_insertCard_269 rfl rfl ?_
        refine xj_get X x_IW.P inG_X8 0 (wM_at0 ad cA (up2 (up2 (up2 σ 0 14 ((0 : Int32))) 0 15 ((1 : Int32))) 0 26 ((-4 : Int32)))) rfl 8 (by decide) mk3_93 (.int (σ 0 8)) rfl dX8_insertCard_270 ?_
        exact xj_iret_wr X hr (x_2a hf) (congrArg (wM ad cA) (x_2b hf)) dX8_insertCard_273
      · refine xj_aload_n X 0 dX8_insertCard_240 rfl rfl ?_
        refine xj_get X x_IW.P inG_X8 0 (wM_at0 ad cA σ) rfl 13 (by decide) mk3_98 (.ref (ad 11)) rfl dX8_insertCard_241 ?_
        refine xj_iload_n X 1 dX8_insertCard_244 rfl rfl ?_
        refine xj_iconst (x := (0 : Int32)) X dX8_insertCard_245 rfl ?_
        refine xj_iast X (wM_D hj cA _) 11 (wM_at11 ad cA σ) hf (wM_ar11 ad cA σ v2.toNatClampNeg ((0 : Int32))) dX8_insertCard_246 (fun hf => ?_)
        refine xj_iinc (y := v2 + (1 : Int32)) (lv' := [(2, .int (v2 + (1 : Int32))), (0, .ref (ad 0))]) X 1 dX8_insertCard_247 rfl rfl (Nat.le_of_ble_eq_true rfl) rfl ?_
        refine xj_sub [1, 0] rfl ?_
        refine xj_goto (tgt := 235) X dX8_insertCard_250 rfl ?_
        exact ih (up2 σ 11 v2.toNatClampNeg ((0 : Int32))) (v2 + (1 : Int32)) hf
  have B_121 : ∀ (K82 : x_M → Int32 → Option (Int32 × x_M)) (_ : ∀ (σ : x_M) (v2 : Int32), K82 σ v2 = some (r0, σ0) → x_J 5 p l e ({ frames := 2, cells := 0, slots := 0, locals := 47 } : Room) s m args below meth c 0 0 (x_IW D s (x_A 20 ad) (wM ad cA σ)) (MQ below (x_U D (some (.int r0)) (wM ad cA σ0) (x_A 20 ad)) args s 0 0 (x_A 20 ad)) 82 [(0, .ref (ad 0)), (2, .int v2)] []) (n : Nat) (σ : x_M) (v2 : Int32) (v3 : Int32) (v4 : Int32), fX8_insertCard_121 K82 n σ v2 v3 v4 = some (r0, σ0) → x_J 5 p l e ({ frames := 2, cells := 0, slots := 0, locals := 47 } : Room) s m args below meth c 0 0 (x_IW D s (x_A 20 ad) (wM ad cA σ)) (MQ below (x_U D (some (.int r0)) (wM ad cA σ0) (x_A 20 ad)) args s 0 0 (x_A 20 ad)) 121 [(0, .ref (ad 0)), (2, .int v2), (3, .int v3), (4, .int v4)] [] := by
    intro K82 hK82 n
    induction n with
    | zero => intro σ v2 v3 v4 hf; rw [fX8_insertCard_121] at hf; cases hf
    | succ n ih =>
      intro σ v2 v3 v4 hf
      rw [fX8_insertCard_121] at hf
      refine xj_iload X 3 dX8_insertCard_121 rfl ?_
      refine xj_aload_n X 0 dX8_insertCard_123 rfl rfl ?_
      refine xj_get X x_IW.P inG_X8 0 (wM_at0 ad cA σ) rfl 5 (by decide) mk3_90 (.ref (ad 4)) rfl dX8_insertCard_124 ?_
      refine xj_iload_n X 2 dX8_insertCard_127 rfl rfl ?_
      refine xj_iald X x_IW.P 4 (wM_at4 ad cA σ) hf ((σ 4) v3.toNatClampNeg) rfl dX8_insertCard_128 (fun hf => ?_)
      refine xj_icmp_ge (tgt := 167) X dX8_insertCard_129 rfl hf (fun hf => ?_) (fun hf => ?_)
      · refine xj_aload_n X 0 dX8_insertCard_167 rfl rfl ?_
        refine xj_get X x_IW.P inG_X8 0 (wM_at0 ad cA σ) rfl 10 (by decide) mk3_95 (.ref (ad 8)) rfl dX8_insertCard_168 ?_
        refine xj_aload_n X 0 dX8_insertCard_171 rfl rfl ?_
        refine xj_get X x_IW.P inG_X8 0 (wM_at0 ad cA σ) rfl 8 (by decide) mk3_93 (.int (σ 0 8)) rfl dX8_insertCard_172 ?_
        refine xj_aload_n X 0 dX8_insertCard_175 rfl rfl ?_
        refine xj_get X x_IW.P inG_X8 0 (wM_at0 ad cA σ) rfl 5 (by decide) mk3_90 (.ref (ad 4)) rfl dX8_insertCard_176 ?_
        refine xj_iload_n X 2 dX8_insertCard_179 rfl rfl ?_
        refine xj_iald X x_IW.P 4 (wM_at4 ad cA σ) hf ((σ 4) v3.toNatClampNeg) rfl dX8_insertCard_180 (fun hf => ?_)
        refine xj_iast X (wM_D hj cA _) 8 (wM_at8 ad cA σ) hf (wM_ar8 ad cA σ (σ 0 8).toNatClampNeg ((σ 4) v3.toNatClampNeg)) dX8_insertCard_181 (fun hf => ?_)
        refine xj_aload_n X 0 dX8_insertCard_182 rfl rfl ?_
        refine xj_iload_n X 1 dX8_insertCard_183 rfl rfl ?_
        obtain ⟨x2_184, hx2_184, hf⟩ := x_bind hf
        refine xj_roI (r := x2_184) (rest := []) (fun _ h => h) (x_runV X (ctX8_priorityByte l D cA ad (up2 σ 8 (σ 0 8).toNatClampNeg ((σ 4) v3.toNatClampNeg)) v2 _ hx2_184) (x_cwV X kwX8_priorityByte mk4_8 rfl rfl ⟨Nat.le_of_ble_eq_true rfl, Nat.le_of_ble_eq_true rfl⟩) x_IW.P 0 (wM_at0 ad cA (up2 σ 8 (σ 0 8).toNatClampNeg ((σ 4) v3.toNatClampNeg))) rfl rfl rfl (Nat.le_of_ble_eq_true rfl) dX8_insertCard_184 ⟨Nat.zero_le _, Nat.zero_le _⟩) ?_
        refine xj_istore (lv' := [(4, .int x2_184), (0, .ref (ad 0)), (2, .int v2), (3, .int v3)]) X dX8_insertCard_187 (Nat.le_of_ble_eq_true rfl) rfl ?_
        refine xj_sub [1, 2, 3, 0] rfl ?_
        refine xj_aload_n X 0 dX8_insertCard_189 rfl rfl ?_
        refine xj_get X x_IW.P inG_X8 0 (wM_at0 ad cA (up2 σ 8 (σ 0 8).toNatClampNeg ((σ 4) v3.toNatClampNeg))) rfl 11 (by decide) mk3_96 (.ref (ad 9)) rfl dX8_insertCard_190 ?_
        refine xj_aload_n X 0 dX8_insertCard_193 rfl rfl ?_
        refine xj_get X x_IW.P inG_X8 0 (wM_at0 ad cA (up2 σ 8 (σ 0 8).toNatClampNeg ((σ 4) v3.toNatClampNeg))) rfl 8 (by decide) mk3_93 (.int (σ 0 8)) rfl dX8_insertCard_194 ?_
        refine xj_iload X 3 dX8_insertCard_197 rfl ?_
        refine xj_bipush (x := (15 : Int32)) X dX8_insertCard_199 rfl ?_
        refine xj_iand X dX8_insertCard_201 ?_
        refine xj_iast X (wM_D hj cA _) 9 (wM_at9 ad cA (up2 σ 8 (σ 0 8).toNatClampNeg ((σ 4) v3.toNatClampNeg))) hf (wM_ar9 ad cA (up2 σ 8 (σ 0 8).toNatClampNeg ((σ 4) v3.toNatClampNeg)) (σ 0 8).toNatClampNeg (x2_184 &&& ((15 : Int32)))) dX8_insertCard_202 (fun hf => ?_)
        refine xj_aload_n X 0 dX8_insertCard_203 rfl rfl ?_
        refine xj_get X x_IW.P inG_X8 0 (wM_at0 ad cA (up2 (up2 σ 8 (σ 0 8).toNatClampNeg ((σ 4) v3.toNatClampNeg)) 9 (σ 0 8).toNatClampNeg (x2_184 &&& ((15 : Int32))))) rfl 12 (by decide) mk3_97 (.ref (ad 10)) rfl dX8_insertCard_204 ?_
        refine xj_aload_n X 0 dX8_insertCard_207 rfl rfl ?_
        refine xj_get X x_IW.P inG_X8 0 (wM_at0 ad cA (up2 (up2 σ 8 (σ 0 8).toNatClampNeg ((σ 4) v3.toNatClampNeg)) 9 (σ 0 8).toNatClampNeg (x2_184 &&& ((15 : Int32))))) rfl 8 (by decide) mk3_93 (.int (σ 0 8)) rfl dX8_insertCard_208 ?_
        refine xj_iload X 3 dX8_insertCard_211 rfl ?_
        refine xj_bipush (x := (7 : Int32)) X dX8_insertCard_213 rfl ?_
        refine xj_ishr X dX8_insertCard_215 ?_
        refine xj_iast X (wM_D hj cA _) 10 (wM_at10 ad cA (up2 (up2 σ 8 (σ 0 8).toNatClampNeg ((σ 4) v3.toNatClampNeg)) 9 (σ 0 8).toNatClampNeg (x2_184 &&& ((15 : Int32))))) hf (wM_ar10 ad cA (up2 (up2 σ 8 (σ 0 8).toNatClampNeg ((σ 4) v3.toNatClampNeg)) 9 (σ 0 8).toNatClampNeg (x2_184 &&& ((15 : Int32)))) (σ 0 8).toNatClampNeg (x2_184 >>> (((7 : Int32)) &&& 31))) dX8_insertCard_216 (fun hf => ?_)
        refine xj_aload_n X 0 dX8_insertCard_217 rfl rfl ?_
        refine xj_dup X dX8_insertCard_218 rfl ?_
        refine xj_get X x_IW.P inG_X8 0 (wM_at0 ad cA (up2 (up2 (up2 σ 8 (σ 0 8).toNatClampNeg ((σ 4) v3.toNatClampNeg)) 9 (σ 0 8).toNatClampNeg (x2_184 &&& ((15 : Int32)))) 10 (σ 0 8).toNatClampNeg (x2_184 >>> (((7 : Int32)) &&& 31)))) rfl 8 (by decide) mk3_93 (.int (σ 0 8)) rfl dX8_insertCard_219 ?_
        refine xj_iconst (x := (1 : Int32)) X dX8_insertCard_222 rfl ?_
        refine xj_iadd X dX8_insertCard_223 ?_
        refine xj_put X (wM_D hj cA _) inG_X8 tyX8_ok nmX8 0 (wM_at0 ad cA (up2 (up2 (up2 σ 8 (σ 0 8).toNatClampNeg ((σ 4) v3.toNatClampNeg)) 9 (σ 0 8).toNatClampNeg (x2_184 &&& ((15 : Int32)))) 10 (σ 0 8).toNatClampNeg (x2_184 >>> (((7 : Int32)) &&& 31)))) rfl 8 (by decide) mk3_93 rfl .int rfl rfl rfl (Nat.le_of_ble_eq_true rfl) (wM_st0_8 ad cA (up2 (up2 (up2 σ 8 (σ 0 8).toNatClampNeg ((σ 4) v3.toNatClampNeg)) 9 (σ 0 8).toNatClampNeg (x2_184 &&& ((15 : Int32)))) 10 (σ 0 8).toNatClampNeg (x2_184 >>> (((7 : Int32)) &&& 31))) ((σ 0 8) + ((1 : Int32)))) dX8_insertCard_224 ?_
        refine xj_iinc (y := v2 + (1 : Int32)) (lv' := [(2, .int (v2 + (1 : Int32))), (0, .ref (ad 0)), (3, .int v3), (4, .int x2_184)]) X 1 dX8_insertCard_227 rfl rfl (Nat.le_of_ble_eq_true rfl) rfl ?_
        refine xj_sub [1, 0, 2, 3] rfl ?_
        refine xj_goto (tgt := 82) X dX8_insertCard_230 rfl ?_
        exact xj_sub [0, 1] rfl (hK82 (up2 (up2 (up2 (up2 σ 8 (σ 0 8).toNatClampNeg ((σ 4) v3.toNatClampNeg)) 9 (σ 0 8).toNatClampNeg (x2_184 &&& ((15 : Int32)))) 10 (σ 0 8).toNatClampNeg (x2_184 >>> (((7 : Int32)) &&& 31))) 0 8 ((σ 0 8) + ((1 : Int32)))) (v2 + (1 : Int32)) hf)
      · refine xj_aload_n X 0 dX8_insertCard_132 rfl rfl ?_
        refine xj_get X x_IW.P inG_X8 0 (wM_at0 ad cA σ) rfl 9 (by decide) mk3_94 (.ref (ad 7)) rfl dX8_insertCard_133 ?_
        refine xj_bipush (x := (16 : Int32)) X dX8_insertCard_136 rfl ?_
        refine xj_aload_n X 0 dX8_insertCard_138 rfl rfl ?_
        refine xj_get X x_IW.P inG_X8 0 (wM_at0 ad cA σ) rfl 8 (by decide) mk3_93 (.int (σ 0 8)) rfl dX8_insertCard_139 ?_
        refine xj_imul X dX8_insertCard_142 ?_
        refine xj_iload X 3 dX8_insertCard_143 rfl ?_
        refine xj_iadd X dX8_insertCard_145 ?_
        refine xj_aload_n X 0 dX8_insertCard_146 rfl rfl ?_
        refine xj_get X x_IW.P inG_X8 0 (wM_at0 ad cA σ) rfl 1 (by decide) mk3_86 (.ref (ad 1)) rfl dX8_insertCard_147 ?_
        refine xj_aload_n X 0 dX8_insertCard_150 rfl rfl ?_
        refine xj_get X x_IW.P inG_X8 0 (wM_at0 ad cA σ) rfl 6 (by decide) mk3_91 (.ref (ad 5)) rfl dX8_insertCard_151 ?_
        refine xj_iload_n X 2 dX8_insertCard_154 rfl rfl ?_
        refine xj_iald X x_IW.P 5 (wM_at5 ad cA σ) hf ((σ 5) v3.toNatClampNeg) rfl dX8_insertCard_155 (fun hf => ?_)
        refine xj_iload X 3 dX8_insertCard_156 rfl ?_
        refine xj_iadd X dX8_insertCard_158 ?_
        refine xj_iald X x_IW.P 1 (wM_at1 ad cA σ) hf ((σ 1) (((σ 5) v3.toNatClampNeg) + v4).toNatClampNeg) rfl dX8_insertCard_159 (fun hf => ?_)
        refine xj_iast X (wM_D hj cA _) 7 (wM_at7 ad cA σ) hf (wM_ar7 ad cA σ ((((16 : Int32)) * (σ 0 8)) + v4).toNatClampNeg ((σ 1) (((σ 5) v3.toNatClampNeg) + v4).toNatClampNeg)) dX8_insertCard_160 (fun hf => ?_)
        refine xj_iinc (y := v4 + (1 : Int32)) (lv' := [(4, .int (v4 + (1 : Int32))), (0, .ref (ad 0)), (2, .int v2), (3, .int v3)]) X 3 dX8_insertCard_161 rfl rfl (Nat.le_of_ble_eq_true rfl) rfl ?_
        refine xj_sub [1, 2, 3, 0] rfl ?_
        refine xj_goto (tgt := 121) X dX8_insertCard_164 rfl ?_
        exact ih (up2 σ 7 ((((16 : Int32)) * (σ 0 8)) + v4).toNatClampNeg ((σ 1) (((σ 5) v3.toNatClampNeg) + v4).toNatClampNeg)) v2 v3 (v4 + (1 : Int32)) hf
  have B_111 : ∀ (K82 : x_M → Int32 → Option (Int32 × x_M)) (_ : ∀ (σ : x_M) (v2 : Int32), K82 σ v2 = some (r0, σ0) → x_J 5 p l e ({ frames := 2, cells := 0, slots := 0, locals := 47 } : Room) s m args below meth c 0 0 (x_IW D s (x_A 20 ad) (wM ad cA σ)) (MQ below (x_U D (some (.int r0)) (wM ad cA σ0) (x_A 20 ad)) args s 0 0 (x_A 20 ad)) 82 [(0, .ref (ad 0)), (2, .int v2)] []) (σ : x_M) (v2 : Int32) (w0 : Int32), fX8_insertCard_111 K82 σ v2 w0 = some (r0, σ0) → x_J 5 p l e ({ frames := 2, cells := 0, slots := 0, locals := 47 } : Room) s m args below meth c 0 0 (x_IW D s (x_A 20 ad) (wM ad cA σ)) (MQ below (x_U D (some (.int r0)) (wM ad cA σ0) (x_A 20 ad)) args s 0 0 (x_A 20 ad)) 111 [(0, .ref (ad 0)), (2, .int v2)] [.int w0] := by
    intro K82 hK82 σ v2 w0 hf
    rw [fX8_insertCard_111] at hf
    refine xj_istore_n (lv' := [(3, .int w0), (0, .ref (ad 0)), (2, .int v2)]) X dX8_insertCard_111 rfl (Nat.le_of_ble_eq_true rfl) rfl ?_
    refine xj_sub [1, 2, 0] rfl ?_
    refine xj_iload_n X 2 dX8_insertCard_112 rfl rfl ?_
    refine xj_bipush (x := (-4 : Int32)) X dX8_insertCard_113 rfl ?_
    refine xj_icmp_eq (tgt := 227) X dX8_insertCard_115 rfl hf (fun hf => ?_) (fun hf => ?_)
    · refine xj_iinc (y := v2 + (1 : Int32)) (lv' := [(2, .int (v2 + (1 : Int32))), (0, .ref (ad 0)), (3, .int w0)]) X 1 dX8_insertCard_227 rfl rfl (Nat.le_of_ble_eq_true rfl) rfl ?_
      refine xj_sub [1, 0, 2] rfl ?_
      refine xj_goto (tgt := 82) X dX8_insertCard_230 rfl ?_
      exact xj_sub [0, 1] rfl (hK82 σ (v2 + (1 : Int32)) hf)
    · refine xj_iconst (x := (0 : Int32)) X dX8_insertCard_118 rfl ?_
      refine xj_istore (lv' := [(4, .int ((0 : Int32))), (0, .ref (ad 0)), (2, .int v2), (3, .int w0)]) X dX8_insertCard_119 (Nat.le_of_ble_eq_true rfl) rfl ?_
      refine xj_sub [1, 2, 3, 0] rfl ?_
      exact (B_121 K82 hK82 x_fuel σ v2 w0 ((0 : Int32)) hf)
  have B_82 : ∀ (n : Nat) (σ : x_M) (v2 : Int32), fX8_insertCard_82 n σ v2 = some (r0, σ0) → x_J 5 p l e ({ frames := 2, cells := 0, slots := 0, locals := 47 } : Room) s m args below meth c 0 0 (x_IW D s (x_A 20 ad) (wM ad cA σ)) (MQ below (x_U D (some (.int r0)) (wM ad cA σ0) (x_A 20 ad)) args s 0 0 (x_A 20 ad)) 82 [(0, .ref (ad 0)), (2, .int v2)] [] := by
    intro n
    induction n with
    | zero => intro σ v2 hf; rw [fX8_insertCard_82] at hf; cases hf
    | succ n ih =>
      intro σ v2 hf
      rw [fX8_insertCard_82] at hf
      refine xj_iload_n X 1 dX8_insertCard_82 rfl rfl ?_
      refine xj_aload_n X 0 dX8_insertCard_83 rfl rfl ?_
      refine xj_get X x_IW.P inG_X8 0 (wM_at0 ad cA σ) rfl 2 (by decide) mk3_87 (.int (σ 0 2)) rfl dX8_insertCard_84 ?_
      refine xj_icmp_ge (tgt := 233) X dX8_insertCard_87 rfl hf (fun hf => ?_) (fun hf => ?_)
      · refine xj_iconst (x := (0 : Int32)) X dX8_insertCard_233 rfl ?_
        refine xj_istore_n (lv' := [(2, .int ((0 : Int32))), (0, .ref (ad 0))]) X dX8_insertCard_234 rfl (Nat.le_of_ble_eq_true rfl) rfl ?_
        refine xj_sub [1, 0] rfl ?_
        exact (B_235 x_fuel σ ((0 : Int32)) hf)
      · refine xj_aload_n X 0 dX8_insertCard_90 rfl rfl ?_
        refine xj_get X x_IW.P inG_X8 0 (wM_at0 ad cA σ) rfl 3 (by decide) mk3_88 (.ref (ad 2)) rfl dX8_insertCard_91 ?_
        refine xj_iload_n X 1 dX8_insertCard_94 rfl rfl ?_
        refine xj_iald X x_IW.P 2 (wM_at2 ad cA σ) hf ((σ 2) v2.toNatClampNeg) rfl dX8_insertCard_95 (fun hf => ?_)
        refine xj_bipush (x := (97 : Int32)) X dX8_insertCard_96 rfl ?_
        refine xj_icmp_ne (tgt := 109) X dX8_insertCard_98 rfl hf (fun hf => ?_) (fun hf => ?_)
        · refine xj_bipush (x := (-4 : Int32)) X dX8_insertCard_109 rfl ?_
          exact (B_111 (fX8_insertCard_82 n) ih σ v2 ((-4 : Int32)) hf)
        · refine xj_aload_n X 0 dX8_insertCard_101 rfl rfl ?_
          refine xj_iload_n X 1 dX8_insertCard_102 rfl rfl ?_
          obtain ⟨x3_103, hx3_103, hf⟩ := x_bind hf
          refine xj_roI (r := x3_103) (rest := []) (fun _ h => h) (x_runV X (ctX8_nameOf l D cA ad σ v2 _ hx3_103) (x_cwV X kwX8_nameOf mk4_4 rfl rfl ⟨Nat.le_of_ble_eq_true rfl, Nat.le_of_ble_eq_true rfl⟩) x_IW.P 0 (wM_at0 ad cA σ) rfl rfl rfl (Nat.le_of_ble_eq_true rfl) dX8_insertCard_103 ⟨Nat.zero_le _, Nat.zero_le _⟩) ?_
          refine xj_goto (tgt := 111) X dX8_insertCard_106 rfl ?_
          exact (B_111 (fX8_insertCard_82 n) ih σ v2 x3_103 hf)
  have B_23 : ∀ (n : Nat) (σ : x_M) (v1 : Int32) (v2 : Int32), fX8_insertCard_23 n σ v1 v2 = some (r0, σ0) → x_J 5 p l e ({ frames := 2, cells := 0, slots := 0, locals := 47 } : Room) s m args below meth c 0 0 (x_IW D s (x_A 20 ad) (wM ad cA σ)) (MQ below (x_U D (some (.int r0)) (wM ad cA σ0) (x_A 20 ad)) args s 0 0 (x_A 20 ad)) 23 [(0, .ref (ad 0)), (1, .int v1), (2, .int v2)] [] := by
    intro n
    induction n with
    | zero => intro σ v1 v2 hf; rw [fX8_insertCard_23] at hf; cases hf
    | succ n ih =>
      intro σ v1 v2 hf
      rw [fX8_insertCard_23] at hf
      refine xj_iload_n X 2 dX8_insertCard_23 rfl rfl ?_
      refine xj_aload_n X 0 dX8_insertCard_24 rfl rfl ?_
      refine xj_get X x_IW.P inG_X8 0 (wM_at0 ad cA σ) rfl 2 (by decide) mk3_87 (.int (σ 0 2)) rfl dX8_insertCard_25 ?_
      refine xj_icmp_ge (tgt := 66) X dX8_insertCard_28 rfl hf (fun hf => ?_) (fun hf => ?_)
      · refine xj_iload_n X 1 dX8_insertCard_66 rfl rfl ?_
        refine xj_bipush (x := (6 : Int32)) X dX8_insertCard_67 rfl ?_
        refine xj_icmp_le (tgt := 75) X dX8_insertCard_69 rfl hf (fun hf => ?_) (fun hf => ?_)
        · refine xj_aload_n X 0 dX8_insertCard_75 rfl rfl ?_
          refine xj_iconst (x := (0 : Int32)) X dX8_insertCard_76 rfl ?_
          refine xj_put X (wM_D hj cA _) inG_X8 tyX8_ok nmX8 0 (wM_at0 ad cA σ) rfl 8 (by decide) mk3_93 rfl .int rfl rfl rfl (Nat.le_of_ble_eq_true rfl) (wM_st0_8 ad cA σ ((0 : Int32))) dX8_insertCard_77 ?_
          refine xj_iconst (x := (0 : Int32)) X dX8_insertCard_80 rfl ?_
          refine xj_istore_n (lv' := [(2, .int ((0 : Int32))), (0, .ref (ad 0)), (1, .int v1)]) X dX8_insertCard_81 rfl (Nat.le_of_ble_eq_true rfl) rfl ?_
          refine xj_sub [1, 2, 0] rfl ?_
          exact xj_sub [0, 2] rfl (B_82 x_fuel (up2 σ 0 8 ((0 : Int32))) ((0 : Int32)) hf)
        · refine xj_bipush (x := (-3 : Int32)) X dX8_insertCard_72 rfl ?_
          exact xj_iret_wr X hr (x_2a hf) (congrArg (wM ad cA) (x_2b hf)) dX8_insertCard_74
      · refine xj_iload_n X 1 dX8_insertCard_31 rfl rfl ?_
        refine xj_aload_n X 0 dX8_insertCard_32 rfl rfl ?_
        refine xj_get X x_IW.P inG_X8 0 (wM_at0 ad cA σ) rfl 3 (by decide) mk3_88 (.ref (ad 2)) rfl dX8_insertCard_33 ?_
        refine xj_iload_n X 2 dX8_insertCard_36 rfl rfl ?_
        refine xj_iald X x_IW.P 2 (wM_at2 ad cA σ) hf ((σ 2) v2.toNatClampNeg) rfl dX8_insertCard_37 (fun hf => ?_)
        refine xj_bipush (x := (97 : Int32)) X dX8_insertCard_38 rfl ?_
        refine xj_icmp_ne (tgt := 57) X dX8_insertCard_40 rfl hf (fun hf => ?_) (fun hf => ?_)
        · refine xj_iconst (x := (0 : Int32)) X dX8_insertCard_57 rfl ?_
          refine xj_iadd X dX8_insertCard_58 ?_
          refine xj_istore_n (lv' := [(1, .int (v1 + ((0 : Int32)))), (0, .ref (ad 0)), (2, .int v2)]) X dX8_insertCard_59 rfl (Nat.le_of_ble_eq_true rfl) rfl ?_
          refine xj_sub [1, 0, 2] rfl ?_
          refine xj_iinc (y := v2 + (1 : Int32)) (lv' := [(2, .int (v2 + (1 : Int32))), (0, .ref (ad 0)), (1, .int (v1 + ((0 : Int32))))]) X 2 dX8_insertCard_60 rfl rfl (Nat.le_of_ble_eq_true rfl) rfl ?_
          refine xj_sub [1, 2, 0] rfl ?_
          refine xj_goto (tgt := 23) X dX8_insertCard_63 rfl ?_
          exact ih σ (v1 + ((0 : Int32))) (v2 + (1 : Int32)) hf
        · refine xj_aload_n X 0 dX8_insertCard_43 rfl rfl ?_
          refine xj_iload_n X 2 dX8_insertCard_44 rfl rfl ?_
          obtain ⟨x4_45, hx4_45, hf⟩ := x_bind hf
          refine xj_roI (r := x4_45) (rest := [.int v1]) (fun _ h => h) (x_runV X (ctX8_nameOf l D cA ad σ v2 _ hx4_45) (x_cwV X kwX8_nameOf mk4_4 rfl rfl ⟨Nat.le_of_ble_eq_true rfl, Nat.le_of_ble_eq_true rfl⟩) x_IW.P 0 (wM_at0 ad cA σ) rfl rfl rfl (Nat.le_of_ble_eq_true rfl) dX8_insertCard_45 ⟨Nat.zero_le _, Nat.zero_le _⟩) ?_
          refine xj_bipush (x := (-4 : Int32)) X dX8_insertCard_48 rfl ?_
          refine xj_icmp_eq (tgt := 57) X dX8_insertCard_50 rfl hf (fun hf => ?_) (fun hf => ?_)
          · refine xj_iconst (x := (0 : Int32)) X dX8_insertCard_57 rfl ?_
            refine xj_iadd X dX8_insertCard_58 ?_
            refine xj_istore_n (lv' := [(1, .int (v1 + ((0 : Int32)))), (0, .ref (ad 0)), (2, .int v2)]) X dX8_insertCard_59 rfl (Nat.le_of_ble_eq_true rfl) rfl ?_
            refine xj_sub [1, 0, 2] rfl ?_
            refine xj_iinc (y := v2 + (1 : Int32)) (lv' := [(2, .int (v2 + (1 : Int32))), (0, .ref (ad 0)), (1, .int (v1 + ((0 : Int32))))]) X 2 dX8_insertCard_60 rfl rfl (Nat.le_of_ble_eq_true rfl) rfl ?_
            refine xj_sub [1, 2, 0] rfl ?_
            refine xj_goto (tgt := 23) X dX8_insertCard_63 rfl ?_
            exact ih σ (v1 + ((0 : Int32))) (v2 + (1 : Int32)) hf
          · refine xj_iconst (x := (1 : Int32)) X dX8_insertCard_53 rfl ?_
            refine xj_goto (tgt := 58) X dX8_insertCard_54 rfl ?_
            refine xj_iadd X dX8_insertCard_58 ?_
            refine xj_istore_n (lv' := [(1, .int (v1 + ((1 : Int32)))), (0, .ref (ad 0)), (2, .int v2)]) X dX8_insertCard_59 rfl (Nat.le_of_ble_eq_true rfl) rfl ?_
            refine xj_sub [1, 0, 2] rfl ?_
            refine xj_iinc (y := v2 + (1 : Int32)) (lv' := [(2, .int (v2 + (1 : Int32))), (0, .ref (ad 0)), (1, .int (v1 + ((1 : Int32))))]) X 2 dX8_insertCard_60 rfl rfl (Nat.le_of_ble_eq_true rfl) rfl ?_
            refine xj_sub [1, 2, 0] rfl ?_
            refine xj_goto (tgt := 23) X dX8_insertCard_63 rfl ?_
            exact ih σ (v1 + ((1 : Int32))) (v2 + (1 : Int32)) hf
  refine xj_w (A := x_A 20 ad) ?_
  rw [fX8_insertCard] at hf
  refine xj_aload_n X 0 dX8_insertCard_0 rfl rfl ?_
  obtain ⟨x1_1, hx1_1, hf⟩ := x_bind hf
  refine xj_wrI (r := x1_1.1) (rest := []) (x_runV X (ctX8_reads l D cA hj σ x1_1.1 x1_1.2 hx1_1) (x_cwV X kwX8_reads mk3_212 rfl rfl ⟨Nat.le_of_ble_eq_true rfl, Nat.le_of_ble_eq_true rfl⟩) x_IW.P 0 (wM_at0 ad cA σ) rfl rfl rfl (Nat.le_of_ble_eq_true rfl) dX8_insertCard_1 ⟨Nat.zero_le _, Nat.zero_le _⟩) (fun _ _ _ h _ => h) (fun _ h => h) ?_
  refine xj_bipush (x := (-4 : Int32)) X dX8_insertCard_4 rfl ?_
  refine xj_icmp_ne (tgt := 16) X dX8_insertCard_6 rfl hf (fun hf => ?_) (fun hf => ?_)
  · refine xj_bipush (x := (-2 : Int32)) X dX8_insertCard_16 rfl ?_
    exact xj_iret_wr X hr (x_2a hf) (congrArg (wM ad cA) (x_2b hf)) dX8_insertCard_18
  · refine xj_aload_n X 0 dX8_insertCard_9 rfl rfl ?_
    refine xj_get X x_IW.P inG_X8 0 (wM_at0 ad cA x1_1.2) rfl 30 (by decide) mk3_115 (.int (x1_1.2 0 30)) rfl dX8_insertCard_10 ?_
    refine xj_if_eq (tgt := 19) X dX8_insertCard_13 rfl hf (fun hf => ?_) (fun hf => ?_)
    · refine xj_iconst (x := (0 : Int32)) X dX8_insertCard_19 rfl ?_
      refine xj_istore_n (lv' := [(1, .int ((0 : Int32))), (0, .ref (ad 0))]) X dX8_insertCard_20 rfl (Nat.le_of_ble_eq_true rfl) rfl ?_
      refine xj_sub [1, 0] rfl ?_
      refine xj_iconst (x := (0 : Int32)) X dX8_insertCard_21 rfl ?_
      refine xj_istore_n (lv' := [(2, .int ((0 : Int32))), (0, .ref (ad 0)), (1, .int ((0 : Int32)))]) X dX8_insertCard_22 rfl (Nat.le_of_ble_eq_true rfl) rfl ?_
      refine xj_sub [1, 2, 0] rfl ?_
      exact (B_23 x_fuel x1_1.2 ((0 : Int32)) ((0 : Int32)) hf)
    · refine xj_bipush (x := (-2 : Int32)) X dX8_insertCard_16 rfl ?_
      exact xj_iret_wr X hr (x_2a hf) (congrArg (wM ad cA) (x_2b hf)) dX8_insertCard_18
set_option maxHeartbeats 4000000 in
set_option maxRecDepth 100000 in
theorem ctX8_isApplication (l : Launch) (D : va_G) (cA : ClassId) (ad : Nat → Nat) (σ : x_M) (p1 : Int32) (r0 : Bool) (hf : fX8_isApplication σ p1 = r0) : Met l yX8_isApplication zX8_isApplication ({ frames := 1, cells := 0, slots := 0, locals := 22 } : Room) (x_P D cA [.ref (ad 0), .int p1] (wM ad cA σ)) (x_R (some (.int (b2i r0)))) 0 0 (fun _ => False) := by
  refine x_met (cc := cX8_isApplication) (maxL := 2) (ret := (some .boolean)) RX8 rfl (by decide) rfl [(0, .ref (ad 0)), (1, .int p1)] rfl (Nat.le_of_ble_eq_true rfl) ?_
  intro p e s m args below meth c hr X
  rw [fX8_isApplication] at hf
  refine xj_iload_n X 1 dX8_isApplication_0 rfl rfl ?_
  refine xj_iconst (x := (0 : Int32)) X dX8_isApplication_1 rfl ?_
  refine xj_aload_n X 0 dX8_isApplication_2 rfl rfl ?_
  refine xj_get X x_IR.P inG_X8 0 (wM_at0 ad cA σ) rfl 8 (by decide) mk3_93 (.int (σ 0 8)) rfl dX8_isApplication_3 ?_
  refine xj_iconst (x := (1 : Int32)) X dX8_isApplication_6 rfl ?_
  refine xj_isub X dX8_isApplication_7 ?_
  refine xj_roI (r := b2i (fX8_in p1 ((0 : Int32)) ((σ 0 8) - ((1 : Int32))))) (rest := []) (fun _ h => h) (x_runS X (ctX8_in l D cA ad σ p1 ((0 : Int32)) ((σ 0 8) - ((1 : Int32))) _ rfl) (x_cwS X kwX8_in mk3_201 rfl rfl ⟨Nat.le_of_ble_eq_true rfl, Nat.le_of_ble_eq_true rfl⟩) x_IR.P rfl rfl (Nat.le_of_ble_eq_true rfl) dX8_isApplication_8 ⟨Nat.zero_le _, Nat.zero_le _⟩) ?_
  exact xj_zret_ro X hr (x_b2i hf) dX8_isApplication_11
set_option maxHeartbeats 4000000 in
set_option maxRecDepth 100000 in
theorem ctX8_priorityOf (l : Launch) (D : va_G) (cA : ClassId) (ad : Nat → Nat) (σ : x_M) (p1 : Int32) (r0 : Int32) (hf : fX8_priorityOf σ p1 = some r0) : Met l yX8_priorityOf zX8_priorityOf ({ frames := 2, cells := 0, slots := 0, locals := 43 } : Room) (x_P D cA [.ref (ad 0), .int p1] (wM ad cA σ)) (x_R (some (.int r0))) 0 0 (fun _ => False) := by
  refine x_met (cc := cX8_priorityOf) (maxL := 2) (ret := (some .int)) RX8 rfl (by decide) rfl [(0, .ref (ad 0)), (1, .int p1)] rfl (Nat.le_of_ble_eq_true rfl) ?_
  intro p e s m args below meth c hr X
  rw [fX8_priorityOf] at hf
  refine xj_aload_n X 0 dX8_priorityOf_0 rfl rfl ?_
  refine xj_iload_n X 1 dX8_priorityOf_1 rfl rfl ?_
  refine xj_roI (r := b2i (fX8_isApplication σ p1)) (rest := []) (fun _ h => h) (x_runV X (ctX8_isApplication l D cA ad σ p1 _ rfl) (x_cwV X kwX8_isApplication mk4_16 rfl rfl ⟨Nat.le_of_ble_eq_true rfl, Nat.le_of_ble_eq_true rfl⟩) x_IR.P 0 (wM_at0 ad cA σ) rfl rfl rfl (Nat.le_of_ble_eq_true rfl) dX8_priorityOf_2 ⟨Nat.zero_le _, Nat.zero_le _⟩) ?_
  refine xj_if_eq (tgt := 17) X dX8_priorityOf_5 rfl hf (fun hf => ?_) (fun hf => ?_)
  · refine xj_iconst (x := (-1 : Int32)) X dX8_priorityOf_17 rfl ?_
    exact xj_iret_ro X hr (x_1 hf) dX8_priorityOf_18
  · refine xj_aload_n X 0 dX8_priorityOf_8 rfl rfl ?_
    refine xj_get X x_IR.P inG_X8 0 (wM_at0 ad cA σ) rfl 11 (by decide) mk3_96 (.ref (ad 9)) rfl dX8_priorityOf_9 ?_
    refine xj_iload_n X 1 dX8_priorityOf_12 rfl rfl ?_
    refine xj_iald X x_IR.P 9 (wM_at9 ad cA σ) hf ((σ 9) p1.toNatClampNeg) rfl dX8_priorityOf_13 (fun hf => ?_)
    refine xj_goto (tgt := 18) X dX8_priorityOf_14 rfl ?_
    exact xj_iret_ro X hr (x_1 hf) dX8_priorityOf_18
set_option maxHeartbeats 4000000 in
set_option maxRecDepth 100000 in
theorem ctX8_setIssuerCode (l : Launch) (D : va_G) (cA : ClassId) {ad : Nat → Nat} (hj : x_inj 20 ad) (σ : x_M) (p1 : Int32) (p2 : Int32) (r0 : Int32) (σ0 : x_M) (hf : fX8_setIssuerCode σ p1 p2 = some (r0, σ0)) : Met l yX8_setIssuerCode zX8_setIssuerCode ({ frames := 1, cells := 0, slots := 0, locals := 22 } : Room) (x_P D cA [.ref (ad 0), .int p1, .int p2] (wM ad cA σ)) (x_U D (some (.int r0)) (wM ad cA σ0) (x_A 20 ad)) 0 0 (x_A 20 ad) := by
  refine x_met (cc := cX8_setIssuerCode) (maxL := 4) (ret := (some .int)) RX8 rfl (by decide) rfl [(0, .ref (ad 0)), (1, .int p1), (2, .int p2)] rfl (Nat.le_of_ble_eq_true rfl) ?_
  intro p e s m args below meth c hr X
  refine xj_w (A := x_A 20 ad) ?_
  rw [fX8_setIssuerCode] at hf
  refine xj_iload_n X 1 dX8_setIssuerCode_0 rfl rfl ?_
  refine xj_iconst (x := (0 : Int32)) X dX8_setIssuerCode_1 rfl ?_
  refine xj_iconst (x := (2 : Int32)) X dX8_setIssuerCode_2 rfl ?_
  refine xj_roI (r := b2i (fX8_in p1 ((0 : Int32)) ((2 : Int32)))) (rest := []) (fun _ h => h) (x_runS X (ctX8_in l D cA ad σ p1 ((0 : Int32)) ((2 : Int32)) _ rfl) (x_cwS X kwX8_in mk3_201 rfl rfl ⟨Nat.le_of_ble_eq_true rfl, Nat.le_of_ble_eq_true rfl⟩) x_IW.P rfl rfl (Nat.le_of_ble_eq_true rfl) dX8_setIssuerCode_3 ⟨Nat.zero_le _, Nat.zero_le _⟩) ?_
  refine xj_if_eq (tgt := 19) X dX8_setIssuerCode_6 rfl hf (fun hf => ?_) (fun hf => ?_)
  · refine xj_iconst (x := (-1 : Int32)) X dX8_setIssuerCode_19 rfl ?_
    exact xj_iret_wr X hr (x_2a hf) (congrArg (wM ad cA) (x_2b hf)) dX8_setIssuerCode_20
  · refine xj_iload_n X 2 dX8_setIssuerCode_9 rfl rfl ?_
    refine xj_iconst (x := (0 : Int32)) X dX8_setIssuerCode_10 rfl ?_
    refine xj_bipush (x := (127 : Int32)) X dX8_setIssuerCode_11 rfl ?_
    refine xj_roI (r := b2i (fX8_in p2 ((0 : Int32)) ((127 : Int32)))) (rest := []) (fun _ h => h) (x_runS X (ctX8_in l D cA ad σ p2 ((0 : Int32)) ((127 : Int32)) _ rfl) (x_cwS X kwX8_in mk3_201 rfl rfl ⟨Nat.le_of_ble_eq_true rfl, Nat.le_of_ble_eq_true rfl⟩) x_IW.P rfl rfl (Nat.le_of_ble_eq_true rfl) dX8_setIssuerCode_13 ⟨Nat.zero_le _, Nat.zero_le _⟩) ?_
    refine xj_if_ne (tgt := 21) X dX8_setIssuerCode_16 rfl hf (fun hf => ?_) (fun hf => ?_)
    · refine xj_aload_n X 0 dX8_setIssuerCode_21 rfl rfl ?_
      refine xj_get X x_IW.P inG_X8 0 (wM_at0 ad cA σ) rfl 13 (by decide) mk3_98 (.ref (ad 11)) rfl dX8_setIssuerCode_22 ?_
      refine xj_iload_n X 1 dX8_setIssuerCode_25 rfl rfl ?_
      refine xj_iald X x_IW.P 11 (wM_at11 ad cA σ) hf ((σ 11) p1.toNatClampNeg) rfl dX8_setIssuerCode_26 (fun hf => ?_)
      refine xj_istore_n (lv' := [(3, .int ((σ 11) p1.toNatClampNeg)), (0, .ref (ad 0)), (1, .int p1), (2, .int p2)]) X dX8_setIssuerCode_27 rfl (Nat.le_of_ble_eq_true rfl) rfl ?_
      refine xj_sub [1, 2, 3, 0] rfl ?_
      refine xj_aload_n X 0 dX8_setIssuerCode_28 rfl rfl ?_
      refine xj_get X x_IW.P inG_X8 0 (wM_at0 ad cA σ) rfl 13 (by decide) mk3_98 (.ref (ad 11)) rfl dX8_setIssuerCode_29 ?_
      refine xj_iload_n X 1 dX8_setIssuerCode_32 rfl rfl ?_
      refine xj_iload_n X 2 dX8_setIssuerCode_33 rfl rfl ?_
      refine xj_iast X (wM_D hj cA _) 11 (wM_at11 ad cA σ) hf (wM_ar11 ad cA σ p1.toNatClampNeg p2) dX8_setIssuerCode_34 (fun hf => ?_)
      refine xj_iload_n X 3 dX8_setIssuerCode_35 rfl rfl ?_
      exact xj_iret_wr X hr (x_2a hf) (congrArg (wM ad cA) (x_2b hf)) dX8_setIssuerCode_36
    · refine xj_iconst (x := (-1 : Int32)) X dX8_setIssuerCode_19 rfl ?_
      exact xj_iret_wr X hr (x_2a hf) (congrArg (wM ad cA) (x_2b hf)) dX8_setIssuerCode_20
set_option maxHeartbeats 4000000 in
set_option maxRecDepth 100000 in
theorem ctX8_addIdentifier (l : Launch) (D : va_G) (cA : ClassId) {ad : Nat → Nat} (hj : x_inj 20 ad) (σ : x_M) (p1 : Bool) (r0 : Int32) (σ0 : x_M) (hf : fX8_addIdentifier σ p1 = some (r0, σ0)) : Met l yX8_addIdentifier zX8_addIdentifier ({ frames := 1, cells := 0, slots := 0, locals := 22 } : Room) (x_P D cA [.ref (ad 0), .int (b2i p1)] (wM ad cA σ)) (x_U D (some (.int r0)) (wM ad cA σ0) (x_A 20 ad)) 0 0 (x_A 20 ad) := by
  refine x_met (cc := cX8_addIdentifier) (maxL := 3) (ret := (some .int)) RX8 rfl (by decide) rfl [(0, .ref (ad 0)), (1, .int (b2i p1))] rfl (Nat.le_of_ble_eq_true rfl) ?_
  intro p e s m args below meth c hr X
  have B_93 : ∀ (σ : x_M) (w1 : Int32) (w2 : Int32), fX8_addIdentifier_93 σ w1 w2 = some (r0, σ0) → x_J 3 p l e ({ frames := 1, cells := 0, slots := 0, locals := 22 } : Room) s m args below meth c 0 0 (x_IW D s (x_A 20 ad) (wM ad cA σ)) (MQ below (x_U D (some (.int r0)) (wM ad cA σ0) (x_A 20 ad)) args s 0 0 (x_A 20 ad)) 93 [(0, .ref (ad 0))] [.int w2, .int w1, .ref (ad 14)] := by
    intro  σ w1 w2 hf
    rw [fX8_addIdentifier_93] at hf
    refine xj_iast X (wM_D hj cA _) 14 (wM_at14 ad cA σ) hf (wM_ar14 ad cA σ w1.toNatClampNeg w2) dX8_addIdentifier_93 (fun hf => ?_)
    refine xj_aload_n X 0 dX8_addIdentifier_94 rfl rfl ?_
    refine xj_dup X dX8_addIdentifier_95 rfl ?_
    refine xj_get X x_IW.P inG_X8 0 (wM_at0 ad cA (up2 σ 14 w1.toNatClampNeg w2)) rfl 16 (by decide) mk3_101 (.int (σ 0 16)) rfl dX8_addIdentifier_96 ?_
    refine xj_iconst (x := (1 : Int32)) X dX8_addIdentifier_99 rfl ?_
    refine xj_iadd X dX8_addIdentifier_100 ?_
    refine xj_put X (wM_D hj cA _) inG_X8 tyX8_ok nmX8 0 (wM_at0 ad cA (up2 σ 14 w1.toNatClampNeg w2)) rfl 16 (by decide) mk3_101 rfl .int rfl rfl rfl (Nat.le_of_ble_eq_true rfl) (wM_st0_16 ad cA (up2 σ 14 w1.toNatClampNeg w2) ((σ 0 16) + ((1 : Int32)))) dX8_addIdentifier_101 ?_
    refine xj_aload_n X 0 dX8_addIdentifier_104 rfl rfl ?_
    refine xj_get X x_IW.P inG_X8 0 (wM_at0 ad cA (up2 (up2 σ 14 w1.toNatClampNeg w2) 0 16 ((σ 0 16) + ((1 : Int32))))) rfl 16 (by decide) mk3_101 (.int ((σ 0 16) + ((1 : Int32)))) rfl dX8_addIdentifier_105 ?_
    exact xj_iret_wr X hr (x_2a hf) (congrArg (wM ad cA) (x_2b hf)) dX8_addIdentifier_108
  have B_29 : ∀ (n : Nat) (σ : x_M) (v1 : Bool) (v2 : Int32), fX8_addIdentifier_29 n σ v1 v2 = some (r0, σ0) → x_J 3 p l e ({ frames := 1, cells := 0, slots := 0, locals := 22 } : Room) s m args below meth c 0 0 (x_IW D s (x_A 20 ad) (wM ad cA σ)) (MQ below (x_U D (some (.int r0)) (wM ad cA σ0) (x_A 20 ad)) args s 0 0 (x_A 20 ad)) 29 [(0, .ref (ad 0)), (1, .int (b2i v1)), (2, .int v2)] [] := by
    intro n
    induction n with
    | zero => intro σ v1 v2 hf; rw [fX8_addIdentifier_29] at hf; cases hf
    | succ n ih =>
      intro σ v1 v2 hf
      rw [fX8_addIdentifier_29] at hf
      refine xj_iload_n X 2 dX8_addIdentifier_29 rfl rfl ?_
      refine xj_aload_n X 0 dX8_addIdentifier_30 rfl rfl ?_
      refine xj_get X x_IW.P inG_X8 0 (wM_at0 ad cA σ) rfl 0 (by decide) mk3_85 (.int (σ 0 0)) rfl dX8_addIdentifier_31 ?_
      refine xj_icmp_ge (tgt := 63) X dX8_addIdentifier_34 rfl hf (fun hf => ?_) (fun hf => ?_)
      · refine xj_aload_n X 0 dX8_addIdentifier_63 rfl rfl ?_
        refine xj_get X x_IW.P inG_X8 0 (wM_at0 ad cA σ) rfl 18 (by decide) mk3_103 (.ref (ad 13)) rfl dX8_addIdentifier_64 ?_
        refine xj_aload_n X 0 dX8_addIdentifier_67 rfl rfl ?_
        refine xj_get X x_IW.P inG_X8 0 (wM_at0 ad cA σ) rfl 16 (by decide) mk3_101 (.int (σ 0 16)) rfl dX8_addIdentifier_68 ?_
        refine xj_aload_n X 0 dX8_addIdentifier_71 rfl rfl ?_
        refine xj_get X x_IW.P inG_X8 0 (wM_at0 ad cA σ) rfl 0 (by decide) mk3_85 (.int (σ 0 0)) rfl dX8_addIdentifier_72 ?_
        refine xj_iast X (wM_D hj cA _) 13 (wM_at13 ad cA σ) hf (wM_ar13 ad cA σ (σ 0 16).toNatClampNeg (σ 0 0)) dX8_addIdentifier_75 (fun hf => ?_)
        refine xj_aload_n X 0 dX8_addIdentifier_76 rfl rfl ?_
        refine xj_get X x_IW.P inG_X8 0 (wM_at0 ad cA (up2 σ 13 (σ 0 16).toNatClampNeg (σ 0 0))) rfl 19 (by decide) mk3_104 (.ref (ad 14)) rfl dX8_addIdentifier_77 ?_
        refine xj_aload_n X 0 dX8_addIdentifier_80 rfl rfl ?_
        refine xj_get X x_IW.P inG_X8 0 (wM_at0 ad cA (up2 σ 13 (σ 0 16).toNatClampNeg (σ 0 0))) rfl 16 (by decide) mk3_101 (.int (σ 0 16)) rfl dX8_addIdentifier_81 ?_
        refine xj_iload_n X 1 dX8_addIdentifier_84 rfl rfl ?_
        refine xj_if_eq (tgt := 92) X dX8_addIdentifier_85 rfl hf (fun hf => ?_) (fun hf => ?_)
        · refine xj_iconst (x := (0 : Int32)) X dX8_addIdentifier_92 rfl ?_
          exact xj_sub [0] rfl (B_93 (up2 σ 13 (σ 0 16).toNatClampNeg (σ 0 0)) (σ 0 16) ((0 : Int32)) hf)
        · refine xj_iconst (x := (1 : Int32)) X dX8_addIdentifier_88 rfl ?_
          refine xj_goto (tgt := 93) X dX8_addIdentifier_89 rfl ?_
          exact xj_sub [0] rfl (B_93 (up2 σ 13 (σ 0 16).toNatClampNeg (σ 0 0)) (σ 0 16) ((1 : Int32)) hf)
      · refine xj_aload_n X 0 dX8_addIdentifier_37 rfl rfl ?_
        refine xj_get X x_IW.P inG_X8 0 (wM_at0 ad cA σ) rfl 17 (by decide) mk3_102 (.ref (ad 12)) rfl dX8_addIdentifier_38 ?_
        refine xj_bipush (x := (16 : Int32)) X dX8_addIdentifier_41 rfl ?_
        refine xj_aload_n X 0 dX8_addIdentifier_43 rfl rfl ?_
        refine xj_get X x_IW.P inG_X8 0 (wM_at0 ad cA σ) rfl 16 (by decide) mk3_101 (.int (σ 0 16)) rfl dX8_addIdentifier_44 ?_
        refine xj_imul X dX8_addIdentifier_47 ?_
        refine xj_iload_n X 2 dX8_addIdentifier_48 rfl rfl ?_
        refine xj_iadd X dX8_addIdentifier_49 ?_
        refine xj_aload_n X 0 dX8_addIdentifier_50 rfl rfl ?_
        refine xj_get X x_IW.P inG_X8 0 (wM_at0 ad cA σ) rfl 1 (by decide) mk3_86 (.ref (ad 1)) rfl dX8_addIdentifier_51 ?_
        refine xj_iload_n X 2 dX8_addIdentifier_54 rfl rfl ?_
        refine xj_iald X x_IW.P 1 (wM_at1 ad cA σ) hf ((σ 1) v2.toNatClampNeg) rfl dX8_addIdentifier_55 (fun hf => ?_)
        refine xj_iast X (wM_D hj cA _) 12 (wM_at12 ad cA σ) hf (wM_ar12 ad cA σ ((((16 : Int32)) * (σ 0 16)) + v2).toNatClampNeg ((σ 1) v2.toNatClampNeg)) dX8_addIdentifier_56 (fun hf => ?_)
        refine xj_iinc (y := v2 + (1 : Int32)) (lv' := [(2, .int (v2 + (1 : Int32))), (0, .ref (ad 0)), (1, .int (b2i v1))]) X 2 dX8_addIdentifier_57 rfl rfl (Nat.le_of_ble_eq_true rfl) rfl ?_
        refine xj_sub [1, 2, 0] rfl ?_
        refine xj_goto (tgt := 29) X dX8_addIdentifier_60 rfl ?_
        exact ih (up2 σ 12 ((((16 : Int32)) * (σ 0 16)) + v2).toNatClampNeg ((σ 1) v2.toNatClampNeg)) v1 (v2 + (1 : Int32)) hf
  refine xj_w (A := x_A 20 ad) ?_
  rw [fX8_addIdentifier] at hf
  refine xj_aload_n X 0 dX8_addIdentifier_0 rfl rfl ?_
  refine xj_get X x_IW.P inG_X8 0 (wM_at0 ad cA σ) rfl 0 (by decide) mk3_85 (.int (σ 0 0)) rfl dX8_addIdentifier_1 ?_
  refine xj_iconst (x := (5 : Int32)) X dX8_addIdentifier_4 rfl ?_
  refine xj_bipush (x := (16 : Int32)) X dX8_addIdentifier_5 rfl ?_
  refine xj_roI (r := b2i (fX8_in (σ 0 0) ((5 : Int32)) ((16 : Int32)))) (rest := []) (fun _ h => h) (x_runS X (ctX8_in l D cA ad σ (σ 0 0) ((5 : Int32)) ((16 : Int32)) _ rfl) (x_cwS X kwX8_in mk3_201 rfl rfl ⟨Nat.le_of_ble_eq_true rfl, Nat.le_of_ble_eq_true rfl⟩) x_IW.P rfl rfl (Nat.le_of_ble_eq_true rfl) dX8_addIdentifier_7 ⟨Nat.zero_le _, Nat.zero_le _⟩) ?_
  refine xj_if_ne (tgt := 16) X dX8_addIdentifier_10 rfl hf (fun hf => ?_) (fun hf => ?_)
  · refine xj_aload_n X 0 dX8_addIdentifier_16 rfl rfl ?_
    refine xj_get X x_IW.P inG_X8 0 (wM_at0 ad cA σ) rfl 16 (by decide) mk3_101 (.int (σ 0 16)) rfl dX8_addIdentifier_17 ?_
    refine xj_iconst (x := (5 : Int32)) X dX8_addIdentifier_20 rfl ?_
    refine xj_icmp_ne (tgt := 27) X dX8_addIdentifier_21 rfl hf (fun hf => ?_) (fun hf => ?_)
    · refine xj_iconst (x := (0 : Int32)) X dX8_addIdentifier_27 rfl ?_
      refine xj_istore_n (lv' := [(2, .int ((0 : Int32))), (0, .ref (ad 0)), (1, .int (b2i p1))]) X dX8_addIdentifier_28 rfl (Nat.le_of_ble_eq_true rfl) rfl ?_
      refine xj_sub [1, 2, 0] rfl ?_
      exact (B_29 x_fuel σ p1 ((0 : Int32)) hf)
    · refine xj_bipush (x := (-3 : Int32)) X dX8_addIdentifier_24 rfl ?_
      exact xj_iret_wr X hr (x_2a hf) (congrArg (wM ad cA) (x_2b hf)) dX8_addIdentifier_26
  · refine xj_bipush (x := (-2 : Int32)) X dX8_addIdentifier_13 rfl ?_
    exact xj_iret_wr X hr (x_2a hf) (congrArg (wM ad cA) (x_2b hf)) dX8_addIdentifier_15
set_option maxHeartbeats 4000000 in
set_option maxRecDepth 100000 in
theorem ctX8_removeIdentifier (l : Launch) (D : va_G) (cA : ClassId) {ad : Nat → Nat} (hj : x_inj 20 ad) (σ : x_M) (p1 : Int32) (r0 : Int32) (σ0 : x_M) (hf : fX8_removeIdentifier σ p1 = some (r0, σ0)) : Met l yX8_removeIdentifier zX8_removeIdentifier ({ frames := 1, cells := 0, slots := 0, locals := 22 } : Room) (x_P D cA [.ref (ad 0), .int p1] (wM ad cA σ)) (x_U D (some (.int r0)) (wM ad cA σ0) (x_A 20 ad)) 0 0 (x_A 20 ad) := by
  refine x_met (cc := cX8_removeIdentifier) (maxL := 4) (ret := (some .int)) RX8 rfl (by decide) rfl [(0, .ref (ad 0)), (1, .int p1)] rfl (Nat.le_of_ble_eq_true rfl) ?_
  intro p e s m args below meth c hr X
  have B_38 : ∀ (K28 : x_M → Int32 → Option (Int32 × x_M)) (_ : ∀ (σ : x_M) (v2 : Int32), K28 σ v2 = some (r0, σ0) → x_J 4 p l e ({ frames := 1, cells := 0, slots := 0, locals := 22 } : Room) s m args below meth c 0 0 (x_IW D s (x_A 20 ad) (wM ad cA σ)) (MQ below (x_U D (some (.int r0)) (wM ad cA σ0) (x_A 20 ad)) args s 0 0 (x_A 20 ad)) 28 [(0, .ref (ad 0)), (2, .int v2)] []) (n : Nat) (σ : x_M) (v2 : Int32) (v3 : Int32), fX8_removeIdentifier_38 K28 n σ v2 v3 = some (r0, σ0) → x_J 4 p l e ({ frames := 1, cells := 0, slots := 0, locals := 22 } : Room) s m args below meth c 0 0 (x_IW D s (x_A 20 ad) (wM ad cA σ)) (MQ below (x_U D (some (.int r0)) (wM ad cA σ0) (x_A 20 ad)) args s 0 0 (x_A 20 ad)) 38 [(0, .ref (ad 0)), (2, .int v2), (3, .int v3)] [] := by
    intro K28 hK28 n
    induction n with
    | zero => intro σ v2 v3 hf; rw [fX8_removeIdentifier_38] at hf; cases hf
    | succ n ih =>
      intro σ v2 v3 hf
      rw [fX8_removeIdentifier_38] at hf
      refine xj_iload_n X 2 dX8_removeIdentifier_38 rfl rfl ?_
      refine xj_bipush (x := (16 : Int32)) X dX8_removeIdentifier_39 rfl ?_
      refine xj_icmp_ge (tgt := 75) X dX8_removeIdentifier_41 rfl hf (fun hf => ?_) (fun hf => ?_)
      · refine xj_aload_n X 0 dX8_removeIdentifier_75 rfl rfl ?_
        refine xj_get X x_IW.P inG_X8 0 (wM_at0 ad cA σ) rfl 18 (by decide) mk3_103 (.ref (ad 13)) rfl dX8_removeIdentifier_76 ?_
        refine xj_iload_n X 1 dX8_removeIdentifier_79 rfl rfl ?_
        refine xj_aload_n X 0 dX8_removeIdentifier_80 rfl rfl ?_
        refine xj_get X x_IW.P inG_X8 0 (wM_at0 ad cA σ) rfl 18 (by decide) mk3_103 (.ref (ad 13)) rfl dX8_removeIdentifier_81 ?_
        refine xj_iload_n X 1 dX8_removeIdentifier_84 rfl rfl ?_
        refine xj_iconst (x := (1 : Int32)) X dX8_removeIdentifier_85 rfl ?_
        refine xj_iadd X dX8_removeIdentifier_86 ?_
        refine xj_iald X x_IW.P 13 (wM_at13 ad cA σ) hf ((σ 13) (v2 + ((1 : Int32))).toNatClampNeg) rfl dX8_removeIdentifier_87 (fun hf => ?_)
        refine xj_iast X (wM_D hj cA _) 13 (wM_at13 ad cA σ) hf (wM_ar13 ad cA σ v2.toNatClampNeg ((σ 13) (v2 + ((1 : Int32))).toNatClampNeg)) dX8_removeIdentifier_88 (fun hf => ?_)
        refine xj_aload_n X 0 dX8_removeIdentifier_89 rfl rfl ?_
        refine xj_get X x_IW.P inG_X8 0 (wM_at0 ad cA (up2 σ 13 v2.toNatClampNeg ((σ 13) (v2 + ((1 : Int32))).toNatClampNeg))) rfl 19 (by decide) mk3_104 (.ref (ad 14)) rfl dX8_removeIdentifier_90 ?_
        refine xj_iload_n X 1 dX8_removeIdentifier_93 rfl rfl ?_
        refine xj_aload_n X 0 dX8_removeIdentifier_94 rfl rfl ?_
        refine xj_get X x_IW.P inG_X8 0 (wM_at0 ad cA (up2 σ 13 v2.toNatClampNeg ((σ 13) (v2 + ((1 : Int32))).toNatClampNeg))) rfl 19 (by decide) mk3_104 (.ref (ad 14)) rfl dX8_removeIdentifier_95 ?_
        refine xj_iload_n X 1 dX8_removeIdentifier_98 rfl rfl ?_
        refine xj_iconst (x := (1 : Int32)) X dX8_removeIdentifier_99 rfl ?_
        refine xj_iadd X dX8_removeIdentifier_100 ?_
        refine xj_iald X x_IW.P 14 (wM_at14 ad cA (up2 σ 13 v2.toNatClampNeg ((σ 13) (v2 + ((1 : Int32))).toNatClampNeg))) hf ((σ 14) (v2 + ((1 : Int32))).toNatClampNeg) rfl dX8_removeIdentifier_101 (fun hf => ?_)
        refine xj_iast X (wM_D hj cA _) 14 (wM_at14 ad cA (up2 σ 13 v2.toNatClampNeg ((σ 13) (v2 + ((1 : Int32))).toNatClampNeg))) hf (wM_ar14 ad cA (up2 σ 13 v2.toNatClampNeg ((σ 13) (v2 + ((1 : Int32))).toNatClampNeg)) v2.toNatClampNeg ((σ 14) (v2 + ((1 : Int32))).toNatClampNeg)) dX8_removeIdentifier_102 (fun hf => ?_)
        refine xj_iinc (y := v2 + (1 : Int32)) (lv' := [(2, .int (v2 + (1 : Int32))), (0, .ref (ad 0)), (3, .int v3)]) X 1 dX8_removeIdentifier_103 rfl rfl (Nat.le_of_ble_eq_true rfl) rfl ?_
        refine xj_sub [1, 0, 2] rfl ?_
        refine xj_goto (tgt := 28) X dX8_removeIdentifier_106 rfl ?_
        exact xj_sub [0, 1] rfl (hK28 (up2 (up2 σ 13 v2.toNatClampNeg ((σ 13) (v2 + ((1 : Int32))).toNatClampNeg)) 14 v2.toNatClampNeg ((σ 14) (v2 + ((1 : Int32))).toNatClampNeg)) (v2 + (1 : Int32)) hf)
      · refine xj_aload_n X 0 dX8_removeIdentifier_44 rfl rfl ?_
        refine xj_get X x_IW.P inG_X8 0 (wM_at0 ad cA σ) rfl 17 (by decide) mk3_102 (.ref (ad 12)) rfl dX8_removeIdentifier_45 ?_
        refine xj_bipush (x := (16 : Int32)) X dX8_removeIdentifier_48 rfl ?_
        refine xj_iload_n X 1 dX8_removeIdentifier_50 rfl rfl ?_
        refine xj_imul X dX8_removeIdentifier_51 ?_
        refine xj_iload_n X 2 dX8_removeIdentifier_52 rfl rfl ?_
        refine xj_iadd X dX8_removeIdentifier_53 ?_
        refine xj_aload_n X 0 dX8_removeIdentifier_54 rfl rfl ?_
        refine xj_get X x_IW.P inG_X8 0 (wM_at0 ad cA σ) rfl 17 (by decide) mk3_102 (.ref (ad 12)) rfl dX8_removeIdentifier_55 ?_
        refine xj_bipush (x := (16 : Int32)) X dX8_removeIdentifier_58 rfl ?_
        refine xj_iload_n X 1 dX8_removeIdentifier_60 rfl rfl ?_
        refine xj_imul X dX8_removeIdentifier_61 ?_
        refine xj_bipush (x := (16 : Int32)) X dX8_removeIdentifier_62 rfl ?_
        refine xj_iadd X dX8_removeIdentifier_64 ?_
        refine xj_iload_n X 2 dX8_removeIdentifier_65 rfl rfl ?_
        refine xj_iadd X dX8_removeIdentifier_66 ?_
        refine xj_iald X x_IW.P 12 (wM_at12 ad cA σ) hf ((σ 12) (((((16 : Int32)) * v2) + ((16 : Int32))) + v3).toNatClampNeg) rfl dX8_removeIdentifier_67 (fun hf => ?_)
        refine xj_iast X (wM_D hj cA _) 12 (wM_at12 ad cA σ) hf (wM_ar12 ad cA σ ((((16 : Int32)) * v2) + v3).toNatClampNeg ((σ 12) (((((16 : Int32)) * v2) + ((16 : Int32))) + v3).toNatClampNeg)) dX8_removeIdentifier_68 (fun hf => ?_)
        refine xj_iinc (y := v3 + (1 : Int32)) (lv' := [(3, .int (v3 + (1 : Int32))), (0, .ref (ad 0)), (2, .int v2)]) X 2 dX8_removeIdentifier_69 rfl rfl (Nat.le_of_ble_eq_true rfl) rfl ?_
        refine xj_sub [1, 2, 0] rfl ?_
        refine xj_goto (tgt := 38) X dX8_removeIdentifier_72 rfl ?_
        exact ih (up2 σ 12 ((((16 : Int32)) * v2) + v3).toNatClampNeg ((σ 12) (((((16 : Int32)) * v2) + ((16 : Int32))) + v3).toNatClampNeg)) v2 (v3 + (1 : Int32)) hf
  have B_28 : ∀ (n : Nat) (σ : x_M) (v2 : Int32), fX8_removeIdentifier_28 n σ v2 = some (r0, σ0) → x_J 4 p l e ({ frames := 1, cells := 0, slots := 0, locals := 22 } : Room) s m args below meth c 0 0 (x_IW D s (x_A 20 ad) (wM ad cA σ)) (MQ below (x_U D (some (.int r0)) (wM ad cA σ0) (x_A 20 ad)) args s 0 0 (x_A 20 ad)) 28 [(0, .ref (ad 0)), (2, .int v2)] [] := by
    intro n
    induction n with
    | zero => intro σ v2 hf; rw [fX8_removeIdentifier_28] at hf; cases hf
    | succ n ih =>
      intro σ v2 hf
      rw [fX8_removeIdentifier_28] at hf
      refine xj_iload_n X 1 dX8_removeIdentifier_28 rfl rfl ?_
      refine xj_aload_n X 0 dX8_removeIdentifier_29 rfl rfl ?_
      refine xj_get X x_IW.P inG_X8 0 (wM_at0 ad cA σ) rfl 16 (by decide) mk3_101 (.int (σ 0 16)) rfl dX8_removeIdentifier_30 ?_
      refine xj_icmp_ge (tgt := 109) X dX8_removeIdentifier_33 rfl hf (fun hf => ?_) (fun hf => ?_)
      · refine xj_aload_n X 0 dX8_removeIdentifier_109 rfl rfl ?_
        refine xj_get X x_IW.P inG_X8 0 (wM_at0 ad cA σ) rfl 16 (by decide) mk3_101 (.int (σ 0 16)) rfl dX8_removeIdentifier_110 ?_
        exact xj_iret_wr X hr (x_2a hf) (congrArg (wM ad cA) (x_2b hf)) dX8_removeIdentifier_113
      · refine xj_iconst (x := (0 : Int32)) X dX8_removeIdentifier_36 rfl ?_
        refine xj_istore_n (lv' := [(3, .int ((0 : Int32))), (0, .ref (ad 0)), (2, .int v2)]) X dX8_removeIdentifier_37 rfl (Nat.le_of_ble_eq_true rfl) rfl ?_
        refine xj_sub [1, 2, 0] rfl ?_
        exact (B_38 (fX8_removeIdentifier_28 n) ih x_fuel σ v2 ((0 : Int32)) hf)
  refine xj_w (A := x_A 20 ad) ?_
  rw [fX8_removeIdentifier] at hf
  refine xj_iload_n X 1 dX8_removeIdentifier_0 rfl rfl ?_
  refine xj_iconst (x := (0 : Int32)) X dX8_removeIdentifier_1 rfl ?_
  refine xj_aload_n X 0 dX8_removeIdentifier_2 rfl rfl ?_
  refine xj_get X x_IW.P inG_X8 0 (wM_at0 ad cA σ) rfl 16 (by decide) mk3_101 (.int (σ 0 16)) rfl dX8_removeIdentifier_3 ?_
  refine xj_iconst (x := (1 : Int32)) X dX8_removeIdentifier_6 rfl ?_
  refine xj_isub X dX8_removeIdentifier_7 ?_
  refine xj_roI (r := b2i (fX8_in p1 ((0 : Int32)) ((σ 0 16) - ((1 : Int32))))) (rest := []) (fun _ h => h) (x_runS X (ctX8_in l D cA ad σ p1 ((0 : Int32)) ((σ 0 16) - ((1 : Int32))) _ rfl) (x_cwS X kwX8_in mk3_201 rfl rfl ⟨Nat.le_of_ble_eq_true rfl, Nat.le_of_ble_eq_true rfl⟩) x_IW.P rfl rfl (Nat.le_of_ble_eq_true rfl) dX8_removeIdentifier_8 ⟨Nat.zero_le _, Nat.zero_le _⟩) ?_
  refine xj_if_ne (tgt := 16) X dX8_removeIdentifier_11 rfl hf (fun hf => ?_) (fun hf => ?_)
  · refine xj_aload_n X 0 dX8_removeIdentifier_16 rfl rfl ?_
    refine xj_dup X dX8_removeIdentifier_17 rfl ?_
    refine xj_get X x_IW.P inG_X8 0 (wM_at0 ad cA σ) rfl 16 (by decide) mk3_101 (.int (σ 0 16)) rfl dX8_removeIdentifier_18 ?_
    refine xj_iconst (x := (1 : Int32)) X dX8_removeIdentifier_21 rfl ?_
    refine xj_isub X dX8_removeIdentifier_22 ?_
    refine xj_put X (wM_D hj cA _) inG_X8 tyX8_ok nmX8 0 (wM_at0 ad cA σ) rfl 16 (by decide) mk3_101 rfl .int rfl rfl rfl (Nat.le_of_ble_eq_true rfl) (wM_st0_16 ad cA σ ((σ 0 16) - ((1 : Int32)))) dX8_removeIdentifier_23 ?_
    refine xj_iload_n X 1 dX8_removeIdentifier_26 rfl rfl ?_
    refine xj_istore_n (lv' := [(2, .int p1), (0, .ref (ad 0)), (1, .int p1)]) X dX8_removeIdentifier_27 rfl (Nat.le_of_ble_eq_true rfl) rfl ?_
    refine xj_sub [1, 2, 0] rfl ?_
    exact xj_sub [0, 2] rfl (B_28 x_fuel (up2 σ 0 16 ((σ 0 16) - ((1 : Int32)))) p1 hf)
  · refine xj_iconst (x := (-1 : Int32)) X dX8_removeIdentifier_14 rfl ?_
    exact xj_iret_wr X hr (x_2a hf) (congrArg (wM ad cA) (x_2b hf)) dX8_removeIdentifier_15
set_option maxHeartbeats 4000000 in
set_option maxRecDepth 100000 in
theorem ctX8_setTerminalCode (l : Launch) (D : va_G) (cA : ClassId) {ad : Nat → Nat} (hj : x_inj 20 ad) (σ : x_M) (p1 : Int32) (p2 : Int32) (r0 : Int32) (σ0 : x_M) (hf : fX8_setTerminalCode σ p1 p2 = some (r0, σ0)) : Met l yX8_setTerminalCode zX8_setTerminalCode ({ frames := 1, cells := 0, slots := 0, locals := 22 } : Room) (x_P D cA [.ref (ad 0), .int p1, .int p2] (wM ad cA σ)) (x_U D (some (.int r0)) (wM ad cA σ0) (x_A 20 ad)) 0 0 (x_A 20 ad) := by
  refine x_met (cc := cX8_setTerminalCode) (maxL := 4) (ret := (some .int)) RX8 rfl (by decide) rfl [(0, .ref (ad 0)), (1, .int p1), (2, .int p2)] rfl (Nat.le_of_ble_eq_true rfl) ?_
  intro p e s m args below meth c hr X
  refine xj_w (A := x_A 20 ad) ?_
  rw [fX8_setTerminalCode] at hf
  refine xj_iload_n X 1 dX8_setTerminalCode_0 rfl rfl ?_
  refine xj_iconst (x := (0 : Int32)) X dX8_setTerminalCode_1 rfl ?_
  refine xj_iconst (x := (2 : Int32)) X dX8_setTerminalCode_2 rfl ?_
  refine xj_roI (r := b2i (fX8_in p1 ((0 : Int32)) ((2 : Int32)))) (rest := []) (fun _ h => h) (x_runS X (ctX8_in l D cA ad σ p1 ((0 : Int32)) ((2 : Int32)) _ rfl) (x_cwS X kwX8_in mk3_201 rfl rfl ⟨Nat.le_of_ble_eq_true rfl, Nat.le_of_ble_eq_true rfl⟩) x_IW.P rfl rfl (Nat.le_of_ble_eq_true rfl) dX8_setTerminalCode_3 ⟨Nat.zero_le _, Nat.zero_le _⟩) ?_
  refine xj_if_eq (tgt := 19) X dX8_setTerminalCode_6 rfl hf (fun hf => ?_) (fun hf => ?_)
  · refine xj_iconst (x := (-1 : Int32)) X dX8_setTerminalCode_19 rfl ?_
    exact xj_iret_wr X hr (x_2a hf) (congrArg (wM ad cA) (x_2b hf)) dX8_setTerminalCode_20
  · refine xj_iload_n X 2 dX8_setTerminalCode_9 rfl rfl ?_
    refine xj_iconst (x := (0 : Int32)) X dX8_setTerminalCode_10 rfl ?_
    refine xj_bipush (x := (127 : Int32)) X dX8_setTerminalCode_11 rfl ?_
    refine xj_roI (r := b2i (fX8_in p2 ((0 : Int32)) ((127 : Int32)))) (rest := []) (fun _ h => h) (x_runS X (ctX8_in l D cA ad σ p2 ((0 : Int32)) ((127 : Int32)) _ rfl) (x_cwS X kwX8_in mk3_201 rfl rfl ⟨Nat.le_of_ble_eq_true rfl, Nat.le_of_ble_eq_true rfl⟩) x_IW.P rfl rfl (Nat.le_of_ble_eq_true rfl) dX8_setTerminalCode_13 ⟨Nat.zero_le _, Nat.zero_le _⟩) ?_
    refine xj_if_ne (tgt := 21) X dX8_setTerminalCode_16 rfl hf (fun hf => ?_) (fun hf => ?_)
    · refine xj_aload_n X 0 dX8_setTerminalCode_21 rfl rfl ?_
      refine xj_get X x_IW.P inG_X8 0 (wM_at0 ad cA σ) rfl 20 (by decide) mk3_105 (.ref (ad 15)) rfl dX8_setTerminalCode_22 ?_
      refine xj_iload_n X 1 dX8_setTerminalCode_25 rfl rfl ?_
      refine xj_iald X x_IW.P 15 (wM_at15 ad cA σ) hf ((σ 15) p1.toNatClampNeg) rfl dX8_setTerminalCode_26 (fun hf => ?_)
      refine xj_istore_n (lv' := [(3, .int ((σ 15) p1.toNatClampNeg)), (0, .ref (ad 0)), (1, .int p1), (2, .int p2)]) X dX8_setTerminalCode_27 rfl (Nat.le_of_ble_eq_true rfl) rfl ?_
      refine xj_sub [1, 2, 3, 0] rfl ?_
      refine xj_aload_n X 0 dX8_setTerminalCode_28 rfl rfl ?_
      refine xj_get X x_IW.P inG_X8 0 (wM_at0 ad cA σ) rfl 20 (by decide) mk3_105 (.ref (ad 15)) rfl dX8_setTerminalCode_29 ?_
      refine xj_iload_n X 1 dX8_setTerminalCode_32 rfl rfl ?_
      refine xj_iload_n X 2 dX8_setTerminalCode_33 rfl rfl ?_
      refine xj_iast X (wM_D hj cA _) 15 (wM_at15 ad cA σ) hf (wM_ar15 ad cA σ p1.toNatClampNeg p2) dX8_setTerminalCode_34 (fun hf => ?_)
      refine xj_iload_n X 3 dX8_setTerminalCode_35 rfl rfl ?_
      exact xj_iret_wr X hr (x_2a hf) (congrArg (wM ad cA) (x_2b hf)) dX8_setTerminalCode_36
    · refine xj_iconst (x := (-1 : Int32)) X dX8_setTerminalCode_19 rfl ?_
      exact xj_iret_wr X hr (x_2a hf) (congrArg (wM ad cA) (x_2b hf)) dX8_setTerminalCode_20
set_option maxHeartbeats 4000000 in
set_option maxRecDepth 100000 in
theorem ctX8_setFloorLimit (l : Launch) (D : va_G) (cA : ClassId) {ad : Nat → Nat} (hj : x_inj 20 ad) (σ : x_M) (p1 : Int32) (r0 : Int32) (σ0 : x_M) (hf : fX8_setFloorLimit σ p1 = some (r0, σ0)) : Met l yX8_setFloorLimit zX8_setFloorLimit ({ frames := 1, cells := 0, slots := 0, locals := 22 } : Room) (x_P D cA [.ref (ad 0), .int p1] (wM ad cA σ)) (x_U D (some (.int r0)) (wM ad cA σ0) (x_A 20 ad)) 0 0 (x_A 20 ad) := by
  refine x_met (cc := cX8_setFloorLimit) (maxL := 3) (ret := (some .int)) RX8 rfl (by decide) rfl [(0, .ref (ad 0)), (1, .int p1)] rfl (Nat.le_of_ble_eq_true rfl) ?_
  intro p e s m args below meth c hr X
  refine xj_w (A := x_A 20 ad) ?_
  rw [fX8_setFloorLimit] at hf
  refine xj_iload_n X 1 dX8_setFloorLimit_0 rfl rfl ?_
  refine xj_iconst (x := (0 : Int32)) X dX8_setFloorLimit_1 rfl ?_
  refine xj_ldc X mk4_40 dX8_setFloorLimit_2 ?_
  refine xj_roI (r := b2i (fX8_in p1 ((0 : Int32)) ((99999 : Int32)))) (rest := []) (fun _ h => h) (x_runS X (ctX8_in l D cA ad σ p1 ((0 : Int32)) ((99999 : Int32)) _ rfl) (x_cwS X kwX8_in mk3_201 rfl rfl ⟨Nat.le_of_ble_eq_true rfl, Nat.le_of_ble_eq_true rfl⟩) x_IW.P rfl rfl (Nat.le_of_ble_eq_true rfl) dX8_setFloorLimit_4 ⟨Nat.zero_le _, Nat.zero_le _⟩) ?_
  refine xj_if_ne (tgt := 12) X dX8_setFloorLimit_7 rfl hf (fun hf => ?_) (fun hf => ?_)
  · refine xj_aload_n X 0 dX8_setFloorLimit_12 rfl rfl ?_
    refine xj_get X x_IW.P inG_X8 0 (wM_at0 ad cA σ) rfl 21 (by decide) mk3_106 (.int (σ 0 21)) rfl dX8_setFloorLimit_13 ?_
    refine xj_istore_n (lv' := [(2, .int (σ 0 21)), (0, .ref (ad 0)), (1, .int p1)]) X dX8_setFloorLimit_16 rfl (Nat.le_of_ble_eq_true rfl) rfl ?_
    refine xj_sub [1, 2, 0] rfl ?_
    refine xj_aload_n X 0 dX8_setFloorLimit_17 rfl rfl ?_
    refine xj_iload_n X 1 dX8_setFloorLimit_18 rfl rfl ?_
    refine xj_put X (wM_D hj cA _) inG_X8 tyX8_ok nmX8 0 (wM_at0 ad cA σ) rfl 21 (by decide) mk3_106 rfl .int rfl rfl rfl (Nat.le_of_ble_eq_true rfl) (wM_st0_21 ad cA σ p1) dX8_setFloorLimit_19 ?_
    refine xj_iload_n X 2 dX8_setFloorLimit_22 rfl rfl ?_
    exact xj_iret_wr X hr (x_2a hf) (congrArg (wM ad cA) (x_2b hf)) dX8_setFloorLimit_23
  · refine xj_iconst (x := (-1 : Int32)) X dX8_setFloorLimit_10 rfl ?_
    exact xj_iret_wr X hr (x_2a hf) (congrArg (wM ad cA) (x_2b hf)) dX8_setFloorLimit_11
set_option maxHeartbeats 4000000 in
set_option maxRecDepth 100000 in
theorem ctX8_setOfflineLimits (l : Launch) (D : va_G) (cA : ClassId) {ad : Nat → Nat} (hj : x_inj 20 ad) (σ : x_M) (p1 : Int32) (p2 : Int32) (r0 : Int32) (σ0 : x_M) (hf : fX8_setOfflineLimits σ p1 p2 = some (r0, σ0)) : Met l yX8_setOfflineLimits zX8_setOfflineLimits ({ frames := 1, cells := 0, slots := 0, locals := 22 } : Room) (x_P D cA [.ref (ad 0), .int p1, .int p2] (wM ad cA σ)) (x_U D (some (.int r0)) (wM ad cA σ0) (x_A 20 ad)) 0 0 (x_A 20 ad) := by
  refine x_met (cc := cX8_setOfflineLimits) (maxL := 4) (ret := (some .int)) RX8 rfl (by decide) rfl [(0, .ref (ad 0)), (1, .int p1), (2, .int p2)] rfl (Nat.le_of_ble_eq_true rfl) ?_
  intro p e s m args below meth c hr X
  refine xj_w (A := x_A 20 ad) ?_
  rw [fX8_setOfflineLimits] at hf
  refine xj_iload_n X 1 dX8_setOfflineLimits_0 rfl rfl ?_
  refine xj_iconst (x := (0 : Int32)) X dX8_setOfflineLimits_1 rfl ?_
  refine xj_bipush (x := (15 : Int32)) X dX8_setOfflineLimits_2 rfl ?_
  refine xj_roI (r := b2i (fX8_in p1 ((0 : Int32)) ((15 : Int32)))) (rest := []) (fun _ h => h) (x_runS X (ctX8_in l D cA ad σ p1 ((0 : Int32)) ((15 : Int32)) _ rfl) (x_cwS X kwX8_in mk3_201 rfl rfl ⟨Nat.le_of_ble_eq_true rfl, Nat.le_of_ble_eq_true rfl⟩) x_IW.P rfl rfl (Nat.le_of_ble_eq_true rfl) dX8_setOfflineLimits_4 ⟨Nat.zero_le _, Nat.zero_le _⟩) ?_
  refine xj_if_eq (tgt := 20) X dX8_setOfflineLimits_7 rfl hf (fun hf => ?_) (fun hf => ?_)
  · refine xj_iconst (x := (-1 : Int32)) X dX8_setOfflineLimits_20 rfl ?_
    exact xj_iret_wr X hr (x_2a hf) (congrArg (wM ad cA) (x_2b hf)) dX8_setOfflineLimits_21
  · refine xj_iload_n X 2 dX8_setOfflineLimits_10 rfl rfl ?_
    refine xj_iload_n X 1 dX8_setOfflineLimits_11 rfl rfl ?_
    refine xj_bipush (x := (15 : Int32)) X dX8_setOfflineLimits_12 rfl ?_
    refine xj_roI (r := b2i (fX8_in p2 p1 ((15 : Int32)))) (rest := []) (fun _ h => h) (x_runS X (ctX8_in l D cA ad σ p2 p1 ((15 : Int32)) _ rfl) (x_cwS X kwX8_in mk3_201 rfl rfl ⟨Nat.le_of_ble_eq_true rfl, Nat.le_of_ble_eq_true rfl⟩) x_IW.P rfl rfl (Nat.le_of_ble_eq_true rfl) dX8_setOfflineLimits_14 ⟨Nat.zero_le _, Nat.zero_le _⟩) ?_
    refine xj_if_ne (tgt := 22) X dX8_setOfflineLimits_17 rfl hf (fun hf => ?_) (fun hf => ?_)
    · refine xj_bipush (x := (16 : Int32)) X dX8_setOfflineLimits_22 rfl ?_
      refine xj_aload_n X 0 dX8_setOfflineLimits_24 rfl rfl ?_
      refine xj_get X x_IW.P inG_X8 0 (wM_at0 ad cA σ) rfl 22 (by decide) mk3_107 (.int (σ 0 22)) rfl dX8_setOfflineLimits_25 ?_
      refine xj_imul X dX8_setOfflineLimits_28 ?_
      refine xj_aload_n X 0 dX8_setOfflineLimits_29 rfl rfl ?_
      refine xj_get X x_IW.P inG_X8 0 (wM_at0 ad cA σ) rfl 23 (by decide) mk3_108 (.int (σ 0 23)) rfl dX8_setOfflineLimits_30 ?_
      refine xj_iadd X dX8_setOfflineLimits_33 ?_
      refine xj_istore_n (lv' := [(3, .int ((((16 : Int32)) * (σ 0 22)) + (σ 0 23))), (0, .ref (ad 0)), (1, .int p1), (2, .int p2)]) X dX8_setOfflineLimits_34 rfl (Nat.le_of_ble_eq_true rfl) rfl ?_
      refine xj_sub [1, 2, 3, 0] rfl ?_
      refine xj_aload_n X 0 dX8_setOfflineLimits_35 rfl rfl ?_
      refine xj_iload_n X 1 dX8_setOfflineLimits_36 rfl rfl ?_
      refine xj_put X (wM_D hj cA _) inG_X8 tyX8_ok nmX8 0 (wM_at0 ad cA σ) rfl 22 (by decide) mk3_107 rfl .int rfl rfl rfl (Nat.le_of_ble_eq_true rfl) (wM_st0_22 ad cA σ p1) dX8_setOfflineLimits_37 ?_
      refine xj_aload_n X 0 dX8_setOfflineLimits_40 rfl rfl ?_
      refine xj_iload_n X 2 dX8_setOfflineLimits_41 rfl rfl ?_
      refine xj_put X (wM_D hj cA _) inG_X8 tyX8_ok nmX8 0 (wM_at0 ad cA (up2 σ 0 22 p1)) rfl 23 (by decide) mk3_108 rfl .int rfl rfl rfl (Nat.le_of_ble_eq_true rfl) (wM_st0_23 ad cA (up2 σ 0 22 p1) p2) dX8_setOfflineLimits_42 ?_
      refine xj_iload_n X 3 dX8_setOfflineLimits_45 rfl rfl ?_
      exact xj_iret_wr X hr (x_2a hf) (congrArg (wM ad cA) (x_2b hf)) dX8_setOfflineLimits_46
    · refine xj_iconst (x := (-1 : Int32)) X dX8_setOfflineLimits_20 rfl ?_
      exact xj_iret_wr X hr (x_2a hf) (congrArg (wM ad cA) (x_2b hf)) dX8_setOfflineLimits_21
set_option maxHeartbeats 4000000 in
set_option maxRecDepth 100000 in
theorem ctX8_setRandomTarget (l : Launch) (D : va_G) (cA : ClassId) {ad : Nat → Nat} (hj : x_inj 20 ad) (σ : x_M) (p1 : Int32) (r0 : Int32) (σ0 : x_M) (hf : fX8_setRandomTarget σ p1 = some (r0, σ0)) : Met l yX8_setRandomTarget zX8_setRandomTarget ({ frames := 1, cells := 0, slots := 0, locals := 22 } : Room) (x_P D cA [.ref (ad 0), .int p1] (wM ad cA σ)) (x_U D (some (.int r0)) (wM ad cA σ0) (x_A 20 ad)) 0 0 (x_A 20 ad) := by
  refine x_met (cc := cX8_setRandomTarget) (maxL := 3) (ret := (some .int)) RX8 rfl (by decide) rfl [(0, .ref (ad 0)), (1, .int p1)] rfl (Nat.le_of_ble_eq_true rfl) ?_
  intro p e s m args below meth c hr X
  refine xj_w (A := x_A 20 ad) ?_
  rw [fX8_setRandomTarget] at hf
  refine xj_iload_n X 1 dX8_setRandomTarget_0 rfl rfl ?_
  refine xj_iconst (x := (0 : Int32)) X dX8_setRandomTarget_1 rfl ?_
  refine xj_bipush (x := (100 : Int32)) X dX8_setRandomTarget_2 rfl ?_
  refine xj_roI (r := b2i (fX8_in p1 ((0 : Int32)) ((100 : Int32)))) (rest := []) (fun _ h => h) (x_runS X (ctX8_in l D cA ad σ p1 ((0 : Int32)) ((100 : Int32)) _ rfl) (x_cwS X kwX8_in mk3_201 rfl rfl ⟨Nat.le_of_ble_eq_true rfl, Nat.le_of_ble_eq_true rfl⟩) x_IW.P rfl rfl (Nat.le_of_ble_eq_true rfl) dX8_setRandomTarget_4 ⟨Nat.zero_le _, Nat.zero_le _⟩) ?_
  refine xj_if_ne (tgt := 12) X dX8_setRandomTarget_7 rfl hf (fun hf => ?_) (fun hf => ?_)
  · refine xj_aload_n X 0 dX8_setRandomTarget_12 rfl rfl ?_
    refine xj_get X x_IW.P inG_X8 0 (wM_at0 ad cA σ) rfl 24 (by decide) mk3_109 (.int (σ 0 24)) rfl dX8_setRandomTarget_13 ?_
    refine xj_istore_n (lv' := [(2, .int (σ 0 24)), (0, .ref (ad 0)), (1, .int p1)]) X dX8_setRandomTarget_16 rfl (Nat.le_of_ble_eq_true rfl) rfl ?_
    refine xj_sub [1, 2, 0] rfl ?_
    refine xj_aload_n X 0 dX8_setRandomTarget_17 rfl rfl ?_
    refine xj_iload_n X 1 dX8_setRandomTarget_18 rfl rfl ?_
    refine xj_put X (wM_D hj cA _) inG_X8 tyX8_ok nmX8 0 (wM_at0 ad cA σ) rfl 24 (by decide) mk3_109 rfl .int rfl rfl rfl (Nat.le_of_ble_eq_true rfl) (wM_st0_24 ad cA σ p1) dX8_setRandomTarget_19 ?_
    refine xj_iload_n X 2 dX8_setRandomTarget_22 rfl rfl ?_
    exact xj_iret_wr X hr (x_2a hf) (congrArg (wM ad cA) (x_2b hf)) dX8_setRandomTarget_23
  · refine xj_iconst (x := (-1 : Int32)) X dX8_setRandomTarget_10 rfl ?_
    exact xj_iret_wr X hr (x_2a hf) (congrArg (wM ad cA) (x_2b hf)) dX8_setRandomTarget_11
set_option maxHeartbeats 4000000 in
set_option maxRecDepth 100000 in
theorem ctX8_setOnline (l : Launch) (D : va_G) (cA : ClassId) {ad : Nat → Nat} (hj : x_inj 20 ad) (σ : x_M) (p1 : Bool) (r0 : Int32) (σ0 : x_M) (hf : fX8_setOnline σ p1 = some (r0, σ0)) : Met l yX8_setOnline zX8_setOnline ({ frames := 0, cells := 0, slots := 0, locals := 0 } : Room) (x_P D cA [.ref (ad 0), .int (b2i p1)] (wM ad cA σ)) (x_U D (some (.int r0)) (wM ad cA σ0) (x_A 20 ad)) 0 0 (x_A 20 ad) := by
  refine x_met (cc := cX8_setOnline) (maxL := 3) (ret := (some .int)) RX8 rfl (by decide) rfl [(0, .ref (ad 0)), (1, .int (b2i p1))] rfl (Nat.le_of_ble_eq_true rfl) ?_
  intro p e s m args below meth c hr X
  refine xj_w (A := x_A 20 ad) ?_
  rw [fX8_setOnline] at hf
  refine xj_aload_n X 0 dX8_setOnline_0 rfl rfl ?_
  refine xj_get X x_IW.P inG_X8 0 (wM_at0 ad cA σ) rfl 25 (by decide) mk3_110 (.int (σ 0 25)) rfl dX8_setOnline_1 ?_
  refine xj_if_eq (tgt := 11) X dX8_setOnline_4 rfl hf (fun hf => ?_) (fun hf => ?_)
  · refine xj_iconst (x := (0 : Int32)) X dX8_setOnline_11 rfl ?_
    refine xj_istore_n (lv' := [(2, .int ((0 : Int32))), (0, .ref (ad 0)), (1, .int (b2i p1))]) X dX8_setOnline_12 rfl (Nat.le_of_ble_eq_true rfl) rfl ?_
    refine xj_sub [1, 2, 0] rfl ?_
    refine xj_aload_n X 0 dX8_setOnline_13 rfl rfl ?_
    refine xj_iload_n X 1 dX8_setOnline_14 rfl rfl ?_
    refine xj_put X (wM_D hj cA _) inG_X8 tyX8_ok nmX8 0 (wM_at0 ad cA σ) rfl 25 (by decide) mk3_110 rfl .boolean rfl (x_nar _) (x_fit _) (Nat.le_of_ble_eq_true rfl) (wM_st0_25 ad cA σ (b2i p1)) dX8_setOnline_15 ?_
    refine xj_iload_n X 2 dX8_setOnline_18 rfl rfl ?_
    exact xj_iret_wr X hr (x_2a hf) (congrArg (wM ad cA) (x_2b hf)) dX8_setOnline_19
  · refine xj_iconst (x := (1 : Int32)) X dX8_setOnline_7 rfl ?_
    refine xj_goto (tgt := 12) X dX8_setOnline_8 rfl ?_
    refine xj_istore_n (lv' := [(2, .int ((1 : Int32))), (0, .ref (ad 0)), (1, .int (b2i p1))]) X dX8_setOnline_12 rfl (Nat.le_of_ble_eq_true rfl) rfl ?_
    refine xj_sub [1, 2, 0] rfl ?_
    refine xj_aload_n X 0 dX8_setOnline_13 rfl rfl ?_
    refine xj_iload_n X 1 dX8_setOnline_14 rfl rfl ?_
    refine xj_put X (wM_D hj cA _) inG_X8 tyX8_ok nmX8 0 (wM_at0 ad cA σ) rfl 25 (by decide) mk3_110 rfl .boolean rfl (x_nar _) (x_fit _) (Nat.le_of_ble_eq_true rfl) (wM_st0_25 ad cA σ (b2i p1)) dX8_setOnline_15 ?_
    refine xj_iload_n X 2 dX8_setOnline_18 rfl rfl ?_
    exact xj_iret_wr X hr (x_2a hf) (congrArg (wM ad cA) (x_2b hf)) dX8_setOnline_19
set_option maxHeartbeats 4000000 in
set_option maxRecDepth 100000 in
theorem ctX8_isSupported (l : Launch) (D : va_G) (cA : ClassId) (ad : Nat → Nat) (σ : x_M) (p1 : Int32) (r0 : Bool) (hf : fX8_isSupported σ p1 = some r0) : Met l yX8_isSupported zX8_isSupported ({ frames := 0, cells := 0, slots := 0, locals := 0 } : Room) (x_P D cA [.ref (ad 0), .int p1] (wM ad cA σ)) (x_R (some (.int (b2i r0)))) 0 0 (fun _ => False) := by
  refine x_met (cc := cX8_isSupported) (maxL := 5) (ret := (some .boolean)) RX8 rfl (by decide) rfl [(0, .ref (ad 0)), (1, .int p1)] rfl (Nat.le_of_ble_eq_true rfl) ?_
  intro p e s m args below meth c hr X
  have B_121 : ∀ (K2 : Int32 → Int32 → Option Bool) (_ : ∀ (v1 : Int32) (v2 : Int32), K2 v1 v2 = some r0 → x_J 5 p l e ({ frames := 0, cells := 0, slots := 0, locals := 0 } : Room) s m args below meth c 0 0 (x_IR D s (wM ad cA σ)) (MQ below (x_R (some (.int (b2i r0)))) args s 0 0 (fun _ => False)) 2 [(0, .ref (ad 0)), (1, .int v1), (2, .int v2)] []) (v1 : Int32) (v2 : Int32) (v3 : Int32), fX8_isSupported_121 σ K2 v1 v2 v3 = some r0 → x_J 5 p l e ({ frames := 0, cells := 0, slots := 0, locals := 0 } : Room) s m args below meth c 0 0 (x_IR D s (wM ad cA σ)) (MQ below (x_R (some (.int (b2i r0)))) args s 0 0 (fun _ => False)) 121 [(0, .ref (ad 0)), (1, .int v1), (2, .int v2), (3, .int v3)] [] := by
    intro K2 hK2 v1 v2 v3 hf
    rw [fX8_isSupported_121] at hf
    refine xj_iload_n X 3 dX8_isSupported_121 rfl rfl ?_
    refine xj_if_eq (tgt := 127) X dX8_isSupported_122 rfl hf (fun hf => ?_) (fun hf => ?_)
    · refine xj_iinc (y := v2 + (1 : Int32)) (lv' := [(2, .int (v2 + (1 : Int32))), (0, .ref (ad 0)), (1, .int v1), (3, .int v3)]) X 2 dX8_isSupported_127 rfl rfl (Nat.le_of_ble_eq_true rfl) rfl ?_
      refine xj_sub [1, 2, 0, 3] rfl ?_
      refine xj_goto (tgt := 2) X dX8_isSupported_130 rfl ?_
      exact xj_sub [0, 1, 2] rfl (hK2 v1 (v2 + (1 : Int32)) hf)
    · refine xj_iconst (x := (1 : Int32)) X dX8_isSupported_125 rfl ?_
      exact xj_zret_ro X hr (x_b2i (x_1 hf)) dX8_isSupported_126
  have B_67 : ∀ (K2 : Int32 → Int32 → Option Bool) (_ : ∀ (v1 : Int32) (v2 : Int32), K2 v1 v2 = some r0 → x_J 5 p l e ({ frames := 0, cells := 0, slots := 0, locals := 0 } : Room) s m args below meth c 0 0 (x_IR D s (wM ad cA σ)) (MQ below (x_R (some (.int (b2i r0)))) args s 0 0 (fun _ => False)) 2 [(0, .ref (ad 0)), (1, .int v1), (2, .int v2)] []) (n : Nat) (v1 : Int32) (v2 : Int32) (v3 : Int32) (v4 : Int32), fX8_isSupported_67 σ K2 n v1 v2 v3 v4 = some r0 → x_J 5 p l e ({ frames := 0, cells := 0, slots := 0, locals := 0 } : Room) s m args below meth c 0 0 (x_IR D s (wM ad cA σ)) (MQ below (x_R (some (.int (b2i r0)))) args s 0 0 (fun _ => False)) 67 [(0, .ref (ad 0)), (1, .int v1), (2, .int v2), (3, .int v3), (4, .int v4)] [] := by
    intro K2 hK2 n
    induction n with
    | zero => intro v1 v2 v3 v4 hf; rw [fX8_isSupported_67] at hf; cases hf
    | succ n ih =>
      intro v1 v2 v3 v4 hf
      rw [fX8_isSupported_67] at hf
      refine xj_iload X 4 dX8_isSupported_67 rfl ?_
      refine xj_aload_n X 0 dX8_isSupported_69 rfl rfl ?_
      refine xj_get X x_IR.P inG_X8 0 (wM_at0 ad cA σ) rfl 18 (by decide) mk3_103 (.ref (ad 13)) rfl dX8_isSupported_70 ?_
      refine xj_iload_n X 2 dX8_isSupported_73 rfl rfl ?_
      refine xj_iald X x_IR.P 13 (wM_at13 ad cA σ) hf ((σ 13) v2.toNatClampNeg) rfl dX8_isSupported_74 (fun hf => ?_)
      refine xj_icmp_ge (tgt := 121) X dX8_isSupported_75 rfl hf (fun hf => ?_) (fun hf => ?_)
      · exact xj_sub [0, 1, 2, 3] rfl (B_121 K2 hK2 v1 v2 v3 hf)
      · refine xj_iload_n X 3 dX8_isSupported_78 rfl rfl ?_
        refine xj_if_eq (tgt := 121) X dX8_isSupported_79 rfl hf (fun hf => ?_) (fun hf => ?_)
        · exact xj_sub [0, 1, 2, 3] rfl (B_121 K2 hK2 v1 v2 v3 hf)
        · refine xj_aload_n X 0 dX8_isSupported_82 rfl rfl ?_
          refine xj_get X x_IR.P inG_X8 0 (wM_at0 ad cA σ) rfl 9 (by decide) mk3_94 (.ref (ad 7)) rfl dX8_isSupported_83 ?_
          refine xj_bipush (x := (16 : Int32)) X dX8_isSupported_86 rfl ?_
          refine xj_iload_n X 1 dX8_isSupported_88 rfl rfl ?_
          refine xj_imul X dX8_isSupported_89 ?_
          refine xj_iload X 4 dX8_isSupported_90 rfl ?_
          refine xj_iadd X dX8_isSupported_92 ?_
          refine xj_iald X x_IR.P 7 (wM_at7 ad cA σ) hf ((σ 7) ((((16 : Int32)) * v1) + v4).toNatClampNeg) rfl dX8_isSupported_93 (fun hf => ?_)
          refine xj_aload_n X 0 dX8_isSupported_94 rfl rfl ?_
          refine xj_get X x_IR.P inG_X8 0 (wM_at0 ad cA σ) rfl 17 (by decide) mk3_102 (.ref (ad 12)) rfl dX8_isSupported_95 ?_
          refine xj_bipush (x := (16 : Int32)) X dX8_isSupported_98 rfl ?_
          refine xj_iload_n X 2 dX8_isSupported_100 rfl rfl ?_
          refine xj_imul X dX8_isSupported_101 ?_
          refine xj_iload X 4 dX8_isSupported_102 rfl ?_
          refine xj_iadd X dX8_isSupported_104 ?_
          refine xj_iald X x_IR.P 12 (wM_at12 ad cA σ) hf ((σ 12) ((((16 : Int32)) * v2) + v4).toNatClampNeg) rfl dX8_isSupported_105 (fun hf => ?_)
          refine xj_icmp_ne (tgt := 113) X dX8_isSupported_106 rfl hf (fun hf => ?_) (fun hf => ?_)
          · refine xj_iconst (x := (0 : Int32)) X dX8_isSupported_113 rfl ?_
            refine xj_istore_n (lv' := [(3, .int ((0 : Int32))), (0, .ref (ad 0)), (1, .int v1), (2, .int v2), (4, .int v4)]) X dX8_isSupported_114 rfl (Nat.le_of_ble_eq_true rfl) rfl ?_
            refine xj_sub [1, 2, 3, 0, 4] rfl ?_
            refine xj_iinc (y := v4 + (1 : Int32)) (lv' := [(4, .int (v4 + (1 : Int32))), (0, .ref (ad 0)), (1, .int v1), (2, .int v2), (3, .int ((0 : Int32)))]) X 4 dX8_isSupported_115 rfl rfl (Nat.le_of_ble_eq_true rfl) rfl ?_
            refine xj_sub [1, 2, 3, 4, 0] rfl ?_
            refine xj_goto (tgt := 67) X dX8_isSupported_118 rfl ?_
            exact ih v1 v2 ((0 : Int32)) (v4 + (1 : Int32)) hf
          · refine xj_iconst (x := (1 : Int32)) X dX8_isSupported_109 rfl ?_
            refine xj_goto (tgt := 114) X dX8_isSupported_110 rfl ?_
            refine xj_istore_n (lv' := [(3, .int ((1 : Int32))), (0, .ref (ad 0)), (1, .int v1), (2, .int v2), (4, .int v4)]) X dX8_isSupported_114 rfl (Nat.le_of_ble_eq_true rfl) rfl ?_
            refine xj_sub [1, 2, 3, 0, 4] rfl ?_
            refine xj_iinc (y := v4 + (1 : Int32)) (lv' := [(4, .int (v4 + (1 : Int32))), (0, .ref (ad 0)), (1, .int v1), (2, .int v2), (3, .int ((1 : Int32)))]) X 4 dX8_isSupported_115 rfl rfl (Nat.le_of_ble_eq_true rfl) rfl ?_
            refine xj_sub [1, 2, 3, 4, 0] rfl ?_
            refine xj_goto (tgt := 67) X dX8_isSupported_118 rfl ?_
            exact ih v1 v2 ((1 : Int32)) (v4 + (1 : Int32)) hf
  have B_2 : ∀ (n : Nat) (v1 : Int32) (v2 : Int32), fX8_isSupported_2 σ n v1 v2 = some r0 → x_J 5 p l e ({ frames := 0, cells := 0, slots := 0, locals := 0 } : Room) s m args below meth c 0 0 (x_IR D s (wM ad cA σ)) (MQ below (x_R (some (.int (b2i r0)))) args s 0 0 (fun _ => False)) 2 [(0, .ref (ad 0)), (1, .int v1), (2, .int v2)] [] := by
    intro n
    induction n with
    | zero => intro v1 v2 hf; rw [fX8_isSupported_2] at hf; cases hf
    | succ n ih =>
      intro v1 v2 hf
      rw [fX8_isSupported_2] at hf
      refine xj_iload_n X 2 dX8_isSupported_2 rfl rfl ?_
      refine xj_aload_n X 0 dX8_isSupported_3 rfl rfl ?_
      refine xj_get X x_IR.P inG_X8 0 (wM_at0 ad cA σ) rfl 16 (by decide) mk3_101 (.int (σ 0 16)) rfl dX8_isSupported_4 ?_
      refine xj_icmp_ge (tgt := 133) X dX8_isSupported_7 rfl hf (fun hf => ?_) (fun hf => ?_)
      · refine xj_iconst (x := (0 : Int32)) X dX8_isSupported_133 rfl ?_
        exact xj_zret_ro X hr (x_b2i (x_1 hf)) dX8_isSupported_134
      · refine xj_aload_n X 0 dX8_isSupported_10 rfl rfl ?_
        refine xj_get X x_IR.P inG_X8 0 (wM_at0 ad cA σ) rfl 19 (by decide) mk3_104 (.ref (ad 14)) rfl dX8_isSupported_11 ?_
        refine xj_iload_n X 2 dX8_isSupported_14 rfl rfl ?_
        refine xj_iald X x_IR.P 14 (wM_at14 ad cA σ) hf ((σ 14) v2.toNatClampNeg) rfl dX8_isSupported_15 (fun hf => ?_)
        refine xj_iconst (x := (1 : Int32)) X dX8_isSupported_16 rfl ?_
        refine xj_icmp_ne (tgt := 43) X dX8_isSupported_17 rfl hf (fun hf => ?_) (fun hf => ?_)
        · refine xj_aload_n X 0 dX8_isSupported_43 rfl rfl ?_
          refine xj_get X x_IR.P inG_X8 0 (wM_at0 ad cA σ) rfl 10 (by decide) mk3_95 (.ref (ad 8)) rfl dX8_isSupported_44 ?_
          refine xj_iload_n X 1 dX8_isSupported_47 rfl rfl ?_
          refine xj_iald X x_IR.P 8 (wM_at8 ad cA σ) hf ((σ 8) v1.toNatClampNeg) rfl dX8_isSupported_48 (fun hf => ?_)
          refine xj_aload_n X 0 dX8_isSupported_49 rfl rfl ?_
          refine xj_get X x_IR.P inG_X8 0 (wM_at0 ad cA σ) rfl 18 (by decide) mk3_103 (.ref (ad 13)) rfl dX8_isSupported_50 ?_
          refine xj_iload_n X 2 dX8_isSupported_53 rfl rfl ?_
          refine xj_iald X x_IR.P 13 (wM_at13 ad cA σ) hf ((σ 13) v2.toNatClampNeg) rfl dX8_isSupported_54 (fun hf => ?_)
          refine xj_icmp_ne (tgt := 62) X dX8_isSupported_55 rfl hf (fun hf => ?_) (fun hf => ?_)
          · refine xj_iconst (x := (0 : Int32)) X dX8_isSupported_62 rfl ?_
            refine xj_istore_n (lv' := [(3, .int ((0 : Int32))), (0, .ref (ad 0)), (1, .int v1), (2, .int v2)]) X dX8_isSupported_63 rfl (Nat.le_of_ble_eq_true rfl) rfl ?_
            refine xj_sub [1, 2, 3, 0] rfl ?_
            refine xj_iconst (x := (0 : Int32)) X dX8_isSupported_64 rfl ?_
            refine xj_istore (lv' := [(4, .int ((0 : Int32))), (0, .ref (ad 0)), (1, .int v1), (2, .int v2), (3, .int ((0 : Int32)))]) X dX8_isSupported_65 (Nat.le_of_ble_eq_true rfl) rfl ?_
            refine xj_sub [1, 2, 3, 4, 0] rfl ?_
            exact (B_67 (fX8_isSupported_2 σ n) ih x_fuel v1 v2 ((0 : Int32)) ((0 : Int32)) hf)
          · refine xj_iconst (x := (1 : Int32)) X dX8_isSupported_58 rfl ?_
            refine xj_goto (tgt := 63) X dX8_isSupported_59 rfl ?_
            refine xj_istore_n (lv' := [(3, .int ((1 : Int32))), (0, .ref (ad 0)), (1, .int v1), (2, .int v2)]) X dX8_isSupported_63 rfl (Nat.le_of_ble_eq_true rfl) rfl ?_
            refine xj_sub [1, 2, 3, 0] rfl ?_
            refine xj_iconst (x := (0 : Int32)) X dX8_isSupported_64 rfl ?_
            refine xj_istore (lv' := [(4, .int ((0 : Int32))), (0, .ref (ad 0)), (1, .int v1), (2, .int v2), (3, .int ((1 : Int32)))]) X dX8_isSupported_65 (Nat.le_of_ble_eq_true rfl) rfl ?_
            refine xj_sub [1, 2, 3, 4, 0] rfl ?_
            exact (B_67 (fX8_isSupported_2 σ n) ih x_fuel v1 v2 ((1 : Int32)) ((0 : Int32)) hf)
        · refine xj_aload_n X 0 dX8_isSupported_20 rfl rfl ?_
          refine xj_get X x_IR.P inG_X8 0 (wM_at0 ad cA σ) rfl 10 (by decide) mk3_95 (.ref (ad 8)) rfl dX8_isSupported_21 ?_
          refine xj_iload_n X 1 dX8_isSupported_24 rfl rfl ?_
          refine xj_iald X x_IR.P 8 (wM_at8 ad cA σ) hf ((σ 8) v1.toNatClampNeg) rfl dX8_isSupported_25 (fun hf => ?_)
          refine xj_aload_n X 0 dX8_isSupported_26 rfl rfl ?_
          refine xj_get X x_IR.P inG_X8 0 (wM_at0 ad cA σ) rfl 18 (by decide) mk3_103 (.ref (ad 13)) rfl dX8_isSupported_27 ?_
          refine xj_iload_n X 2 dX8_isSupported_30 rfl rfl ?_
          refine xj_iald X x_IR.P 13 (wM_at13 ad cA σ) hf ((σ 13) v2.toNatClampNeg) rfl dX8_isSupported_31 (fun hf => ?_)
          refine xj_icmp_lt (tgt := 39) X dX8_isSupported_32 rfl hf (fun hf => ?_) (fun hf => ?_)
          · refine xj_iconst (x := (0 : Int32)) X dX8_isSupported_39 rfl ?_
            refine xj_goto (tgt := 63) X dX8_isSupported_40 rfl ?_
            refine xj_istore_n (lv' := [(3, .int ((0 : Int32))), (0, .ref (ad 0)), (1, .int v1), (2, .int v2)]) X dX8_isSupported_63 rfl (Nat.le_of_ble_eq_true rfl) rfl ?_
            refine xj_sub [1, 2, 3, 0] rfl ?_
            refine xj_iconst (x := (0 : Int32)) X dX8_isSupported_64 rfl ?_
            refine xj_istore (lv' := [(4, .int ((0 : Int32))), (0, .ref (ad 0)), (1, .int v1), (2, .int v2), (3, .int ((0 : Int32)))]) X dX8_isSupported_65 (Nat.le_of_ble_eq_true rfl) rfl ?_
            refine xj_sub [1, 2, 3, 4, 0] rfl ?_
            exact (B_67 (fX8_isSupported_2 σ n) ih x_fuel v1 v2 ((0 : Int32)) ((0 : Int32)) hf)
          · refine xj_iconst (x := (1 : Int32)) X dX8_isSupported_35 rfl ?_
            refine xj_goto (tgt := 63) X dX8_isSupported_36 rfl ?_
            refine xj_istore_n (lv' := [(3, .int ((1 : Int32))), (0, .ref (ad 0)), (1, .int v1), (2, .int v2)]) X dX8_isSupported_63 rfl (Nat.le_of_ble_eq_true rfl) rfl ?_
            refine xj_sub [1, 2, 3, 0] rfl ?_
            refine xj_iconst (x := (0 : Int32)) X dX8_isSupported_64 rfl ?_
            refine xj_istore (lv' := [(4, .int ((0 : Int32))), (0, .ref (ad 0)), (1, .int v1), (2, .int v2), (3, .int ((1 : Int32)))]) X dX8_isSupported_65 (Nat.le_of_ble_eq_true rfl) rfl ?_
            refine xj_sub [1, 2, 3, 4, 0] rfl ?_
            exact (B_67 (fX8_isSupported_2 σ n) ih x_fuel v1 v2 ((1 : Int32)) ((0 : Int32)) hf)
  rw [fX8_isSupported] at hf
  refine xj_iconst (x := (0 : Int32)) X dX8_isSupported_0 rfl ?_
  refine xj_istore_n (lv' := [(2, .int ((0 : Int32))), (0, .ref (ad 0)), (1, .int p1)]) X dX8_isSupported_1 rfl (Nat.le_of_ble_eq_true rfl) rfl ?_
  refine xj_sub [1, 2, 0] rfl ?_
  exact (B_2 x_fuel p1 ((0 : Int32)) hf)
set_option maxHeartbeats 4000000 in
set_option maxRecDepth 100000 in
theorem ctX8_lists (l : Launch) (D : va_G) (cA : ClassId) {ad : Nat → Nat} (hj : x_inj 20 ad) (σ : x_M) (σ0 : x_M) (hf : fX8_lists σ = some σ0) : Met l yX8_lists zX8_lists ({ frames := 1, cells := 0, slots := 0, locals := 24 } : Room) (x_P D cA [.ref (ad 0)] (wM ad cA σ)) (x_U D none (wM ad cA σ0) (x_A 20 ad)) 0 0 (x_A 20 ad) := by
  refine x_met (cc := cX8_lists) (maxL := 3) (ret := none) RX8 rfl (by decide) rfl [(0, .ref (ad 0))] rfl (Nat.le_of_ble_eq_true rfl) ?_
  intro p e s m args below meth c hr X
  have B_15 : ∀ (K7 : x_M → Int32 → Option x_M) (_ : ∀ (σ : x_M) (v1 : Int32), K7 σ v1 = some σ0 → x_J 3 p l e ({ frames := 1, cells := 0, slots := 0, locals := 24 } : Room) s m args below meth c 0 0 (x_IW D s (x_A 20 ad) (wM ad cA σ)) (MQ below (x_U D none (wM ad cA σ0) (x_A 20 ad)) args s 0 0 (x_A 20 ad)) 7 [(0, .ref (ad 0)), (1, .int v1)] []) (n : Nat) (σ : x_M) (v1 : Int32) (v2 : Int32), fX8_lists_15 K7 n σ v1 v2 = some σ0 → x_J 3 p l e ({ frames := 1, cells := 0, slots := 0, locals := 24 } : Room) s m args below meth c 0 0 (x_IW D s (x_A 20 ad) (wM ad cA σ)) (MQ below (x_U D none (wM ad cA σ0) (x_A 20 ad)) args s 0 0 (x_A 20 ad)) 15 [(0, .ref (ad 0)), (1, .int v1), (2, .int v2)] [] := by
    intro K7 hK7 n
    induction n with
    | zero => intro σ v1 v2 hf; rw [fX8_lists_15] at hf; cases hf
    | succ n ih =>
      intro σ v1 v2 hf
      rw [fX8_lists_15] at hf
      refine xj_iload_n X 2 dX8_lists_15 rfl rfl ?_
      refine xj_aload_n X 0 dX8_lists_16 rfl rfl ?_
      refine xj_get X x_IW.P inG_X8 0 (wM_at0 ad cA σ) rfl 8 (by decide) mk3_93 (.int (σ 0 8)) rfl dX8_lists_17 ?_
      refine xj_icmp_ge (tgt := 70) X dX8_lists_20 rfl hf (fun hf => ?_) (fun hf => ?_)
      · refine xj_iinc (y := v1 + (1 : Int32)) (lv' := [(1, .int (v1 + (1 : Int32))), (0, .ref (ad 0)), (2, .int v2)]) X 1 dX8_lists_70 rfl rfl (Nat.le_of_ble_eq_true rfl) rfl ?_
        refine xj_sub [1, 0, 2] rfl ?_
        refine xj_goto (tgt := 7) X dX8_lists_73 rfl ?_
        exact xj_sub [0, 1] rfl (hK7 σ (v1 + (1 : Int32)) hf)
      · refine xj_aload_n X 0 dX8_lists_23 rfl rfl ?_
        refine xj_get X x_IW.P inG_X8 0 (wM_at0 ad cA σ) rfl 11 (by decide) mk3_96 (.ref (ad 9)) rfl dX8_lists_24 ?_
        refine xj_iload_n X 2 dX8_lists_27 rfl rfl ?_
        refine xj_iald X x_IW.P 9 (wM_at9 ad cA σ) hf ((σ 9) v2.toNatClampNeg) rfl dX8_lists_28 (fun hf => ?_)
        refine xj_iload_n X 1 dX8_lists_29 rfl rfl ?_
        refine xj_bipush (x := (16 : Int32)) X dX8_lists_30 rfl ?_
        refine xj_irem X dX8_lists_32 (by decide) ?_
        refine xj_icmp_ne (tgt := 64) X dX8_lists_33 rfl hf (fun hf => ?_) (fun hf => ?_)
        · refine xj_iinc (y := v2 + (1 : Int32)) (lv' := [(2, .int (v2 + (1 : Int32))), (0, .ref (ad 0)), (1, .int v1)]) X 2 dX8_lists_64 rfl rfl (Nat.le_of_ble_eq_true rfl) rfl ?_
          refine xj_sub [1, 2, 0] rfl ?_
          refine xj_goto (tgt := 15) X dX8_lists_67 rfl ?_
          exact ih σ v1 (v2 + (1 : Int32)) hf
        · refine xj_aload_n X 0 dX8_lists_36 rfl rfl ?_
          refine xj_iload_n X 2 dX8_lists_37 rfl rfl ?_
          obtain ⟨x1_38, hx1_38, hf⟩ := x_bind hf
          refine xj_roI (r := b2i x1_38) (rest := []) (fun _ h => h) (x_runV X (ctX8_isSupported l D cA ad σ v2 _ hx1_38) (x_cwV X kwX8_isSupported mk4_61 rfl rfl ⟨Nat.le_of_ble_eq_true rfl, Nat.le_of_ble_eq_true rfl⟩) x_IW.P 0 (wM_at0 ad cA σ) rfl rfl rfl (Nat.le_of_ble_eq_true rfl) dX8_lists_38 ⟨Nat.zero_le _, Nat.zero_le _⟩) ?_
          refine xj_if_eq (tgt := 64) X dX8_lists_41 rfl hf (fun hf => ?_) (fun hf => ?_)
          · refine xj_iinc (y := v2 + (1 : Int32)) (lv' := [(2, .int (v2 + (1 : Int32))), (0, .ref (ad 0)), (1, .int v1)]) X 2 dX8_lists_64 rfl rfl (Nat.le_of_ble_eq_true rfl) rfl ?_
            refine xj_sub [1, 2, 0] rfl ?_
            refine xj_goto (tgt := 15) X dX8_lists_67 rfl ?_
            exact ih σ v1 (v2 + (1 : Int32)) hf
          · refine xj_aload_n X 0 dX8_lists_44 rfl rfl ?_
            refine xj_get X x_IW.P inG_X8 0 (wM_at0 ad cA σ) rfl 36 (by decide) mk3_121 (.ref (ad 19)) rfl dX8_lists_45 ?_
            refine xj_aload_n X 0 dX8_lists_48 rfl rfl ?_
            refine xj_get X x_IW.P inG_X8 0 (wM_at0 ad cA σ) rfl 35 (by decide) mk3_120 (.int (σ 0 35)) rfl dX8_lists_49 ?_
            refine xj_iload_n X 2 dX8_lists_52 rfl rfl ?_
            refine xj_iast X (wM_D hj cA _) 19 (wM_at19 ad cA σ) hf (wM_ar19 ad cA σ (σ 0 35).toNatClampNeg v2) dX8_lists_53 (fun hf => ?_)
            refine xj_aload_n X 0 dX8_lists_54 rfl rfl ?_
            refine xj_dup X dX8_lists_55 rfl ?_
            refine xj_get X x_IW.P inG_X8 0 (wM_at0 ad cA (up2 σ 19 (σ 0 35).toNatClampNeg v2)) rfl 35 (by decide) mk3_120 (.int (σ 0 35)) rfl dX8_lists_56 ?_
            refine xj_iconst (x := (1 : Int32)) X dX8_lists_59 rfl ?_
            refine xj_iadd X dX8_lists_60 ?_
            refine xj_put X (wM_D hj cA _) inG_X8 tyX8_ok nmX8 0 (wM_at0 ad cA (up2 σ 19 (σ 0 35).toNatClampNeg v2)) rfl 35 (by decide) mk3_120 rfl .int rfl rfl rfl (Nat.le_of_ble_eq_true rfl) (wM_st0_35 ad cA (up2 σ 19 (σ 0 35).toNatClampNeg v2) ((σ 0 35) + ((1 : Int32)))) dX8_lists_61 ?_
            refine xj_iinc (y := v2 + (1 : Int32)) (lv' := [(2, .int (v2 + (1 : Int32))), (0, .ref (ad 0)), (1, .int v1)]) X 2 dX8_lists_64 rfl rfl (Nat.le_of_ble_eq_true rfl) rfl ?_
            refine xj_sub [1, 2, 0] rfl ?_
            refine xj_goto (tgt := 15) X dX8_lists_67 rfl ?_
            exact ih (up2 (up2 σ 19 (σ 0 35).toNatClampNeg v2) 0 35 ((σ 0 35) + ((1 : Int32)))) v1 (v2 + (1 : Int32)) hf
  have B_7 : ∀ (n : Nat) (σ : x_M) (v1 : Int32), fX8_lists_7 n σ v1 = some σ0 → x_J 3 p l e ({ frames := 1, cells := 0, slots := 0, locals := 24 } : Room) s m args below meth c 0 0 (x_IW D s (x_A 20 ad) (wM ad cA σ)) (MQ below (x_U D none (wM ad cA σ0) (x_A 20 ad)) args s 0 0 (x_A 20 ad)) 7 [(0, .ref (ad 0)), (1, .int v1)] [] := by
    intro n
    induction n with
    | zero => intro σ v1 hf; rw [fX8_lists_7] at hf; cases hf
    | succ n ih =>
      intro σ v1 hf
      rw [fX8_lists_7] at hf
      refine xj_iload_n X 1 dX8_lists_7 rfl rfl ?_
      refine xj_bipush (x := (17 : Int32)) X dX8_lists_8 rfl ?_
      refine xj_icmp_ge (tgt := 76) X dX8_lists_10 rfl hf (fun hf => ?_) (fun hf => ?_)
      · exact xj_vret_wr X hr (congrArg (wM ad cA) (x_1 hf)) dX8_lists_76
      · refine xj_iconst (x := (0 : Int32)) X dX8_lists_13 rfl ?_
        refine xj_istore_n (lv' := [(2, .int ((0 : Int32))), (0, .ref (ad 0)), (1, .int v1)]) X dX8_lists_14 rfl (Nat.le_of_ble_eq_true rfl) rfl ?_
        refine xj_sub [1, 2, 0] rfl ?_
        exact (B_15 (fX8_lists_7 n) ih x_fuel σ v1 ((0 : Int32)) hf)
  refine xj_w (A := x_A 20 ad) ?_
  rw [fX8_lists] at hf
  refine xj_aload_n X 0 dX8_lists_0 rfl rfl ?_
  refine xj_iconst (x := (0 : Int32)) X dX8_lists_1 rfl ?_
  refine xj_put X (wM_D hj cA _) inG_X8 tyX8_ok nmX8 0 (wM_at0 ad cA σ) rfl 35 (by decide) mk3_120 rfl .int rfl rfl rfl (Nat.le_of_ble_eq_true rfl) (wM_st0_35 ad cA σ ((0 : Int32))) dX8_lists_2 ?_
  refine xj_iconst (x := (1 : Int32)) X dX8_lists_5 rfl ?_
  refine xj_istore_n (lv' := [(1, .int ((1 : Int32))), (0, .ref (ad 0))]) X dX8_lists_6 rfl (Nat.le_of_ble_eq_true rfl) rfl ?_
  refine xj_sub [1, 0] rfl ?_
  exact (B_7 x_fuel (up2 σ 0 35 ((0 : Int32))) ((1 : Int32)) hf)
set_option maxHeartbeats 4000000 in
set_option maxRecDepth 100000 in
theorem ctX8_candidateCount (l : Launch) (D : va_G) (cA : ClassId) {ad : Nat → Nat} (hj : x_inj 20 ad) (σ : x_M) (r0 : Int32) (σ0 : x_M) (hf : fX8_candidateCount σ = some (r0, σ0)) : Met l yX8_candidateCount zX8_candidateCount ({ frames := 2, cells := 0, slots := 0, locals := 46 } : Room) (x_P D cA [.ref (ad 0)] (wM ad cA σ)) (x_U D (some (.int r0)) (wM ad cA σ0) (x_A 20 ad)) 0 0 (x_A 20 ad) := by
  refine x_met (cc := cX8_candidateCount) (maxL := 1) (ret := (some .int)) RX8 rfl (by decide) rfl [(0, .ref (ad 0))] rfl (Nat.le_of_ble_eq_true rfl) ?_
  intro p e s m args below meth c hr X
  refine xj_w (A := x_A 20 ad) ?_
  rw [fX8_candidateCount] at hf
  refine xj_aload_n X 0 dX8_candidateCount_0 rfl rfl ?_
  obtain ⟨x1_1, hx1_1, hf⟩ := x_bind hf
  refine xj_wrV (rest := []) (x_runV X (ctX8_lists l D cA hj σ x1_1 hx1_1) (x_cwV X kwX8_lists mk4_57 rfl rfl ⟨Nat.le_of_ble_eq_true rfl, Nat.le_of_ble_eq_true rfl⟩) x_IW.P 0 (wM_at0 ad cA σ) rfl rfl rfl (Nat.le_of_ble_eq_true rfl) dX8_candidateCount_1 ⟨Nat.zero_le _, Nat.zero_le _⟩) (fun _ _ _ h _ => h) (fun _ h => h) ?_
  refine xj_aload_n X 0 dX8_candidateCount_4 rfl rfl ?_
  refine xj_get X x_IW.P inG_X8 0 (wM_at0 ad cA x1_1) rfl 35 (by decide) mk3_120 (.int (x1_1 0 35)) rfl dX8_candidateCount_5 ?_
  exact xj_iret_wr X hr (x_2a hf) (congrArg (wM ad cA) (x_2b hf)) dX8_candidateCount_8
set_option maxHeartbeats 4000000 in
set_option maxRecDepth 100000 in
theorem ctX8_candidateAt (l : Launch) (D : va_G) (cA : ClassId) {ad : Nat → Nat} (hj : x_inj 20 ad) (σ : x_M) (p1 : Int32) (r0 : Int32) (σ0 : x_M) (hf : fX8_candidateAt σ p1 = some (r0, σ0)) : Met l yX8_candidateAt zX8_candidateAt ({ frames := 2, cells := 0, slots := 0, locals := 46 } : Room) (x_P D cA [.ref (ad 0), .int p1] (wM ad cA σ)) (x_U D (some (.int r0)) (wM ad cA σ0) (x_A 20 ad)) 0 0 (x_A 20 ad) := by
  refine x_met (cc := cX8_candidateAt) (maxL := 2) (ret := (some .int)) RX8 rfl (by decide) rfl [(0, .ref (ad 0)), (1, .int p1)] rfl (Nat.le_of_ble_eq_true rfl) ?_
  intro p e s m args below meth c hr X
  refine xj_w (A := x_A 20 ad) ?_
  rw [fX8_candidateAt] at hf
  refine xj_iload_n X 1 dX8_candidateAt_0 rfl rfl ?_
  refine xj_if_ge (tgt := 6) X dX8_candidateAt_1 rfl hf (fun hf => ?_) (fun hf => ?_)
  · refine xj_aload_n X 0 dX8_candidateAt_6 rfl rfl ?_
    obtain ⟨x1_7, hx1_7, hf⟩ := x_bind hf
    refine xj_wrV (rest := []) (x_runV X (ctX8_lists l D cA hj σ x1_7 hx1_7) (x_cwV X kwX8_lists mk4_57 rfl rfl ⟨Nat.le_of_ble_eq_true rfl, Nat.le_of_ble_eq_true rfl⟩) x_IW.P 0 (wM_at0 ad cA σ) rfl rfl rfl (Nat.le_of_ble_eq_true rfl) dX8_candidateAt_7 ⟨Nat.zero_le _, Nat.zero_le _⟩) (fun _ _ _ h _ => h) (fun _ h => h) ?_
    refine xj_iload_n X 1 dX8_candidateAt_10 rfl rfl ?_
    refine xj_aload_n X 0 dX8_candidateAt_11 rfl rfl ?_
    refine xj_get X x_IW.P inG_X8 0 (wM_at0 ad cA x1_7) rfl 35 (by decide) mk3_120 (.int (x1_7 0 35)) rfl dX8_candidateAt_12 ?_
    refine xj_icmp_ge (tgt := 27) X dX8_candidateAt_15 rfl hf (fun hf => ?_) (fun hf => ?_)
    · refine xj_bipush (x := (-4 : Int32)) X dX8_candidateAt_27 rfl ?_
      exact xj_iret_wr X hr (x_2a hf) (congrArg (wM ad cA) (x_2b hf)) dX8_candidateAt_29
    · refine xj_aload_n X 0 dX8_candidateAt_18 rfl rfl ?_
      refine xj_get X x_IW.P inG_X8 0 (wM_at0 ad cA x1_7) rfl 36 (by decide) mk3_121 (.ref (ad 19)) rfl dX8_candidateAt_19 ?_
      refine xj_iload_n X 1 dX8_candidateAt_22 rfl rfl ?_
      refine xj_iald X x_IW.P 19 (wM_at19 ad cA x1_7) hf ((x1_7 19) p1.toNatClampNeg) rfl dX8_candidateAt_23 (fun hf => ?_)
      refine xj_goto (tgt := 29) X dX8_candidateAt_24 rfl ?_
      exact xj_iret_wr X hr (x_2a hf) (congrArg (wM ad cA) (x_2b hf)) dX8_candidateAt_29
  · refine xj_iconst (x := (-1 : Int32)) X dX8_candidateAt_4 rfl ?_
    exact xj_iret_wr X hr (x_2a hf) (congrArg (wM ad cA) (x_2b hf)) dX8_candidateAt_5
