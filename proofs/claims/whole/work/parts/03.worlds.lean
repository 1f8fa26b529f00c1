theorem nI_le_cl {i : Int32} {N : Nat} (h : ¬ i < 0) (q : N ≤ i.toNatClampNeg) (hN : N < 2 ^ 31) : Int32.ofNat N ≤ i := by
  obtain ⟨j, hj, rfl⟩ := nI_of h
  rw [nI_clamp hj] at q
  exact nI_le q hj
def wX (ad : Nat → Nat) (cA : ClassId) (σ : x_M) : va_W := [(ad 0, .inr (7, [.ref (ad 1), .ref (ad 3), .ref (ad 9), .ref (ad 15), .ref (ad 21), .ref (ad 24)])), (ad 1, .inr (0, [.ref (ad 2), .int (σ 1 1)])), (ad 2, .inl (cA, 120, .inl (σ 2))), (ad 3, .inr (2, [.ref (ad 4), .ref (ad 5), .ref (ad 6), .ref (ad 7), .ref (ad 8), .int (σ 3 5), .int (σ 3 6), .int (σ 3 7)])), (ad 4, .inl (cA, 24, .inl (σ 4))), (ad 5, .inl (cA, 24, .inl (σ 5))), (ad 6, .inl (cA, 24, .inl (σ 6))), (ad 7, .inl (cA, 24, .inl (σ 7))), (ad 8, .inl (cA, 24, .inl (σ 8))), (ad 9, .inr (1, [.ref (ad 10), .ref (ad 13), .int (σ 9 2), .int (σ 9 3), .int (σ 9 4), .ref (ad 14)])), (ad 10, .inr (3, [.ref (ad 11), .int (σ 10 1), .ref (ad 12)])), (ad 11, .inl (cA, 6, .inl (σ 11))), (ad 12, .inl (cA, 96, .inl (σ 12))), (ad 13, .inl (cA, 3, .inl (σ 13))), (ad 14, .inl (cA, 6, .inl (σ 14))), (ad 15, .inr (5, [.ref (ad 16), .ref (ad 19), .int (σ 15 2), .int (σ 15 3), .int (σ 15 4), .int (σ 15 5), .int (σ 15 6), .ref (ad 20)])), (ad 16, .inr (3, [.ref (ad 17), .int (σ 16 1), .ref (ad 18)])), (ad 17, .inl (cA, 6, .inl (σ 17))), (ad 18, .inl (cA, 96, .inl (σ 18))), (ad 19, .inl (cA, 3, .inl (σ 19))), (ad 20, .inl (cA, 5, .inl (σ 20))), (ad 21, .inr (6, [.ref (ad 22), .ref (ad 23), .int (σ 21 2), .int (σ 21 3), .int (σ 21 4)])), (ad 22, .inl (cA, 4, .inl (σ 22))), (ad 23, .inl (cA, 4, .inl (σ 23))), (ad 24, .inr (4, [.int (σ 24 0), .ref (ad 25)])), (ad 25, .inl (cA, 3, .inl (σ 25)))]
theorem wX_at0 (ad : Nat → Nat) (cA : ClassId) (σ : x_M) : (wX ad cA σ)[0]? = some (ad 0, .inr (7, [.ref (ad 1), .ref (ad 3), .ref (ad 9), .ref (ad 15), .ref (ad 21), .ref (ad 24)])) := rfl
theorem wX_at1 (ad : Nat → Nat) (cA : ClassId) (σ : x_M) : (wX ad cA σ)[1]? = some (ad 1, .inr (0, [.ref (ad 2), .int (σ 1 1)])) := rfl
theorem wX_st1_1 (ad : Nat → Nat) (cA : ClassId) (σ : x_M) (v : Int32) : (wX ad cA σ).set 1 (ad 1, .inr (0, ([.ref (ad 2), .int (σ 1 1)] : List Value).set 1 (.int v))) = wX ad cA (up2 σ 1 1 v) := rfl
theorem wX_at2 (ad : Nat → Nat) (cA : ClassId) (σ : x_M) : (wX ad cA σ)[2]? = some (ad 2, .inl (cA, 120, .inl (σ 2))) := rfl
theorem wX_ar2 (ad : Nat → Nat) (cA : ClassId) (σ : x_M) (i : Nat) (v : Int32) : (wX ad cA σ).set 2 (ad 2, .inl (cA, 120, .inl (upd (σ 2) i v))) = wX ad cA (up2 σ 2 i v) := rfl
theorem wX_pu2 (ad : Nat → Nat) (cA : ClassId) (σ : x_M) (i v : Int32) : (wX ad cA σ).set 2 (ad 2, .inl (cA, 120, .inl (x_pt 120 (σ 2) i v))) = wX ad cA (pu σ 2 120 i v) := rfl
theorem wX_at3 (ad : Nat → Nat) (cA : ClassId) (σ : x_M) : (wX ad cA σ)[3]? = some (ad 3, .inr (2, [.ref (ad 4), .ref (ad 5), .ref (ad 6), .ref (ad 7), .ref (ad 8), .int (σ 3 5), .int (σ 3 6), .int (σ 3 7)])) := rfl
theorem wX_st3_5 (ad : Nat → Nat) (cA : ClassId) (σ : x_M) (v : Int32) : (wX ad cA σ).set 3 (ad 3, .inr (2, ([.ref (ad 4), .ref (ad 5), .ref (ad 6), .ref (ad 7), .ref (ad 8), .int (σ 3 5), .int (σ 3 6), .int (σ 3 7)] : List Value).set 5 (.int v))) = wX ad cA (up2 σ 3 5 v) := rfl
theorem wX_st3_6 (ad : Nat → Nat) (cA : ClassId) (σ : x_M) (v : Int32) : (wX ad cA σ).set 3 (ad 3, .inr (2, ([.ref (ad 4), .ref (ad 5), .ref (ad 6), .ref (ad 7), .ref (ad 8), .int (σ 3 5), .int (σ 3 6), .int (σ 3 7)] : List Value).set 6 (.int v))) = wX ad cA (up2 σ 3 6 v) := rfl
theorem wX_st3_7 (ad : Nat → Nat) (cA : ClassId) (σ : x_M) (v : Int32) : (wX ad cA σ).set 3 (ad 3, .inr (2, ([.ref (ad 4), .ref (ad 5), .ref (ad 6), .ref (ad 7), .ref (ad 8), .int (σ 3 5), .int (σ 3 6), .int (σ 3 7)] : List Value).set 7 (.int v))) = wX ad cA (up2 σ 3 7 v) := rfl
theorem wX_at4 (ad : Nat → Nat) (cA : ClassId) (σ : x_M) : (wX ad cA σ)[4]? = some (ad 4, .inl (cA, 24, .inl (σ 4))) := rfl
theorem wX_ar4 (ad : Nat → Nat) (cA : ClassId) (σ : x_M) (i : Nat) (v : Int32) : (wX ad cA σ).set 4 (ad 4, .inl (cA, 24, .inl (upd (σ 4) i v))) = wX ad cA (up2 σ 4 i v) := rfl
theorem wX_pu4 (ad : Nat → Nat) (cA : ClassId) (σ : x_M) (i v : Int32) : (wX ad cA σ).set 4 (ad 4, .inl (cA, 24, .inl (x_pt 24 (σ 4) i v))) = wX ad cA (pu σ 4 24 i v) := rfl
theorem wX_at5 (ad : Nat → Nat) (cA : ClassId) (σ : x_M) : (wX ad cA σ)[5]? = some (ad 5, .inl (cA, 24, .inl (σ 5))) := rfl
theorem wX_ar5 (ad : Nat → Nat) (cA : ClassId) (σ : x_M) (i : Nat) (v : Int32) : (wX ad cA σ).set 5 (ad 5, .inl (cA, 24, .inl (upd (σ 5) i v))) = wX ad cA (up2 σ 5 i v) := rfl
theorem wX_pu5 (ad : Nat → Nat) (cA : ClassId) (σ : x_M) (i v : Int32) : (wX ad cA σ).set 5 (ad 5, .inl (cA, 24, .inl (x_pt 24 (σ 5) i v))) = wX ad cA (pu σ 5 24 i v) := rfl
theorem wX_at6 (ad : Nat → Nat) (cA : ClassId) (σ : x_M) : (wX ad cA σ)[6]? = some (ad 6, .inl (cA, 24, .inl (σ 6))) := rfl
theorem wX_ar6 (ad : Nat → Nat) (cA : ClassId) (σ : x_M) (i : Nat) (v : Int32) : (wX ad cA σ).set 6 (ad 6, .inl (cA, 24, .inl (upd (σ 6) i v))) = wX ad cA (up2 σ 6 i v) := rfl
theorem wX_pu6 (ad : Nat → Nat) (cA : ClassId) (σ : x_M) (i v : Int32) : (wX ad cA σ).set 6 (ad 6, .inl (cA, 24, .inl (x_pt 24 (σ 6) i v))) = wX ad cA (pu σ 6 24 i v) := rfl
theorem wX_at7 (ad : Nat → Nat) (cA : ClassId) (σ : x_M) : (wX ad cA σ)[7]? = some (ad 7, .inl (cA, 24, .inl (σ 7))) := rfl
theorem wX_ar7 (ad : Nat → Nat) (cA : ClassId) (σ : x_M) (i : Nat) (v : Int32) : (wX ad cA σ).set 7 (ad 7, .inl (cA, 24, .inl (upd (σ 7) i v))) = wX ad cA (up2 σ 7 i v) := rfl
theorem wX_pu7 (ad : Nat → Nat) (cA : ClassId) (σ : x_M) (i v : Int32) : (wX ad cA σ).set 7 (ad 7, .inl (cA, 24, .inl (x_pt 24 (σ 7) i v))) = wX ad cA (pu σ 7 24 i v) := rfl
theorem wX_at8 (ad : Nat → Nat) (cA : ClassId) (σ : x_M) : (wX ad cA σ)[8]? = some (ad 8, .inl (cA, 24, .inl (σ 8))) := rfl
theorem wX_ar8 (ad : Nat → Nat) (cA : ClassId) (σ : x_M) (i : Nat) (v : Int32) : (wX ad cA σ).set 8 (ad 8, .inl (cA, 24, .inl (upd (σ 8) i v))) = wX ad cA (up2 σ 8 i v) := rfl
theorem wX_pu8 (ad : Nat → Nat) (cA : ClassId) (σ : x_M) (i v : Int32) : (wX ad cA σ).set 8 (ad 8, .inl (cA, 24, .inl (x_pt 24 (σ 8) i v))) = wX ad cA (pu σ 8 24 i v) := rfl
theorem wX_at9 (ad : Nat → Nat) (cA : ClassId) (σ : x_M) : (wX ad cA σ)[9]? = some (ad 9, .inr (1, [.ref (ad 10), .ref (ad 13), .int (σ 9 2), .int (σ 9 3), .int (σ 9 4), .ref (ad 14)])) := rfl
theorem wX_st9_2 (ad : Nat → Nat) (cA : ClassId) (σ : x_M) (v : Int32) : (wX ad cA σ).set 9 (ad 9, .inr (1, ([.ref (ad 10), .ref (ad 13), .int (σ 9 2), .int (σ 9 3), .int (σ 9 4), .ref (ad 14)] : List Value).set 2 (.int v))) = wX ad cA (up2 σ 9 2 v) := rfl
theorem wX_st9_3 (ad : Nat → Nat) (cA : ClassId) (σ : x_M) (v : Int32) : (wX ad cA σ).set 9 (ad 9, .inr (1, ([.ref (ad 10), .ref (ad 13), .int (σ 9 2), .int (σ 9 3), .int (σ 9 4), .ref (ad 14)] : List Value).set 3 (.int v))) = wX ad cA (up2 σ 9 3 v) := rfl
theorem wX_st9_4 (ad : Nat → Nat) (cA : ClassId) (σ : x_M) (v : Int32) : (wX ad cA σ).set 9 (ad 9, .inr (1, ([.ref (ad 10), .ref (ad 13), .int (σ 9 2), .int (σ 9 3), .int (σ 9 4), .ref (ad 14)] : List Value).set 4 (.int v))) = wX ad cA (up2 σ 9 4 v) := rfl
theorem wX_at10 (ad : Nat → Nat) (cA : ClassId) (σ : x_M) : (wX ad cA σ)[10]? = some (ad 10, .inr (3, [.ref (ad 11), .int (σ 10 1), .ref (ad 12)])) := rfl
theorem wX_st10_1 (ad : Nat → Nat) (cA : ClassId) (σ : x_M) (v : Int32) : (wX ad cA σ).set 10 (ad 10, .inr (3, ([.ref (ad 11), .int (σ 10 1), .ref (ad 12)] : List Value).set 1 (.int v))) = wX ad cA (up2 σ 10 1 v) := rfl
theorem wX_at11 (ad : Nat → Nat) (cA : ClassId) (σ : x_M) : (wX ad cA σ)[11]? = some (ad 11, .inl (cA, 6, .inl (σ 11))) := rfl
theorem wX_ar11 (ad : Nat → Nat) (cA : ClassId) (σ : x_M) (i : Nat) (v : Int32) : (wX ad cA σ).set 11 (ad 11, .inl (cA, 6, .inl (upd (σ 11) i v))) = wX ad cA (up2 σ 11 i v) := rfl
theorem wX_pu11 (ad : Nat → Nat) (cA : ClassId) (σ : x_M) (i v : Int32) : (wX ad cA σ).set 11 (ad 11, .inl (cA, 6, .inl (x_pt 6 (σ 11) i v))) = wX ad cA (pu σ 11 6 i v) := rfl
theorem wX_at12 (ad : Nat → Nat) (cA : ClassId) (σ : x_M) : (wX ad cA σ)[12]? = some (ad 12, .inl (cA, 96, .inl (σ 12))) := rfl
theorem wX_ar12 (ad : Nat → Nat) (cA : ClassId) (σ : x_M) (i : Nat) (v : Int32) : (wX ad cA σ).set 12 (ad 12, .inl (cA, 96, .inl (upd (σ 12) i v))) = wX ad cA (up2 σ 12 i v) := rfl
theorem wX_pu12 (ad : Nat → Nat) (cA : ClassId) (σ : x_M) (i v : Int32) : (wX ad cA σ).set 12 (ad 12, .inl (cA, 96, .inl (x_pt 96 (σ 12) i v))) = wX ad cA (pu σ 12 96 i v) := rfl
theorem wX_at13 (ad : Nat → Nat) (cA : ClassId) (σ : x_M) : (wX ad cA σ)[13]? = some (ad 13, .inl (cA, 3, .inl (σ 13))) := rfl
theorem wX_ar13 (ad : Nat → Nat) (cA : ClassId) (σ : x_M) (i : Nat) (v : Int32) : (wX ad cA σ).set 13 (ad 13, .inl (cA, 3, .inl (upd (σ 13) i v))) = wX ad cA (up2 σ 13 i v) := rfl
theorem wX_pu13 (ad : Nat → Nat) (cA : ClassId) (σ : x_M) (i v : Int32) : (wX ad cA σ).set 13 (ad 13, .inl (cA, 3, .inl (x_pt 3 (σ 13) i v))) = wX ad cA (pu σ 13 3 i v) := rfl
theorem wX_at14 (ad : Nat → Nat) (cA : ClassId) (σ : x_M) : (wX ad cA σ)[14]? = some (ad 14, .inl (cA, 6, .inl (σ 14))) := rfl
theorem wX_ar14 (ad : Nat → Nat) (cA : ClassId) (σ : x_M) (i : Nat) (v : Int32) : (wX ad cA σ).set 14 (ad 14, .inl (cA, 6, .inl (upd (σ 14) i v))) = wX ad cA (up2 σ 14 i v) := rfl
theorem wX_pu14 (ad : Nat → Nat) (cA : ClassId) (σ : x_M) (i v : Int32) : (wX ad cA σ).set 14 (ad 14, .inl (cA, 6, .inl (x_pt 6 (σ 14) i v))) = wX ad cA (pu σ 14 6 i v) := rfl
theorem wX_at15 (ad : Nat → Nat) (cA : ClassId) (σ : x_M) : (wX ad cA σ)[15]? = some (ad 15, .inr (5, [.ref (ad 16), .ref (ad 19), .int (σ 15 2), .int (σ 15 3), .int (σ 15 4), .int (σ 15 5), .int (σ 15 6), .ref (ad 20)])) := rfl
theorem wX_st15_2 (ad : Nat → Nat) (cA : ClassId) (σ : x_M) (v : Int32) : (wX ad cA σ).set 15 (ad 15, .inr (5, ([.ref (ad 16), .ref (ad 19), .int (σ 15 2), .int (σ 15 3), .int (σ 15 4), .int (σ 15 5), .int (σ 15 6), .ref (ad 20)] : List Value).set 2 (.int v))) = wX ad cA (up2 σ 15 2 v) := rfl
theorem wX_st15_3 (ad : Nat → Nat) (cA : ClassId) (σ : x_M) (v : Int32) : (wX ad cA σ).set 15 (ad 15, .inr (5, ([.ref (ad 16), .ref (ad 19), .int (σ 15 2), .int (σ 15 3), .int (σ 15 4), .int (σ 15 5), .int (σ 15 6), .ref (ad 20)] : List Value).set 3 (.int v))) = wX ad cA (up2 σ 15 3 v) := rfl
theorem wX_st15_4 (ad : Nat → Nat) (cA : ClassId) (σ : x_M) (v : Int32) : (wX ad cA σ).set 15 (ad 15, .inr (5, ([.ref (ad 16), .ref (ad 19), .int (σ 15 2), .int (σ 15 3), .int (σ 15 4), .int (σ 15 5), .int (σ 15 6), .ref (ad 20)] : List Value).set 4 (.int v))) = wX ad cA (up2 σ 15 4 v) := rfl
theorem wX_st15_5 (ad : Nat → Nat) (cA : ClassId) (σ : x_M) (v : Int32) : (wX ad cA σ).set 15 (ad 15, .inr (5, ([.ref (ad 16), .ref (ad 19), .int (σ 15 2), .int (σ 15 3), .int (σ 15 4), .int (σ 15 5), .int (σ 15 6), .ref (ad 20)] : List Value).set 5 (.int v))) = wX ad cA (up2 σ 15 5 v) := rfl
theorem wX_st15_6 (ad : Nat → Nat) (cA : ClassId) (σ : x_M) (v : Int32) : (wX ad cA σ).set 15 (ad 15, .inr (5, ([.ref (ad 16), .ref (ad 19), .int (σ 15 2), .int (σ 15 3), .int (σ 15 4), .int (σ 15 5), .int (σ 15 6), .ref (ad 20)] : List Value).set 6 (.int v))) = wX ad cA (up2 σ 15 6 v) := rfl
theorem wX_at16 (ad : Nat → Nat) (cA : ClassId) (σ : x_M) : (wX ad cA σ)[16]? = some (ad 16, .inr (3, [.ref (ad 17), .int (σ 16 1), .ref (ad 18)])) := rfl
theorem wX_st16_1 (ad : Nat → Nat) (cA : ClassId) (σ : x_M) (v : Int32) : (wX ad cA σ).set 16 (ad 16, .inr (3, ([.ref (ad 17), .int (σ 16 1), .ref (ad 18)] : List Value).set 1 (.int v))) = wX ad cA (up2 σ 16 1 v) := rfl
theorem wX_at17 (ad : Nat → Nat) (cA : ClassId) (σ : x_M) : (wX ad cA σ)[17]? = some (ad 17, .inl (cA, 6, .inl (σ 17))) := rfl
theorem wX_ar17 (ad : Nat → Nat) (cA : ClassId) (σ : x_M) (i : Nat) (v : Int32) : (wX ad cA σ).set 17 (ad 17, .inl (cA, 6, .inl (upd (σ 17) i v))) = wX ad cA (up2 σ 17 i v) := rfl
theorem wX_pu17 (ad : Nat → Nat) (cA : ClassId) (σ : x_M) (i v : Int32) : (wX ad cA σ).set 17 (ad 17, .inl (cA, 6, .inl (x_pt 6 (σ 17) i v))) = wX ad cA (pu σ 17 6 i v) := rfl
theorem wX_at18 (ad : Nat → Nat) (cA : ClassId) (σ : x_M) : (wX ad cA σ)[18]? = some (ad 18, .inl (cA, 96, .inl (σ 18))) := rfl
theorem wX_ar18 (ad : Nat → Nat) (cA : ClassId) (σ : x_M) (i : Nat) (v : Int32) : (wX ad cA σ).set 18 (ad 18, .inl (cA, 96, .inl (upd (σ 18) i v))) = wX ad cA (up2 σ 18 i v) := rfl
theorem wX_pu18 (ad : Nat → Nat) (cA : ClassId) (σ : x_M) (i v : Int32) : (wX ad cA σ).set 18 (ad 18, .inl (cA, 96, .inl (x_pt 96 (σ 18) i v))) = wX ad cA (pu σ 18 96 i v) := rfl
theorem wX_at19 (ad : Nat → Nat) (cA : ClassId) (σ : x_M) : (wX ad cA σ)[19]? = some (ad 19, .inl (cA, 3, .inl (σ 19))) := rfl
theorem wX_ar19 (ad : Nat → Nat) (cA : ClassId) (σ : x_M) (i : Nat) (v : Int32) : (wX ad cA σ).set 19 (ad 19, .inl (cA, 3, .inl (upd (σ 19) i v))) = wX ad cA (up2 σ 19 i v) := rfl
theorem wX_pu19 (ad : Nat → Nat) (cA : ClassId) (σ : x_M) (i v : Int32) : (wX ad cA σ).set 19 (ad 19, .inl (cA, 3, .inl (x_pt 3 (σ 19) i v))) = wX ad cA (pu σ 19 3 i v) := rfl
theorem wX_at20 (ad : Nat → Nat) (cA : ClassId) (σ : x_M) : (wX ad cA σ)[20]? = some (ad 20, .inl (cA, 5, .inl (σ 20))) := rfl
theorem wX_ar20 (ad : Nat → Nat) (cA : ClassId) (σ : x_M) (i : Nat) (v : Int32) : (wX ad cA σ).set 20 (ad 20, .inl (cA, 5, .inl (upd (σ 20) i v))) = wX ad cA (up2 σ 20 i v) := rfl
theorem wX_pu20 (ad : Nat → Nat) (cA : ClassId) (σ : x_M) (i v : Int32) : (wX ad cA σ).set 20 (ad 20, .inl (cA, 5, .inl (x_pt 5 (σ 20) i v))) = wX ad cA (pu σ 20 5 i v) := rfl
theorem wX_at21 (ad : Nat → Nat) (cA : ClassId) (σ : x_M) : (wX ad cA σ)[21]? = some (ad 21, .inr (6, [.ref (ad 22), .ref (ad 23), .int (σ 21 2), .int (σ 21 3), .int (σ 21 4)])) := rfl
theorem wX_st21_2 (ad : Nat → Nat) (cA : ClassId) (σ : x_M) (v : Int32) : (wX ad cA σ).set 21 (ad 21, .inr (6, ([.ref (ad 22), .ref (ad 23), .int (σ 21 2), .int (σ 21 3), .int (σ 21 4)] : List Value).set 2 (.int v))) = wX ad cA (up2 σ 21 2 v) := rfl
theorem wX_st21_3 (ad : Nat → Nat) (cA : ClassId) (σ : x_M) (v : Int32) : (wX ad cA σ).set 21 (ad 21, .inr (6, ([.ref (ad 22), .ref (ad 23), .int (σ 21 2), .int (σ 21 3), .int (σ 21 4)] : List Value).set 3 (.int v))) = wX ad cA (up2 σ 21 3 v) := rfl
theorem wX_st21_4 (ad : Nat → Nat) (cA : ClassId) (σ : x_M) (v : Int32) : (wX ad cA σ).set 21 (ad 21, .inr (6, ([.ref (ad 22), .ref (ad 23), .int (σ 21 2), .int (σ 21 3), .int (σ 21 4)] : List Value).set 4 (.int v))) = wX ad cA (up2 σ 21 4 v) := rfl
theorem wX_at22 (ad : Nat → Nat) (cA : ClassId) (σ : x_M) : (wX ad cA σ)[22]? = some (ad 22, .inl (cA, 4, .inl (σ 22))) := rfl
theorem wX_ar22 (ad : Nat → Nat) (cA : ClassId) (σ : x_M) (i : Nat) (v : Int32) : (wX ad cA σ).set 22 (ad 22, .inl (cA, 4, .inl (upd (σ 22) i v))) = wX ad cA (up2 σ 22 i v) := rfl
theorem wX_pu22 (ad : Nat → Nat) (cA : ClassId) (σ : x_M) (i v : Int32) : (wX ad cA σ).set 22 (ad 22, .inl (cA, 4, .inl (x_pt 4 (σ 22) i v))) = wX ad cA (pu σ 22 4 i v) := rfl
theorem wX_at23 (ad : Nat → Nat) (cA : ClassId) (σ : x_M) : (wX ad cA σ)[23]? = some (ad 23, .inl (cA, 4, .inl (σ 23))) := rfl
theorem wX_ar23 (ad : Nat → Nat) (cA : ClassId) (σ : x_M) (i : Nat) (v : Int32) : (wX ad cA σ).set 23 (ad 23, .inl (cA, 4, .inl (upd (σ 23) i v))) = wX ad cA (up2 σ 23 i v) := rfl
theorem wX_pu23 (ad : Nat → Nat) (cA : ClassId) (σ : x_M) (i v : Int32) : (wX ad cA σ).set 23 (ad 23, .inl (cA, 4, .inl (x_pt 4 (σ 23) i v))) = wX ad cA (pu σ 23 4 i v) := rfl
theorem wX_at24 (ad : Nat → Nat) (cA : ClassId) (σ : x_M) : (wX ad cA σ)[24]? = some (ad 24, .inr (4, [.int (σ 24 0), .ref (ad 25)])) := rfl
theorem wX_st24_0 (ad : Nat → Nat) (cA : ClassId) (σ : x_M) (v : Int32) : (wX ad cA σ).set 24 (ad 24, .inr (4, ([.int (σ 24 0), .ref (ad 25)] : List Value).set 0 (.int v))) = wX ad cA (up2 σ 24 0 v) := rfl
theorem wX_at25 (ad : Nat → Nat) (cA : ClassId) (σ : x_M) : (wX ad cA σ)[25]? = some (ad 25, .inl (cA, 3, .inl (σ 25))) := rfl
theorem wX_ar25 (ad : Nat → Nat) (cA : ClassId) (σ : x_M) (i : Nat) (v : Int32) : (wX ad cA σ).set 25 (ad 25, .inl (cA, 3, .inl (upd (σ 25) i v))) = wX ad cA (up2 σ 25 i v) := rfl
theorem wX_pu25 (ad : Nat → Nat) (cA : ClassId) (σ : x_M) (i v : Int32) : (wX ad cA σ).set 25 (ad 25, .inl (cA, 3, .inl (x_pt 3 (σ 25) i v))) = wX ad cA (pu σ 25 3 i v) := rfl
theorem wX_D {ad : Nat → Nat} (h : x_inj 26 ad) (cA : ClassId) (σ : x_M) : va_D (x_A 26 ad) (wX ad cA σ) := x_D 26 h rfl
def wM (ad : Nat → Nat) (cA : ClassId) (σ : x_M) : va_W := [(ad 0, .inr (8, [.int (σ 0 0), .ref (ad 1), .int (σ 0 2), .ref (ad 2), .ref (ad 3), .ref (ad 4), .ref (ad 5), .ref (ad 6), .int (σ 0 8), .ref (ad 7), .ref (ad 8), .ref (ad 9), .ref (ad 10), .ref (ad 11), .int (σ 0 14), .int (σ 0 15), .int (σ 0 16), .ref (ad 12), .ref (ad 13), .ref (ad 14), .ref (ad 15), .int (σ 0 21), .int (σ 0 22), .int (σ 0 23), .int (σ 0 24), .int (σ 0 25), .int (σ 0 26), .int (σ 0 27), .int (σ 0 28), .int (σ 0 29), .int (σ 0 30), .ref (ad 16), .int (σ 0 32), .ref (ad 17), .ref (ad 18), .int (σ 0 35), .ref (ad 19)])), (ad 1, .inl (cA, 120, .inl (σ 1))), (ad 2, .inl (cA, 24, .inl (σ 2))), (ad 3, .inl (cA, 24, .inl (σ 3))), (ad 4, .inl (cA, 24, .inl (σ 4))), (ad 5, .inl (cA, 24, .inl (σ 5))), (ad 6, .inl (cA, 26, .inl (σ 6))), (ad 7, .inl (cA, 96, .inl (σ 7))), (ad 8, .inl (cA, 6, .inl (σ 8))), (ad 9, .inl (cA, 6, .inl (σ 9))), (ad 10, .inl (cA, 6, .inl (σ 10))), (ad 11, .inl (cA, 3, .inl (σ 11))), (ad 12, .inl (cA, 80, .inl (σ 12))), (ad 13, .inl (cA, 5, .inl (σ 13))), (ad 14, .inl (cA, 5, .inl (σ 14))), (ad 15, .inl (cA, 3, .inl (σ 15))), (ad 16, .inl (cA, 3, .inl (σ 16))), (ad 17, .inl (cA, 4, .inl (σ 17))), (ad 18, .inl (cA, 4, .inl (σ 18))), (ad 19, .inl (cA, 6, .inl (σ 19)))]
theorem wM_at0 (ad : Nat → Nat) (cA : ClassId) (σ : x_M) : (wM ad cA σ)[0]? = some (ad 0, .inr (8, [.int (σ 0 0), .ref (ad 1), .int (σ 0 2), .ref (ad 2), .ref (ad 3), .ref (ad 4), .ref (ad 5), .ref (ad 6), .int (σ 0 8), .ref (ad 7), .ref (ad 8), .ref (ad 9), .ref (ad 10), .ref (ad 11), .int (σ 0 14), .int (σ 0 15), .int (σ 0 16), .ref (ad 12), .ref (ad 13), .ref (ad 14), .ref (ad 15), .int (σ 0 21), .int (σ 0 22), .int (σ 0 23), .int (σ 0 24), .int (σ 0 25), .int (σ 0 26), .int (σ 0 27), .int (σ 0 28), .int (σ 0 29), .int (σ 0 30), .ref (ad 16), .int (σ 0 32), .ref (ad 17), .ref (ad 18), .int (σ 0 35), .ref (ad 19)])) := rfl
theorem wM_st0_0 (ad : Nat → Nat) (cA : ClassId) (σ : x_M) (v : Int32) : (wM ad cA σ).set 0 (ad 0, .inr (8, ([.int (σ 0 0), .ref (ad 1), .int (σ 0 2), .ref (ad 2), .ref (ad 3), .ref (ad 4), .ref (ad 5), .ref (ad 6), .int (σ 0 8), .ref (ad 7), .ref (ad 8), .ref (ad 9), .ref (ad 10), .ref (ad 11), .int (σ 0 14), .int (σ 0 15), .int (σ 0 16), .ref (ad 12), .ref (ad 13), .ref (ad 14), .ref (ad 15), .int (σ 0 21), .int (σ 0 22), .int (σ 0 23), .int (σ 0 24), .int (σ 0 25), .int (σ 0 26), .int (σ 0 27), .int (σ 0 28), .int (σ 0 29), .int (σ 0 30), .ref (ad 16), .int (σ 0 32), .ref (ad 17), .ref (ad 18), .int (σ 0 35), .ref (ad 19)] : List Value).set 0 (.int v))) = wM ad cA (up2 σ 0 0 v) := rfl
theorem wM_st0_2 (ad : Nat → Nat) (cA : ClassId) (σ : x_M) (v : Int32) : (wM ad cA σ).set 0 (ad 0, .inr (8, ([.int (σ 0 0), .ref (ad 1), .int (σ 0 2), .ref (ad 2), .ref (ad 3), .ref (ad 4), .ref (ad 5), .ref (ad 6), .int (σ 0 8), .ref (ad 7), .ref (ad 8), .ref (ad 9), .ref (ad 10), .ref (ad 11), .int (σ 0 14), .int (σ 0 15), .int (σ 0 16), .ref (ad 12), .ref (ad 13), .ref (ad 14), .ref (ad 15), .int (σ 0 21), .int (σ 0 22), .int (σ 0 23), .int (σ 0 24), .int (σ 0 25), .int (σ 0 26), .int (σ 0 27), .int (σ 0 28), .int (σ 0 29), .int (σ 0 30), .ref (ad 16), .int (σ 0 32), .ref (ad 17), .ref (ad 18), .int (σ 0 35), .ref (ad 19)] : List Value).set 2 (.int v))) = wM ad cA (up2 σ 0 2 v) := rfl
theorem wM_st0_8 (ad : Nat → Nat) (cA : ClassId) (σ : x_M) (v : Int32) : (wM ad cA σ).set 0 (ad 0, .inr (8, ([.int (σ 0 0), .ref (ad 1), .int (σ 0 2), .ref (ad 2), .ref (ad 3), .ref (ad 4), .ref (ad 5), .ref (ad 6), .int (σ 0 8), .ref (ad 7), .ref (ad 8), .ref (ad 9), .ref (ad 10), .ref (ad 11), .int (σ 0 14), .int (σ 0 15), .int (σ 0 16), .ref (ad 12), .ref (ad 13), .ref (ad 14), .ref (ad 15), .int (σ 0 21), .int (σ 0 22), .int (σ 0 23), .int (σ 0 24), .int (σ 0 25), .int (σ 0 26), .int (σ 0 27), .int (σ 0 28), .int (σ 0 29), .int (σ 0 30), .ref (ad 16), .int (σ 0 32), .ref (ad 17), .ref (ad 18), .int (σ 0 35), .ref (ad 19)] : List Value).set 8 (.int v))) = wM ad cA (up2 σ 0 8 v) := rfl
theorem wM_st0_14 (ad : Nat → Nat) (cA : ClassId) (σ : x_M) (v : Int32) : (wM ad cA σ).set 0 (ad 0, .inr (8, ([.int (σ 0 0), .ref (ad 1), .int (σ 0 2), .ref (ad 2), .ref (ad 3), .ref (ad 4), .ref (ad 5), .ref (ad 6), .int (σ 0 8), .ref (ad 7), .ref (ad 8), .ref (ad 9), .ref (ad 10), .ref (ad 11), .int (σ 0 14), .int (σ 0 15), .int (σ 0 16), .ref (ad 12), .ref (ad 13), .ref (ad 14), .ref (ad 15), .int (σ 0 21), .int (σ 0 22), .int (σ 0 23), .int (σ 0 24), .int (σ 0 25), .int (σ 0 26), .int (σ 0 27), .int (σ 0 28), .int (σ 0 29), .int (σ 0 30), .ref (ad 16), .int (σ 0 32), .ref (ad 17), .ref (ad 18), .int (σ 0 35), .ref (ad 19)] : List Value).set 14 (.int v))) = wM ad cA (up2 σ 0 14 v) := rfl
theorem wM_st0_15 (ad : Nat → Nat) (cA : ClassId) (σ : x_M) (v : Int32) : (wM ad cA σ).set 0 (ad 0, .inr (8, ([.int (σ 0 0), .ref (ad 1), .int (σ 0 2), .ref (ad 2), .ref (ad 3), .ref (ad 4), .ref (ad 5), .ref (ad 6), .int (σ 0 8), .ref (ad 7), .ref (ad 8), .ref (ad 9), .ref (ad 10), .ref (ad 11), .int (σ 0 14), .int (σ 0 15), .int (σ 0 16), .ref (ad 12), .ref (ad 13), .ref (ad 14), .ref (ad 15), .int (σ 0 21), .int (σ 0 22), .int (σ 0 23), .int (σ 0 24), .int (σ 0 25), .int (σ 0 26), .int (σ 0 27), .int (σ 0 28), .int (σ 0 29), .int (σ 0 30), .ref (ad 16), .int (σ 0 32), .ref (ad 17), .ref (ad 18), .int (σ 0 35), .ref (ad 19)] : List Value).set 15 (.int v))) = wM ad cA (up2 σ 0 15 v) := rfl
theorem wM_st0_16 (ad : Nat → Nat) (cA : ClassId) (σ : x_M) (v : Int32) : (wM ad cA σ).set 0 (ad 0, .inr (8, ([.int (σ 0 0), .ref (ad 1), .int (σ 0 2), .ref (ad 2), .ref (ad 3), .ref (ad 4), .ref (ad 5), .ref (ad 6), .int (σ 0 8), .ref (ad 7), .ref (ad 8), .ref (ad 9), .ref (ad 10), .ref (ad 11), .int (σ 0 14), .int (σ 0 15), .int (σ 0 16), .ref (ad 12), .ref (ad 13), .ref (ad 14), .ref (ad 15), .int (σ 0 21), .int (σ 0 22), .int (σ 0 23), .int (σ 0 24), .int (σ 0 25), .int (σ 0 26), .int (σ 0 27), .int (σ 0 28), .int (σ 0 29), .int (σ 0 30), .ref (ad 16), .int (σ 0 32), .ref (ad 17), .ref (ad 18), .int (σ 0 35), .ref (ad 19)] : List Value).set 16 (.int v))) = wM ad cA (up2 σ 0 16 v) := rfl
theorem wM_st0_21 (ad : Nat → Nat) (cA : ClassId) (σ : x_M) (v : Int32) : (wM ad cA σ).set 0 (ad 0, .inr (8, ([.int (σ 0 0), .ref (ad 1), .int (σ 0 2), .ref (ad 2), .ref (ad 3), .ref (ad 4), .ref (ad 5), .ref (ad 6), .int (σ 0 8), .ref (ad 7), .ref (ad 8), .ref (ad 9), .ref (ad 10), .ref (ad 11), .int (σ 0 14), .int (σ 0 15), .int (σ 0 16), .ref (ad 12), .ref (ad 13), .ref (ad 14), .ref (ad 15), .int (σ 0 21), .int (σ 0 22), .int (σ 0 23), .int (σ 0 24), .int (σ 0 25), .int (σ 0 26), .int (σ 0 27), .int (σ 0 28), .int (σ 0 29), .int (σ 0 30), .ref (ad 16), .int (σ 0 32), .ref (ad 17), .ref (ad 18), .int (σ 0 35), .ref (ad 19)] : List Value).set 21 (.int v))) = wM ad cA (up2 σ 0 21 v) := rfl
theorem wM_st0_22 (ad : Nat → Nat) (cA : ClassId) (σ : x_M) (v : Int32) : (wM ad cA σ).set 0 (ad 0, .inr (8, ([.int (σ 0 0), .ref (ad 1), .int (σ 0 2), .ref (ad 2), .ref (ad 3), .ref (ad 4), .ref (ad 5), .ref (ad 6), .int (σ 0 8), .ref (ad 7), .ref (ad 8), .ref (ad 9), .ref (ad 10), .ref (ad 11), .int (σ 0 14), .int (σ 0 15), .int (σ 0 16), .ref (ad 12), .ref (ad 13), .ref (ad 14), .ref (ad 15), .int (σ 0 21), .int (σ 0 22), .int (σ 0 23), .int (σ 0 24), .int (σ 0 25), .int (σ 0 26), .int (σ 0 27), .int (σ 0 28), .int (σ 0 29), .int (σ 0 30), .ref (ad 16), .int (σ 0 32), .ref (ad 17), .ref (ad 18), .int (σ 0 35), .ref (ad 19)] : List Value).set 22 (.int v))) = wM ad cA (up2 σ 0 22 v) := rfl
theorem wM_st0_23 (ad : Nat → Nat) (cA : ClassId) (σ : x_M) (v : Int32) : (wM ad cA σ).set 0 (ad 0, .inr (8, ([.int (σ 0 0), .ref (ad 1), .int (σ 0 2), .ref (ad 2), .ref (ad 3), .ref (ad 4), .ref (ad 5), .ref (ad 6), .int (σ 0 8), .ref (ad 7), .ref (ad 8), .ref (ad 9), .ref (ad 10), .ref (ad 11), .int (σ 0 14), .int (σ 0 15), .int (σ 0 16), .ref (ad 12), .ref (ad 13), .ref (ad 14), .ref (ad 15), .int (σ 0 21), .int (σ 0 22), .int (σ 0 23), .int (σ 0 24), .int (σ 0 25), .int (σ 0 26), .int (σ 0 27), .int (σ 0 28), .int (σ 0 29), .int (σ 0 30), .ref (ad 16), .int (σ 0 32), .ref (ad 17), .ref (ad 18), .int (σ 0 35), .ref (ad 19)] : List Value).set 23 (.int v))) = wM ad cA (up2 σ 0 23 v) := rfl
theorem wM_st0_24 (ad : Nat → Nat) (cA : ClassId) (σ : x_M) (v : Int32) : (wM ad cA σ).set 0 (ad 0, .inr (8, ([.int (σ 0 0), .ref (ad 1), .int (σ 0 2), .ref (ad 2), .ref (ad 3), .ref (ad 4), .ref (ad 5), .ref (ad 6), .int (σ 0 8), .ref (ad 7), .ref (ad 8), .ref (ad 9), .ref (ad 10), .ref (ad 11), .int (σ 0 14), .int (σ 0 15), .int (σ 0 16), .ref (ad 12), .ref (ad 13), .ref (ad 14), .ref (ad 15), .int (σ 0 21), .int (σ 0 22), .int (σ 0 23), .int (σ 0 24), .int (σ 0 25), .int (σ 0 26), .int (σ 0 27), .int (σ 0 28), .int (σ 0 29), .int (σ 0 30), .ref (ad 16), .int (σ 0 32), .ref (ad 17), .ref (ad 18), .int (σ 0 35), .ref (ad 19)] : List Value).set 24 (.int v))) = wM ad cA (up2 σ 0 24 v) := rfl
theorem wM_st0_25 (ad : Nat → Nat) (cA : ClassId) (σ : x_M) (v : Int32) : (wM ad cA σ).set 0 (ad 0, .inr (8, ([.int (σ 0 0), .ref (ad 1), .int (σ 0 2), .ref (ad 2), .ref (ad 3), .ref (ad 4), .ref (ad 5), .ref (ad 6), .int (σ 0 8), .ref (ad 7), .ref (ad 8), .ref (ad 9), .ref (ad 10), .ref (ad 11), .int (σ 0 14), .int (σ 0 15), .int (σ 0 16), .ref (ad 12), .ref (ad 13), .ref (ad 14), .ref (ad 15), .int (σ 0 21), .int (σ 0 22), .int (σ 0 23), .int (σ 0 24), .int (σ 0 25), .int (σ 0 26), .int (σ 0 27), .int (σ 0 28), .int (σ 0 29), .int (σ 0 30), .ref (ad 16), .int (σ 0 32), .ref (ad 17), .ref (ad 18), .int (σ 0 35), .ref (ad 19)] : List Value).set 25 (.int v))) = wM ad cA (up2 σ 0 25 v) := rfl
theorem wM_st0_26 (ad : Nat → Nat) (cA : ClassId) (σ : x_M) (v : Int32) : (wM ad cA σ).set 0 (ad 0, .inr (8, ([.int (σ 0 0), .ref (ad 1), .int (σ 0 2), .ref (ad 2), .ref (ad 3), .ref (ad 4), .ref (ad 5), .ref (ad 6), .int (σ 0 8), .ref (ad 7), .ref (ad 8), .ref (ad 9), .ref (ad 10), .ref (ad 11), .int (σ 0 14), .int (σ 0 15), .int (σ 0 16), .ref (ad 12), .ref (ad 13), .ref (ad 14), .ref (ad 15), .int (σ 0 21), .int (σ 0 22), .int (σ 0 23), .int (σ 0 24), .int (σ 0 25), .int (σ 0 26), .int (σ 0 27), .int (σ 0 28), .int (σ 0 29), .int (σ 0 30), .ref (ad 16), .int (σ 0 32), .ref (ad 17), .ref (ad 18), .int (σ 0 35), .ref (ad 19)] : List Value).set 26 (.int v))) = wM ad cA (up2 σ 0 26 v) := rfl
theorem wM_st0_27 (ad : Nat → Nat) (cA : ClassId) (σ : x_M) (v : Int32) : (wM ad cA σ).set 0 (ad 0, .inr (8, ([.int (σ 0 0), .ref (ad 1), .int (σ 0 2), .ref (ad 2), .ref (ad 3), .ref (ad 4), .ref (ad 5), .ref (ad 6), .int (σ 0 8), .ref (ad 7), .ref (ad 8), .ref (ad 9), .ref (ad 10), .ref (ad 11), .int (σ 0 14), .int (σ 0 15), .int (σ 0 16), .ref (ad 12), .ref (ad 13), .ref (ad 14), .ref (ad 15), .int (σ 0 21), .int (σ 0 22), .int (σ 0 23), .int (σ 0 24), .int (σ 0 25), .int (σ 0 26), .int (σ 0 27), .int (σ 0 28), .int (σ 0 29), .int (σ 0 30), .ref (ad 16), .int (σ 0 32), .ref (ad 17), .ref (ad 18), .int (σ 0 35), .ref (ad 19)] : List Value).set 27 (.int v))) = wM ad cA (up2 σ 0 27 v) := rfl
theorem wM_st0_28 (ad : Nat → Nat) (cA : ClassId) (σ : x_M) (v : Int32) : (wM ad cA σ).set 0 (ad 0, .inr (8, ([.int (σ 0 0), .ref (ad 1), .int (σ 0 2), .ref (ad 2), .ref (ad 3), .ref (ad 4), .ref (ad 5), .ref (ad 6), .int (σ 0 8), .ref (ad 7), .ref (ad 8), .ref (ad 9), .ref (ad 10), .ref (ad 11), .int (σ 0 14), .int (σ 0 15), .int (σ 0 16), .ref (ad 12), .ref (ad 13), .ref (ad 14), .ref (ad 15), .int (σ 0 21), .int (σ 0 22), .int (σ 0 23), .int (σ 0 24), .int (σ 0 25), .int (σ 0 26), .int (σ 0 27), .int (σ 0 28), .int (σ 0 29), .int (σ 0 30), .ref (ad 16), .int (σ 0 32), .ref (ad 17), .ref (ad 18), .int (σ 0 35), .ref (ad 19)] : List Value).set 28 (.int v))) = wM ad cA (up2 σ 0 28 v) := rfl
theorem wM_st0_29 (ad : Nat → Nat) (cA : ClassId) (σ : x_M) (v : Int32) : (wM ad cA σ).set 0 (ad 0, .inr (8, ([.int (σ 0 0), .ref (ad 1), .int (σ 0 2), .ref (ad 2), .ref (ad 3), .ref (ad 4), .ref (ad 5), .ref (ad 6), .int (σ 0 8), .ref (ad 7), .ref (ad 8), .ref (ad 9), .ref (ad 10), .ref (ad 11), .int (σ 0 14), .int (σ 0 15), .int (σ 0 16), .ref (ad 12), .ref (ad 13), .ref (ad 14), .ref (ad 15), .int (σ 0 21), .int (σ 0 22), .int (σ 0 23), .int (σ 0 24), .int (σ 0 25), .int (σ 0 26), .int (σ 0 27), .int (σ 0 28), .int (σ 0 29), .int (σ 0 30), .ref (ad 16), .int (σ 0 32), .ref (ad 17), .ref (ad 18), .int (σ 0 35), .ref (ad 19)] : List Value).set 29 (.int v))) = wM ad cA (up2 σ 0 29 v) := rfl
theorem wM_st0_30 (ad : Nat → Nat) (cA : ClassId) (σ : x_M) (v : Int32) : (wM ad cA σ).set 0 (ad 0, .inr (8, ([.int (σ 0 0), .ref (ad 1), .int (σ 0 2), .ref (ad 2), .ref (ad 3), .ref (ad 4), .ref (ad 5), .ref (ad 6), .int (σ 0 8), .ref (ad 7), .ref (ad 8), .ref (ad 9), .ref (ad 10), .ref (ad 11), .int (σ 0 14), .int (σ 0 15), .int (σ 0 16), .ref (ad 12), .ref (ad 13), .ref (ad 14), .ref (ad 15), .int (σ 0 21), .int (σ 0 22), .int (σ 0 23), .int (σ 0 24), .int (σ 0 25), .int (σ 0 26), .int (σ 0 27), .int (σ 0 28), .int (σ 0 29), .int (σ 0 30), .ref (ad 16), .int (σ 0 32), .ref (ad 17), .ref (ad 18), .int (σ 0 35), .ref (ad 19)] : List Value).set 30 (.int v))) = wM ad cA (up2 σ 0 30 v) := rfl
theorem wM_st0_32 (ad : Nat → Nat) (cA : ClassId) (σ : x_M) (v : Int32) : (wM ad cA σ).set 0 (ad 0, .inr (8, ([.int (σ 0 0), .ref (ad 1), .int (σ 0 2), .ref (ad 2), .ref (ad 3), .ref (ad 4), .ref (ad 5), .ref (ad 6), .int (σ 0 8), .ref (ad 7), .ref (ad 8), .ref (ad 9), .ref (ad 10), .ref (ad 11), .int (σ 0 14), .int (σ 0 15), .int (σ 0 16), .ref (ad 12), .ref (ad 13), .ref (ad 14), .ref (ad 15), .int (σ 0 21), .int (σ 0 22), .int (σ 0 23), .int (σ 0 24), .int (σ 0 25), .int (σ 0 26), .int (σ 0 27), .int (σ 0 28), .int (σ 0 29), .int (σ 0 30), .ref (ad 16), .int (σ 0 32), .ref (ad 17), .ref (ad 18), .int (σ 0 35), .ref (ad 19)] : List Value).set 32 (.int v))) = wM ad cA (up2 σ 0 32 v) := rfl
theorem wM_st0_35 (ad : Nat → Nat) (cA : ClassId) (σ : x_M) (v : Int32) : (wM ad cA σ).set 0 (ad 0, .inr (8, ([.int (σ 0 0), .ref (ad 1), .int (σ 0 2), .ref (ad 2), .ref (ad 3), .ref (ad 4), .ref (ad 5), .ref (ad 6), .int (σ 0 8), .ref (ad 7), .ref (ad 8), .ref (ad 9), .ref (ad 10), .ref (ad 11), .int (σ 0 14), .int (σ 0 15), .int (σ 0 16), .ref (ad 12), .ref (ad 13), .ref (ad 14), .ref (ad 15), .int (σ 0 21), .int (σ 0 22), .int (σ 0 23), .int (σ 0 24), .int (σ 0 25), .int (σ 0 26), .int (σ 0 27), .int (σ 0 28), .int (σ 0 29), .int (σ 0 30), .ref (ad 16), .int (σ 0 32), .ref (ad 17), .ref (ad 18), .int (σ 0 35), .ref (ad 19)] : List Value).set 35 (.int v))) = wM ad cA (up2 σ 0 35 v) := rfl
theorem wM_at1 (ad : Nat → Nat) (cA : ClassId) (σ : x_M) : (wM ad cA σ)[1]? = some (ad 1, .inl (cA, 120, .inl (σ 1))) := rfl
theorem wM_ar1 (ad : Nat → Nat) (cA : ClassId) (σ : x_M) (i : Nat) (v : Int32) : (wM ad cA σ).set 1 (ad 1, .inl (cA, 120, .inl (upd (σ 1) i v))) = wM ad cA (up2 σ 1 i v) := rfl
theorem wM_at2 (ad : Nat → Nat) (cA : ClassId) (σ : x_M) : (wM ad cA σ)[2]? = some (ad 2, .inl (cA, 24, .inl (σ 2))) := rfl
theorem wM_ar2 (ad : Nat → Nat) (cA : ClassId) (σ : x_M) (i : Nat) (v : Int32) : (wM ad cA σ).set 2 (ad 2, .inl (cA, 24, .inl (upd (σ 2) i v))) = wM ad cA (up2 σ 2 i v) := rfl
theorem wM_at3 (ad : Nat → Nat) (cA : ClassId) (σ : x_M) : (wM ad cA σ)[3]? = some (ad 3, .inl (cA, 24, .inl (σ 3))) := rfl
theorem wM_ar3 (ad : Nat → Nat) (cA : ClassId) (σ : x_M) (i : Nat) (v : Int32) : (wM ad cA σ).set 3 (ad 3, .inl (cA, 24, .inl (upd (σ 3) i v))) = wM ad cA (up2 σ 3 i v) := rfl
theorem wM_at4 (ad : Nat → Nat) (cA : ClassId) (σ : x_M) : (wM ad cA σ)[4]? = some (ad 4, .inl (cA, 24, .inl (σ 4))) := rfl
theorem wM_ar4 (ad : Nat → Nat) (cA : ClassId) (σ : x_M) (i : Nat) (v : Int32) : (wM ad cA σ).set 4 (ad 4, .inl (cA, 24, .inl (upd (σ 4) i v))) = wM ad cA (up2 σ 4 i v) := rfl
theorem wM_at5 (ad : Nat → Nat) (cA : ClassId) (σ : x_M) : (wM ad cA σ)[5]? = some (ad 5, .inl (cA, 24, .inl (σ 5))) := rfl
theorem wM_ar5 (ad : Nat → Nat) (cA : ClassId) (σ : x_M) (i : Nat) (v : Int32) : (wM ad cA σ).set 5 (ad 5, .inl (cA, 24, .inl (upd (σ 5) i v))) = wM ad cA (up2 σ 5 i v) := rfl
theorem wM_at6 (ad : Nat → Nat) (cA : ClassId) (σ : x_M) : (wM ad cA σ)[6]? = some (ad 6, .inl (cA, 26, .inl (σ 6))) := rfl
theorem wM_ar6 (ad : Nat → Nat) (cA : ClassId) (σ : x_M) (i : Nat) (v : Int32) : (wM ad cA σ).set 6 (ad 6, .inl (cA, 26, .inl (upd (σ 6) i v))) = wM ad cA (up2 σ 6 i v) := rfl
theorem wM_at7 (ad : Nat → Nat) (cA : ClassId) (σ : x_M) : (wM ad cA σ)[7]? = some (ad 7, .inl (cA, 96, .inl (σ 7))) := rfl
theorem wM_ar7 (ad : Nat → Nat) (cA : ClassId) (σ : x_M) (i : Nat) (v : Int32) : (wM ad cA σ).set 7 (ad 7, .inl (cA, 96, .inl (upd (σ 7) i v))) = wM ad cA (up2 σ 7 i v) := rfl
theorem wM_at8 (ad : Nat → Nat) (cA : ClassId) (σ : x_M) : (wM ad cA σ)[8]? = some (ad 8, .inl (cA, 6, .inl (σ 8))) := rfl
theorem wM_ar8 (ad : Nat → Nat) (cA : ClassId) (σ : x_M) (i : Nat) (v : Int32) : (wM ad cA σ).set 8 (ad 8, .inl (cA, 6, .inl (upd (σ 8) i v))) = wM ad cA (up2 σ 8 i v) := rfl
theorem wM_at9 (ad : Nat → Nat) (cA : ClassId) (σ : x_M) : (wM ad cA σ)[9]? = some (ad 9, .inl (cA, 6, .inl (σ 9))) := rfl
theorem wM_ar9 (ad : Nat → Nat) (cA : ClassId) (σ : x_M) (i : Nat) (v : Int32) : (wM ad cA σ).set 9 (ad 9, .inl (cA, 6, .inl (upd (σ 9) i v))) = wM ad cA (up2 σ 9 i v) := rfl
theorem wM_at10 (ad : Nat → Nat) (cA : ClassId) (σ : x_M) : (wM ad cA σ)[10]? = some (ad 10, .inl (cA, 6, .inl (σ 10))) := rfl
theorem wM_ar10 (ad : Nat → Nat) (cA : ClassId) (σ : x_M) (i : Nat) (v : Int32) : (wM ad cA σ).set 10 (ad 10, .inl (cA, 6, .inl (upd (σ 10) i v))) = wM ad cA (up2 σ 10 i v) := rfl
theorem wM_at11 (ad : Nat → Nat) (cA : ClassId) (σ : x_M) : (wM ad cA σ)[11]? = some (ad 11, .inl (cA, 3, .inl (σ 11))) := rfl
theorem wM_ar11 (ad : Nat → Nat) (cA : ClassId) (σ : x_M) (i : Nat) (v : Int32) : (wM ad cA σ).set 11 (ad 11, .inl (cA, 3, .inl (upd (σ 11) i v))) = wM ad cA (up2 σ 11 i v) := rfl
theorem wM_at12 (ad : Nat → Nat) (cA : ClassId) (σ : x_M) : (wM ad cA σ)[12]? = some (ad 12, .inl (cA, 80, .inl (σ 12))) := rfl
theorem wM_ar12 (ad : Nat → Nat) (cA : ClassId) (σ : x_M) (i : Nat) (v : Int32) : (wM ad cA σ).set 12 (ad 12, .inl (cA, 80, .inl (upd (σ 12) i v))) = wM ad cA (up2 σ 12 i v) := rfl
theorem wM_at13 (ad : Nat → Nat) (cA : ClassId) (σ : x_M) : (wM ad cA σ)[13]? = some (ad 13, .inl (cA, 5, .inl (σ 13))) := rfl
theorem wM_ar13 (ad : Nat → Nat) (cA : ClassId) (σ : x_M) (i : Nat) (v : Int32) : (wM ad cA σ).set 13 (ad 13, .inl (cA, 5, .inl (upd (σ 13) i v))) = wM ad cA (up2 σ 13 i v) := rfl
theorem wM_at14 (ad : Nat → Nat) (cA : ClassId) (σ : x_M) : (wM ad cA σ)[14]? = some (ad 14, .inl (cA, 5, .inl (σ 14))) := rfl
theorem wM_ar14 (ad : Nat → Nat) (cA : ClassId) (σ : x_M) (i : Nat) (v : Int32) : (wM ad cA σ).set 14 (ad 14, .inl (cA, 5, .inl (upd (σ 14) i v))) = wM ad cA (up2 σ 14 i v) := rfl
theorem wM_at15 (ad : Nat → Nat) (cA : ClassId) (σ : x_M) : (wM ad cA σ)[15]? = some (ad 15, .inl (cA, 3, .inl (σ 15))) := rfl
theorem wM_ar15 (ad : Nat → Nat) (cA : ClassId) (σ : x_M) (i : Nat) (v : Int32) : (wM ad cA σ).set 15 (ad 15, .inl (cA, 3, .inl (upd (σ 15) i v))) = wM ad cA (up2 σ 15 i v) := rfl
theorem wM_at16 (ad : Nat → Nat) (cA : ClassId) (σ : x_M) : (wM ad cA σ)[16]? = some (ad 16, .inl (cA, 3, .inl (σ 16))) := rfl
theorem wM_ar16 (ad : Nat → Nat) (cA : ClassId) (σ : x_M) (i : Nat) (v : Int32) : (wM ad cA σ).set 16 (ad 16, .inl (cA, 3, .inl (upd (σ 16) i v))) = wM ad cA (up2 σ 16 i v) := rfl
theorem wM_at17 (ad : Nat → Nat) (cA : ClassId) (σ : x_M) : (wM ad cA σ)[17]? = some (ad 17, .inl (cA, 4, .inl (σ 17))) := rfl
theorem wM_ar17 (ad : Nat → Nat) (cA : ClassId) (σ : x_M) (i : Nat) (v : Int32) : (wM ad cA σ).set 17 (ad 17, .inl (cA, 4, .inl (upd (σ 17) i v))) = wM ad cA (up2 σ 17 i v) := rfl
theorem wM_at18 (ad : Nat → Nat) (cA : ClassId) (σ : x_M) : (wM ad cA σ)[18]? = some (ad 18, .inl (cA, 4, .inl (σ 18))) := rfl
theorem wM_ar18 (ad : Nat → Nat) (cA : ClassId) (σ : x_M) (i : Nat) (v : Int32) : (wM ad cA σ).set 18 (ad 18, .inl (cA, 4, .inl (upd (σ 18) i v))) = wM ad cA (up2 σ 18 i v) := rfl
theorem wM_at19 (ad : Nat → Nat) (cA : ClassId) (σ : x_M) : (wM ad cA σ)[19]? = some (ad 19, .inl (cA, 6, .inl (σ 19))) := rfl
theorem wM_ar19 (ad : Nat → Nat) (cA : ClassId) (σ : x_M) (i : Nat) (v : Int32) : (wM ad cA σ).set 19 (ad 19, .inl (cA, 6, .inl (upd (σ 19) i v))) = wM ad cA (up2 σ 19 i v) := rfl
theorem wM_D {ad : Nat → Nat} (h : x_inj 20 ad) (cA : ClassId) (σ : x_M) : va_D (x_A 20 ad) (wM ad cA σ) := x_D 20 h rfl
set_option maxHeartbeats 4000000 in
set_option maxRecDepth 100000 in
theorem c_at (l : Launch) (D : va_G) (cA : ClassId) {ws : va_W} {k a N : Nat} {f : Nat → Int32} (hk : ws[k]? = some (a, .inl (cA, N, .inl f))) (hN : N < 2 ^ 31) (i : Int32) : Met l yX7_at zX7_at ({ frames := 0, cells := 0, slots := 0, locals := 0 } : Room) (x_P D cA [.ref a, .int i] ws) (x_R (some (.int (x_at N f i)))) 0 0 (fun _ => False) := by
  refine x_met (cc := cX7_at) (maxL := 2) (ret := (some .int)) RX7 rfl (by decide) rfl [(0, .ref a), (1, .int i)] rfl (Nat.le_of_ble_eq_true rfl) ?_
  intro p e s m args below meth c hr X
  refine xj_iload_n X 1 dX7_at_0 rfl rfl ?_
  intro H locs ls hi hl
  refine lv_if_lt (tgt := 16) X.1 X.2.1 dX7_at_1 rfl (fun h => ?_) (fun h => ?_)
  · refine (show x_J 2 p l e _ s m _ below meth c 0 0 (x_IR D s ws) _ 16 [(0, .ref a), (1, .int i)] [] from ?_) H locs ls hi hl
    refine xj_iconst (x := 0) X dX7_at_16 rfl ?_
    exact xj_iret_ro X hr (by rw [x_at, if_pos h]) dX7_at_17
  · refine (show x_J 2 p l e _ s m _ below meth c 0 0 (x_IR D s ws) _ 4 [(0, .ref a), (1, .int i)] [] from ?_) H locs ls hi hl
    refine xj_iload_n X 1 dX7_at_4 rfl rfl ?_
    refine xj_aload_n X 0 dX7_at_5 rfl rfl ?_
    intro H locs ls hi hl
    refine va_alen (v := Int32.ofNat N) X.1 X.2.1 X.2.2.2.2.2.2.1 hi.2.2 k 0 hk (ty := .int) rfl rfl dX7_at_6 ?_
    refine lv_icmp_ge (tgt := 16) X.1 X.2.1 dX7_at_7 rfl (fun h2 => ?_) (fun h2 => ?_)
    · refine (show x_J 2 p l e _ s m _ below meth c 0 0 (x_IR D s ws) _ 16 [(0, .ref a), (1, .int i)] [] from ?_) H locs ls hi hl
      refine xj_iconst (x := 0) X dX7_at_16 rfl ?_
      exact xj_iret_ro X hr (by rw [x_at, if_neg h, if_pos h2]) dX7_at_17
    · have hin : vp_in i N := by
        intro q
        rcases q with q | q
        · exact h q
        · exact h2 (nI_le_cl h q hN)
      refine (show x_J 2 p l e _ s m _ below meth c 0 0 (x_IR D s ws) _ 10 [(0, .ref a), (1, .int i)] [] from ?_) H locs ls hi hl
      refine xj_aload_n X 0 dX7_at_10 rfl rfl ?_
      refine xj_iload_n X 1 dX7_at_11 rfl rfl ?_
      intro H locs ls hi hl
      refine va_iald X.1 X.2.1 X.2.2.2.2.2.2.1 hi.2.2 k 0 hk rfl hin dX7_at_12 ?_
      refine lv_goto (tgt := 17) X.1 X.2.1 dX7_at_13 rfl ?_
      refine (show x_J 2 p l e _ s m _ below meth c 0 0 (x_IR D s ws) _ 17 [(0, .ref a), (1, .int i)] [.int (f i.toNatClampNeg)] from ?_) H locs ls hi hl
      exact xj_iret_ro X hr (by rw [x_at, if_neg h, if_neg h2]) dX7_at_17
set_option maxHeartbeats 4000000 in
set_option maxRecDepth 100000 in
theorem c_put (l : Launch) (D : va_G) (cA : ClassId) {A : Nat → Prop} {ws ws' : va_W} {k a N : Nat} {f : Nat → Int32} (hD : va_D A ws) (hk : ws[k]? = some (a, .inl (cA, N, .inl f))) (hN : N < 2 ^ 31) (i v : Int32) (hs : ws.set k (a, .inl (cA, N, .inl (x_pt N f i v))) = ws') : Met l yX7_put zX7_put ({ frames := 0, cells := 0, slots := 0, locals := 0 } : Room) (x_P D cA [.ref a, .int i, .int v] ws) (x_U D none ws' A) 0 0 A := by
  have hself : ws.set k (a, .inl (cA, N, .inl f)) = ws := by
    obtain ⟨h1, h2⟩ := List.getElem?_eq_some_iff.mp hk
    rw [← h2]; exact List.set_getElem_self h1
  refine x_met (cc := cX7_put) (maxL := 3) (ret := none) RX7 rfl (by decide) rfl [(0, .ref a), (1, .int i), (2, .int v)] rfl (Nat.le_of_ble_eq_true rfl) ?_
  intro p e s m args below meth c hr X
  refine xj_w (A := A) ?_
  refine xj_iload_n X 1 dX7_put_0 rfl rfl ?_
  intro H locs ls hi hl
  refine lv_if_lt (tgt := 14) X.1 X.2.1 dX7_put_1 rfl (fun h => ?_) (fun h => ?_)
  · refine (show x_J 3 p l e _ s m _ below meth c 0 0 (x_IW D s A ws) _ 14 [(0, .ref a), (1, .int i), (2, .int v)] [] from ?_) H locs ls hi hl
    exact xj_vret_wr X hr (by rw [← hs, x_pt, if_pos h, hself]) dX7_put_14
  · refine (show x_J 3 p l e _ s m _ below meth c 0 0 (x_IW D s A ws) _ 4 [(0, .ref a), (1, .int i), (2, .int v)] [] from ?_) H locs ls hi hl
    refine xj_iload_n X 1 dX7_put_4 rfl rfl ?_
    refine xj_aload_n X 0 dX7_put_5 rfl rfl ?_
    intro H locs ls hi hl
    refine va_alen (v := Int32.ofNat N) X.1 X.2.1 X.2.2.2.2.2.2.1 hi.1 k 0 hk (ty := .int) rfl rfl dX7_put_6 ?_
    refine lv_icmp_ge (tgt := 14) X.1 X.2.1 dX7_put_7 rfl (fun h2 => ?_) (fun h2 => ?_)
    · refine (show x_J 3 p l e _ s m _ below meth c 0 0 (x_IW D s A ws) _ 14 [(0, .ref a), (1, .int i), (2, .int v)] [] from ?_) H locs ls hi hl
      exact xj_vret_wr X hr (by rw [← hs, x_pt, if_neg h, if_pos h2, hself]) dX7_put_14
    · have hin : vp_in i N := by
        intro q
        rcases q with q | q
        · exact h q
        · exact h2 (nI_le_cl h q hN)
      refine (show x_J 3 p l e _ s m _ below meth c 0 0 (x_IW D s A ws) _ 10 [(0, .ref a), (1, .int i), (2, .int v)] [] from ?_) H locs ls hi hl
      refine xj_aload_n X 0 dX7_put_10 rfl rfl ?_
      refine xj_iload_n X 1 dX7_put_11 rfl rfl ?_
      refine xj_iload_n X 2 dX7_put_12 rfl rfl ?_
      intro H locs ls hi hl
      refine va_iast X.1 X.2.1 X.2.2.2.2.2.2.1 hi.1 hD hi.2 k 0 hk rfl hin dX7_put_13 (fun H1 locs1 hP1 _ hS1 => ?_)
      refine (show x_J 3 p l e _ s m _ below meth c 0 0 (x_IW D s A ws') _ 14 [(0, .ref a), (1, .int i), (2, .int v)] [] from ?_) H1 locs1 ls ⟨by rw [← hs, x_pt, if_neg h, if_neg h2]; exact hP1, hS1⟩ hl
      exact xj_vret_wr X hr rfl dX7_put_14
