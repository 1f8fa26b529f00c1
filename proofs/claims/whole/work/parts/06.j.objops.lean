theorem sim_fr {σ τ σ' τ' : x_M} (h : Sim σ τ) (hX : FX σ' σ) (hM : FM τ' τ) : Sim σ' τ' := by
  obtain ⟨m1, m2⟩ := hM
  rw [Sim, hX 1 (by omega), hX 2 (by omega), hX 10 (by omega), hX 11 (by omega), hX 12 (by omega), hX 14 (by omega), hX 13 (by omega), hX 9 (by omega), hX 16 (by omega), hX 17 (by omega), hX 18 (by omega), hX 20 (by omega), hX 19 (by omega), hX 15 (by omega), hX 21 (by omega), hX 22 (by omega), hX 23 (by omega), hX 24 (by omega), hX 25 (by omega), m1 1 (by omega), m1 8 (by omega), m1 7 (by omega), m1 9 (by omega), m1 10 (by omega), m1 11 (by omega), m1 13 (by omega), m1 12 (by omega), m1 14 (by omega), m1 15 (by omega), m1 17 (by omega), m1 18 (by omega), m1 16 (by omega), m2 0 (by decide), m2 8 (by decide), m2 26 (by decide), m2 14 (by decide), m2 15 (by decide), m2 16 (by decide), m2 21 (by decide), m2 22 (by decide), m2 23 (by decide), m2 24 (by decide), m2 25 (by decide), m2 27 (by decide), m2 28 (by decide), m2 29 (by decide), m2 30 (by decide), m2 32 (by decide)]
  exact h
/-- the reading's two ends, told by 'isBroken' and by the reference's answer -/
theorem read_sim {σ τ : x_M} (h : Sim σ τ) : ∃ (σ' τ' : x_M) (r : Int32), fX2_read σ = some σ' ∧ fX8_reads τ = some (r, τ') ∧ Sim σ' τ' ∧ FX σ' σ ∧ FM τ' τ ∧ ((r = -4 ∧ fX2_isBroken σ' = false ∧ ∃ (len c : Nat) (tg ln dp vs pr : Nat → Nat), len ≤ 120 ∧ c ≤ 24 ∧ σ' 3 5 = nI c ∧ τ' 0 2 = nI c ∧ PS σ' τ' len c tg ln dp vs pr) ∨ (¬ r = -4 ∧ fX2_isBroken σ' = true ∧ σ' 3 6 = r)) := by
  obtain ⟨len, hlen, el, σ', τ', r, e1, e2, e3, e4, e5⟩ := read_eq h
  refine ⟨σ', τ', r, e1, e2, sim_fr h e3 e4, e3, e4, ?_⟩
  rcases e5 with ⟨q1, q2, c, tg, ln, dp, vs, pr, q3, q4, q5, q6⟩ | ⟨e, q1, q2, q3⟩
  · exact Or.inl ⟨q1, by rw [fX2_isBroken, if_pos q2], len, c, tg, ln, dp, vs, pr, hlen, q3, q4, q5, q6⟩
  · exact Or.inr ⟨by rw [q2]; exact nI_nm (by omega) (by decide), by rw [fX2_isBroken, q3, if_neg (nI_nm (by omega) (by decide))], by rw [q3, q2]⟩
theorem o_errorOffset {σ τ : x_M} (h : Sim σ τ) : Opp (fX7_errorOffset σ) (fX8_errorOffset τ) := by
  obtain ⟨σ', τ', r, e1, e2, e3, -, -, e4⟩ := read_sim h
  rw [fX7_errorOffset, fX8_errorOffset, e1, e2, bind_some, bind_some]
  dsimp only
  rcases e4 with ⟨q1, q2, -⟩ | ⟨q1, q2, q3⟩
  · rw [q2, if_pos b2i_f, q1]; exact Opp.mk e3
  · rw [q2, if_neg b2i_t0, q3]; exact Opp.mk e3
theorem o_objectCount {σ τ : x_M} (h : Sim σ τ) : Opp (fX7_objectCount σ) (fX8_objectCount τ) := by
  obtain ⟨σ', τ', r, e1, e2, e3, -, -, e4⟩ := read_sim h
  rw [fX7_objectCount, fX8_objectCount, e1, e2, bind_some, bind_some]
  dsimp only
  rcases e4 with ⟨q1, q2, len, c, tg, ln, dp, vs, pr, q3, q4, q5, q6, q7⟩ | ⟨q1, q2, q3⟩
  · rw [q2, if_pos b2i_f, if_pos q1, q5, q6]; exact Opp.mk e3
  · rw [q2, if_neg b2i_t0, if_neg q1]; exact Opp.mk e3
/-- asked for an object: the same error, or an object that there is -/
theorem obj_eq {σ τ : x_M} (h : Sim σ τ) (p : Int32) : ∃ (e : Int32) (σ' τ' : x_M), fX7_objectError σ p = some (e, σ') ∧ fX8_errorOf τ p = some (e, τ') ∧ Sim σ' τ' ∧ (¬ e = 0 ∨ (e = 0 ∧ ∃ (k : Nat) (len c : Nat) (tg ln dp vs pr : Nat → Nat), k < c ∧ c ≤ 24 ∧ p = nI k ∧ PS σ' τ' len c tg ln dp vs pr)) := by
  rw [fX7_objectError, fX8_errorOf]
  by_cases p1 : (0 : Int32) ≤ p
  rotate_left
  · rw [if_neg p1, if_neg p1]; exact ⟨-1, σ, τ, rfl, rfl, h, Or.inl (by decide)⟩
  rw [if_pos p1, if_pos p1]
  obtain ⟨σ', τ', r, e1, e2, e3, -, -, e4⟩ := read_sim h
  rw [e1, e2, bind_some, bind_some]
  rcases e4 with ⟨q1, q2, len, c, tg, ln, dp, vs, pr, q3, q4, q5, q6, q7⟩ | ⟨q1, q2, q3⟩
  · rw [q2, if_pos b2i_f, if_pos q1, q5, show (r, τ').2 0 2 = nI c from q6]
    obtain ⟨k, hk, rfl⟩ := nI_of (i_nlt.mpr p1)
    rcases Nat.lt_or_ge k c with c1 | c1
    · rw [q_lt c1 (by omega), q_nle c1 (by omega)]
      exact ⟨0, σ', τ', rfl, rfl, e3, Or.inr ⟨rfl, k, len, c, tg, ln, dp, vs, pr, c1, q4, rfl, q7⟩⟩
    · rw [q_nlt c1 hk, q_le c1 hk]
      exact ⟨-4, σ', τ', rfl, rfl, e3, Or.inl (by decide)⟩
  · rw [q2, if_neg b2i_t0, if_neg q1]
    exact ⟨-2, σ', τ', rfl, rfl, e3, Or.inl (by decide)⟩
theorem o_objectTag {σ τ : x_M} (h : Sim σ τ) (p : Int32) : Opp (fX7_objectTag σ p) (fX8_objectTag τ p) := by
  obtain ⟨e, σ', τ', e1, e2, e3, e4⟩ := obj_eq h p
  rw [fX7_objectTag, fX8_objectTag, e1, e2, bind_some, bind_some]
  dsimp only
  rcases e4 with e4 | ⟨e4, k, len, c, tg, ln, dp, vs, pr, q1, q2, rfl, q3⟩
  · rw [if_neg e4, if_neg e4]; exact Opp.mk e3
  · obtain ⟨⟨p1, p2, p3, p4, p5, p6, p7, p8, p9⟩, -⟩ := q3 k q1
    rw [if_pos e4, if_pos e4, g_in (by omega) (by decide), nI_clamp (by omega), x_at_nI (by omega) (by decide), p1, p2]
    exact Opp.mk e3
theorem o_objectDepth {σ τ : x_M} (h : Sim σ τ) (p : Int32) : Opp (fX7_objectDepth σ p) (fX8_objectDepth τ p) := by
  obtain ⟨e, σ', τ', e1, e2, e3, e4⟩ := obj_eq h p
  rw [fX7_objectDepth, fX8_objectDepth, e1, e2, bind_some, bind_some]
  dsimp only
  rcases e4 with e4 | ⟨e4, k, len, c, tg, ln, dp, vs, pr, q1, q2, rfl, q3⟩
  · rw [if_neg e4, if_neg e4]; exact Opp.mk e3
  · obtain ⟨⟨p1, p2, p3, p4, p5, p6, p7, p8, p9⟩, -⟩ := q3 k q1
    rw [if_pos e4, if_pos e4, g_in (by omega) (by decide), nI_clamp (by omega), x_at_nI (by omega) (by decide), p5, p6]
    exact Opp.mk e3
theorem o_objectLength {σ τ : x_M} (h : Sim σ τ) (p : Int32) : Opp (fX7_objectLength σ p) (fX8_objectLength τ p) := by
  obtain ⟨e, σ', τ', e1, e2, e3, e4⟩ := obj_eq h p
  rw [fX7_objectLength, fX8_objectLength, e1, e2, bind_some, bind_some]
  dsimp only
  rcases e4 with e4 | ⟨e4, k, len, c, tg, ln, dp, vs, pr, q1, q2, rfl, q3⟩
  · rw [if_neg e4, if_neg e4]; exact Opp.mk e3
  · obtain ⟨⟨p1, p2, p3, p4, p5, p6, p7, p8, p9⟩, -⟩ := q3 k q1
    rw [if_pos e4, if_pos e4, g_in (by omega) (by decide), nI_clamp (by omega), x_at_nI (by omega) (by decide), p3, p4]
    exact Opp.mk e3
theorem find_loop : ∀ (n m : Nat) (σ τ : x_M) (w : Int32) (k len c : Nat) (tg ln dp vs pr : Nat → Nat), PS σ τ len c tg ln dp vs pr → c ≤ 24 → σ 3 5 = nI c → τ 0 2 = nI c → k < 2 ^ 31 → c - k < n → c - k < m → ∃ r : Int32, fX2_firstWithTag_2 σ n w (nI k) = some r ∧ fX8_findObject_24 m τ w (nI k) = some (if r = -1 then -4 else r, τ) := by
  intro n
  induction n with
  | zero => intro m σ τ w k len c tg ln dp vs pr h1 h2 h3 h4 h5 h6; omega
  | succ n ih =>
    intro m σ τ w k len c tg ln dp vs pr h1 h2 h3 h4 h5 h6 h7
    obtain ⟨m, rfl⟩ : ∃ m', m = m' + 1 := ⟨m - 1, by omega⟩
    rw [fX2_firstWithTag_2, fX8_findObject_24, h3, h4]
    rcases Nat.lt_or_ge k c with c1 | c1
    · obtain ⟨⟨p1, p2, -⟩, -⟩ := h1 k c1
      rw [q_nle c1 (by omega), q_nle c1 (by omega), g_in (by omega) (by decide), nI_clamp h5, x_at_nI (by omega) (by decide), p1, p2, nI_succ1]
      by_cases c2 : nI (tg k) = w
      · rw [if_pos c2, if_pos c2]
        exact ⟨nI k, rfl, by rw [if_neg (nI_nm h5 (by decide))]⟩
      · rw [if_neg c2, if_neg c2]
        exact ih m σ τ w (k + 1) len c tg ln dp vs pr h1 h2 h3 h4 (by omega) (by omega) (by omega)
    · rw [q_le c1 h5, q_le c1 h5]
      exact ⟨-1, rfl, rfl⟩
theorem o_findObject {σ τ : x_M} (h : Sim σ τ) (w p : Int32) : Opp (fX7_findObject σ w p) (fX8_findObject τ w p) := by
  rw [fX7_findObject, fX8_findObject]
  by_cases p0 : w < 0
  · rw [if_pos p0, if_pos p0]; exact Opp.mk h
  rw [if_neg p0, if_neg p0]
  by_cases p1 : (0 : Int32) ≤ p
  rotate_left
  · rw [if_neg p1, if_neg p1]; exact Opp.mk h
  rw [if_pos p1, if_pos p1]
  obtain ⟨σ', τ', r, e1, e2, e3, -, -, e4⟩ := read_sim h
  rw [e1, e2, bind_some, bind_some]
  dsimp only
  rcases e4 with ⟨q1, q2, len, c, tg, ln, dp, vs, pr, q3, q4, q5, q6, q7⟩ | ⟨q1, q2, q3⟩
  · rw [q2, if_pos b2i_f, if_pos q1]
    obtain ⟨k, hk, rfl⟩ := nI_of (i_nlt.mpr p1)
    obtain ⟨r, g1, g2⟩ := find_loop x_fuel x_fuel σ' τ' w k len c tg ln dp vs pr q7 q4 q5 q6 hk (by rw [xf3]; omega) (by rw [xf3]; omega)
    rw [fX2_firstWithTag, g1, bind_some, g2]
    by_cases z : r = -1
    · rw [if_pos z, if_pos z]; exact Opp.mk e3
    · rw [if_neg z, if_neg z]; exact Opp.mk e3
  · rw [q2, if_neg b2i_t0, if_neg q1]; exact Opp.mk e3
