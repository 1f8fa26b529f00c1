theorem ce_sig {σ σ' τ : x_M} {C : Nat → Bool} {R B : Nat → Nat} {n : Nat} (h : CE σ τ C R B n) (e1 : σ' 16 1 = σ 16 1) (e2 : σ' 11 = σ 11) (e3 : σ' 12 = σ 12) (e4 : σ' 17 = σ 17) (e5 : σ' 18 = σ 18) (e6 : σ' 20 = σ 20) (e7 : σ' 10 1 = σ 10 1) (e8 : σ' 14 = σ 14) : CE σ' τ C R B n := by
  obtain ⟨⟨s1, s2, s3, s4, s5, s6, s7, s8⟩, h2, h3, h4, h5, h6⟩ := h
  have hSE : SE σ' τ := ⟨by rw [e1, s1], by rw [e2, s2], by rw [e3, s3], by rw [e4, s4], by rw [e5, s5], by rw [e6, s6], by rw [e1]; exact s7, by rw [e4]; exact s8⟩
  refine ⟨hSE, h2, by rw [e7, h3], h4, fun a ha => ⟨?_, (h5 a ha).2⟩, fun a => by rw [e8]; exact h6 a⟩
  obtain ⟨b, k1, k2⟩ := sup_eq hSE ha
  rw [(h5 a ha).2] at k2
  cases k2
  exact k1
theorem cand_eq {σ τ : x_M} {C : Nat → Bool} {R B : Nat → Nat} {n : Nat} (h : CE σ τ C R B n) {a : Nat} (ha : a < 6) : fX7_isCandidate σ (nI a) = some (C a) := by
  rw [fX7_isCandidate, bind_id]
  exact (h.2.2.2.2.1 a ha).1
theorem cc_loop : ∀ (N : Nat) (σ τ : x_M) (C : Nat → Bool) (R B : Nat → Nat) (n o : Nat), CE σ τ C R B n → o ≤ n → n - o < N → fX7_candidateCount_4 σ N (nI (cnt C o)) (nI o) = some (nI (cnt C n)) := by
  intro N
  induction N with
  | zero => intro σ τ C R B n o h0 h1 h2; omega
  | succ N ih =>
    intro σ τ C R B n o h0 h1 h2
    have hn := h0.2.1
    rw [fX7_candidateCount_4, h0.2.2.1]
    rcases Nat.lt_or_ge o n with h | h
    · rw [q_nle h (by omega), cand_eq h0 (by omega), bind_some, nI_succ1, nI_succ1]
      have hs : cnt C (o + 1) = cnt C o + (if C o = true then 1 else 0) := rfl
      cases hC : C o
      · rw [if_pos b2i_f]
        rw [hC] at hs
        rw [show cnt C o = cnt C (o + 1) from hs.symm]
        exact ih σ τ C R B n (o + 1) h0 h (by omega)
      · rw [if_neg b2i_t0]
        rw [hC] at hs
        rw [show cnt C o + 1 = cnt C (o + 1) from hs.symm]
        exact ih σ τ C R B n (o + 1) h0 h (by omega)
    · have e : o = n := by omega
      subst e
      rw [q_le (Nat.le_refl _) (by omega)]
theorem rank_eq {σ τ : x_M} {C : Nat → Bool} {R B : Nat → Nat} {n : Nat} (h : CE σ τ C R B n) {a : Nat} (ha : a < 6) : fX1_rank σ (nI a) = nI (R a) ∧ R a ≤ 16 := by
  obtain ⟨h1, h2, h3, h4, h5, h6⟩ := h
  obtain ⟨g1, g2, g3, g4⟩ := h6 a
  have e : fX1_priority σ (nI a) = nI (B a % 16) := by
    rw [fX1_priority, x_at_nI ha (by decide), g2]
    exact pk_andN (by omega) 4 rfl
  rw [fX1_rank, e, g4, show (0 : Int32) = nI 0 from rfl]
  by_cases z : B a % 16 = 0
  · rw [if_pos z, z, q_eq rfl]; exact ⟨rfl, Nat.le_refl _⟩
  · rw [if_neg z, q_ne z (by omega) (by decide)]; exact ⟨rfl, by omega⟩
theorem cb_eq {σ τ : x_M} {C : Nat → Bool} {R B : Nat → Nat} {n : Nat} (h : CE σ τ C R B n) {o a : Nat} (ho : o < 6) (ha : a < 6) : fX1_comesBefore σ (nI o) (nI a) = (decide (R o < R a) || (decide (R o = R a) && decide (o < a))) := by
  obtain ⟨e1, r1⟩ := rank_eq h ho
  obtain ⟨e2, r2⟩ := rank_eq h ha
  rw [fX1_comesBefore, e1, e2]
  by_cases c1 : R o < R a
  · rw [q_lt c1 (by omega), decide_eq_true c1]; rfl
  · rw [q_nlt (by omega) (by omega), decide_eq_false c1, Bool.false_or]
    by_cases c2 : R o = R a
    · rw [c2, q_eq rfl, decide_eq_true rfl, Bool.true_and]
      by_cases c3 : o < a
      · rw [q_nle c3 (by omega), decide_eq_true c3]
      · rw [q_le (by omega) (by omega), decide_eq_false c3]
    · rw [q_ne c2 (by omega) (by omega), decide_eq_false c2, Bool.false_and]
theorem cbf_loop : ∀ (N : Nat) (σ τ : x_M) (C : Nat → Bool) (R B : Nat → Nat) (n a o : Nat), CE σ τ C R B n → a < 6 → o ≤ n → n - o < N → fX7_candidatesBefore_4 σ N (nI a) (nI (c_ps C R o (R a) a)) (nI o) = some (nI (c_ps C R n (R a) a)) := by
  intro N
  induction N with
  | zero => intro σ τ C R B n a o h0 ha h1 h2; omega
  | succ N ih =>
    intro σ τ C R B n a o h0 ha h1 h2
    have hn := h0.2.1
    rw [fX7_candidatesBefore_4, h0.2.2.1]
    rcases Nat.lt_or_ge o n with h | h
    · rw [q_nle h (by omega), cand_eq h0 (by omega), bind_some, nI_succ1, nI_succ1, cb_eq h0 (by omega) ha]
      have hs : c_ps C R (o + 1) (R a) a = c_ps C R o (R a) a + (if (C o && (decide (R o < R a) || (decide (R o = R a) && decide (o < a)))) = true then 1 else 0) := rfl
      have hr := ih σ τ C R B n a (o + 1) h0 ha h (by omega)
      rw [hs] at hr
      cases hC : C o
      · rw [if_pos b2i_f]
        rw [hC, Bool.false_and, if_neg (by decide)] at hr
        exact hr
      · rw [if_neg b2i_t0]
        rw [hC, Bool.true_and] at hr
        cases hB : (decide (R o < R a) || (decide (R o = R a) && decide (o < a)))
        · rw [if_pos b2i_f]
          rw [hB, if_neg (by decide)] at hr
          exact hr
        · rw [if_neg b2i_t0]
          rw [hB, if_pos rfl] at hr
          exact hr
    · have e : o = n := by omega
      subst e
      rw [q_le (Nat.le_refl _) (by omega)]
theorem cbf_eq {σ τ : x_M} {C : Nat → Bool} {R B : Nat → Nat} {n : Nat} (h : CE σ τ C R B n) {a : Nat} (ha : a < 6) : fX7_candidatesBefore σ (nI a) = some (nI (c_ps C R n (R a) a)) := by
  rw [fX7_candidatesBefore]
  exact cbf_loop x_fuel σ τ C R B n a 0 h ha (Nat.zero_le _) (by have := h.2.1; rw [xf3]; omega)
/-- the reference's scratch rows are free -/
theorem sim_scr {σ τ : x_M} (h : Sim σ τ) (v : Int32) (g : Nat → Int32) : Sim σ (x_st (up2 τ 0 35 v) 19 g) := h
theorem o_candidateCount {σ τ : x_M} (h : Sim σ τ) : ∃ (r : Int32) (τ' : x_M), fX7_candidateCount σ = some r ∧ fX8_candidateCount τ = some (r, τ') ∧ Sim σ τ' := by
  obtain ⟨C, R, B, n, hE⟩ := ce_of h
  obtain ⟨g, k1, k2⟩ := lists_eq hE
  rw [fX8_candidateCount, k2, bind_some, fX7_candidateCount]
  refine ⟨nI (cnt C n), _, ?_, rfl, sim_scr h _ _⟩
  exact cc_loop x_fuel σ τ C R B n 0 hE (Nat.zero_le _) (by have := hE.2.1; rw [xf3]; omega)
theorem ca_loop : ∀ (N : Nat) (σ τ : x_M) (C : Nat → Bool) (R B : Nat → Nat) (n j a : Nat), CE σ τ C R B n → j < 2 ^ 31 → a ≤ n → n - a < N → (∀ o, o < a → C o = true → c_ps C R n (R o) o ≠ j) → (∃ o, o < n ∧ C o = true ∧ c_ps C R n (R o) o = j ∧ fX7_candidateAt_8 σ N (nI j) (nI a) = some (nI o)) ∨ ((∀ o, o < n → C o = true → c_ps C R n (R o) o ≠ j) ∧ fX7_candidateAt_8 σ N (nI j) (nI a) = some (-4)) := by
  intro N
  induction N with
  | zero => intro σ τ C R B n j a h0 hj h1 h2; omega
  | succ N ih =>
    intro σ τ C R B n j a h0 hj h1 h2 h3
    have hn := h0.2.1
    rw [fX7_candidateAt_8, h0.2.2.1]
    rcases Nat.lt_or_ge a n with h | h
    · rw [q_nle h (by omega), cand_eq h0 (by omega), bind_some, nI_succ1]
      cases hC : C a
      · rw [if_pos b2i_f]
        refine ih σ τ C R B n j (a + 1) h0 hj h (by omega) (fun o ho co => ?_)
        by_cases e : o = a
        · subst e; rw [hC] at co; cases co
        · exact h3 o (by omega) co
      · rw [if_neg b2i_t0, cbf_eq h0 (by omega), bind_some]
        have hp := c_tot (R := R) h hC
        have hq := cnt_n C n
        by_cases c : c_ps C R n (R a) a = j
        · rw [c, q_eq rfl]
          exact Or.inl ⟨a, h, hC, c, rfl⟩
        · rw [q_ne c (by omega) hj]
          refine ih σ τ C R B n j (a + 1) h0 hj h (by omega) (fun o ho co => ?_)
          by_cases e : o = a
          · subst e; exact c
          · exact h3 o (by omega) co
    · have e : a = n := by omega
      subst e
      rw [q_le (Nat.le_refl _) (by omega)]
      exact Or.inr ⟨h3, rfl⟩
theorem o_candidateAt {σ τ : x_M} (h : Sim σ τ) (p : Int32) : ∃ (r : Int32) (τ' : x_M), fX7_candidateAt σ p = some r ∧ fX8_candidateAt τ p = some (r, τ') ∧ Sim σ τ' := by
  rw [fX7_candidateAt, fX8_candidateAt]
  by_cases p1 : (0 : Int32) ≤ p
  rotate_left
  · rw [if_neg p1, if_neg p1]; exact ⟨-1, τ, rfl, rfl, h⟩
  rw [if_pos p1, if_pos p1]
  obtain ⟨C, R, B, n, hE⟩ := ce_of h
  obtain ⟨g, k1, k2⟩ := lists_eq hE
  obtain ⟨j, hj, rfl⟩ := nI_of (i_nlt.mpr p1)
  have hq := cnt_n C n
  have hn := hE.2.1
  rw [k2, bind_some]
  show ∃ (r : Int32) (τ' : x_M), _ ∧ (if nI (cnt C n) ≤ nI j then some (-4, x_st (up2 τ 0 35 (nI (cnt C n))) 19 g) else (if x_inb (nI j) 6 = true then some (g (nI j).toNatClampNeg, x_st (up2 τ 0 35 (nI (cnt C n))) 19 g) else none)) = some (r, τ') ∧ _
  rcases ca_loop x_fuel σ τ C R B n j 0 hE hj (Nat.zero_le _) (by rw [xf3]; omega) (fun o ho => by omega) with ⟨o, ho, co, po, ex⟩ | ⟨hno, ex⟩
  · have ht := c_tot (R := R) ho co
    rw [po] at ht
    obtain ⟨o2, ho2, co2, po2, eg⟩ := k1 j ht
    have := c_inj ho ho2 co co2 (by rw [po, po2])
    subst this
    rw [q_nle ht (by omega), g_in (by omega) (by decide), nI_clamp hj, eg]
    exact ⟨nI o, _, ex, rfl, sim_scr h _ _⟩
  · rcases Nat.lt_or_ge j (cnt C n) with c | c
    · obtain ⟨o2, ho2, co2, po2, eg⟩ := k1 j c
      exact absurd po2 (hno o2 ho2 co2)
    · rw [q_le c hj]
      exact ⟨-4, _, ex, rfl, sim_scr h _ _⟩
theorem s40_loop : ∀ (N : Nat) (τ : x_M) (C : Nat → Bool) (R : Nat → Nat) (n a k : Nat), a < 6 → n ≤ 6 → k ≤ cnt C n → cnt C n - k < N → τ 0 35 = nI (cnt C n) → c_inv C R n (cnt C n) (τ 19) → (C a = true → a < n ∧ k ≤ c_ps C R n (R a) a) → fX8_select_40 N τ (nI a) (nI k) = (if C a = true ∧ a < n then some (nI (c_ps C R n (R a) a), up2 τ 0 26 (nI a)) else some (-4, τ)) := by
  intro N
  induction N with
  | zero => intro τ C R n a k ha hn h1 h2; omega
  | succ N ih =>
    intro τ C R n a k ha hn h1 h2 h3 h4 h5
    have hq := cnt_n C n
    rw [fX8_select_40, h3]
    rcases Nat.lt_or_ge k (cnt C n) with h | h
    · obtain ⟨o, ho, co, po, eo⟩ := h4 k h
      rw [q_nle h (by omega), g_in (by omega) (by decide), nI_clamp (by omega), eo, nI_succ1]
      by_cases e : o = a
      · subst e
        rw [q_eq rfl, if_pos ⟨co, ho⟩, po]
      · rw [q_ne e (by omega) (by omega)]
        refine ih τ C R n a (k + 1) ha hn h (by omega) h3 h4 (fun ca => ⟨(h5 ca).1, ?_⟩)
        have := (h5 ca).2
        rcases Nat.eq_or_lt_of_le this with q | q
        · exact absurd (c_inj ho (h5 ca).1 co ca (by rw [po, q])) e
        · exact q
    · have e : k = cnt C n := by omega
      subst e
      rw [q_le (Nat.le_refl _) (by omega)]
      rw [if_neg]
      rintro ⟨ca, hk⟩
      have := c_tot (R := R) hk ca
      have := (h5 ca).2
      omega
theorem conf_tab : ∀ b, b < 256 → ((nI b &&& 128 = 0) ↔ ¬ (nI b >>> (7 &&& 31) = 1)) := fun b hb => co_dec (P := fun b => (nI b &&& 128 = 0) ↔ ¬ (nI b >>> (7 &&& 31) = 1)) (N := 256) (by decide +kernel) hb
theorem o_select {σ τ : x_M} (h : Sim σ τ) (p : Int32) (q : Bool) : Opp (fX7_select σ p q) (fX8_select τ p q) := by
  rw [fX7_select, fX8_select]
  rcases o_app h p with ⟨e1, e2⟩ | ⟨e1, e2, a, n', ha, hn', en', rfl⟩
  · rw [e1, e2, if_pos b2i_f, if_pos b2i_f]; exact Opp.mk h
  obtain ⟨pd, f1, f2, f3, f4⟩ := pend_of h
  rw [e1, e2, if_neg b2i_t0, if_neg b2i_t0, f1, f2]
  cases pd
  rotate_left
  · rw [if_neg b2i_t0, if_neg b2i_t0]; exact Opp.mk h
  rw [if_pos b2i_f, if_pos b2i_f, g_in (by omega) (by decide), nI_clamp (by omega)]
  obtain ⟨C, R, B, n, hE⟩ := ce_of h
  have hnn : n' = n := (nI_eq (by omega) (by have := hE.2.1; omega)).mp (en'.symm.trans hE.2.2.1)
  subst hnn
  have main : Opp (fX7_select_41 σ (nI a)) (fX8_select_34 τ (nI a)) := by
    obtain ⟨g, k1, k2⟩ := lists_eq hE
    rw [fX7_select_41, fX8_select_34, k2, bind_some, cand_eq hE (by omega), bind_some, show (0 : Int32) = nI 0 from rfl, s40_loop x_fuel (x_st (up2 τ 0 35 (nI (cnt C n'))) 19 g) C R n' a 0 (by omega) hn' (Nat.zero_le _) (by have := cnt_n C n'; rw [xf3]; omega) rfl k1 (fun ca => ⟨ha, Nat.zero_le _⟩)]
    cases hC : C a
    · rw [if_pos (show b2i false = nI 0 from rfl), if_neg (by intro z; cases z.1)]
      exact Opp.mk (sim_scr h _ _)
    · have hE' : CE (up2 σ 9 2 (nI a)) τ C R B n' := ce_sig hE rfl rfl rfl rfl rfl rfl rfl rfl
      rw [if_neg (show ¬ b2i true = nI 0 by decide), cbf_eq hE' (by omega), bind_some, if_pos ⟨rfl, ha⟩]
      obtain ⟨h1, h2, ⟨c1, c2, c3, c4⟩, h4, h5, h6⟩ := h
      exact Opp.mk ⟨h1, h2, ⟨c1, c2, c3, Or.inr ⟨rfl, nI_pos' (by omega)⟩⟩, h4, h5, h6⟩
  obtain ⟨h1, ⟨a1, a2, a3, a4, a5, a6, a7⟩, h3, h4, h5, h6⟩ := id h
  obtain ⟨b, hb, eb⟩ := a7 a
  have htab := conf_tab b hb
  rw [fX1_needsConfirmation, x_at_nI (by omega) (by decide), a5 a, eb]
  by_cases c : nI b &&& 128 = 0
  · rw [if_pos c, if_pos b2i_f, if_neg (htab.mp c)]
    exact main
  · have c2 : nI b >>> (7 &&& 31) = 1 := by
      by_cases z : nI b >>> (7 &&& 31) = 1
      · exact z
      · exact absurd (htab.mpr z) c
    rw [if_neg c, if_neg b2i_t0, if_pos c2]
    cases q
    · rw [if_pos b2i_f, if_pos b2i_f]; exact Opp.mk h
    · rw [if_neg b2i_t0, if_neg b2i_t0]; exact main
