theorem o_clearBytes {σ τ : x_M} (h : Sim σ τ) : Opp (fX7_clearBytes σ) (fX8_clearBytes τ) := by
  obtain ⟨⟨a1, a2, a3, a4⟩, h2, h3, h4, h5, h6⟩ := h
  rw [fX7_clearBytes, fX8_clearBytes, a1]
  exact Opp.mk ⟨⟨rfl, a2, ⟨0, by omega, rfl⟩, a4⟩, h2, h3, h4, h5, h6⟩
theorem o_appendByte {σ τ : x_M} (h : Sim σ τ) (p : Int32) : Opp (fX7_appendByte σ p) (fX8_appendByte τ p) := by
  obtain ⟨⟨a1, a2, ⟨n, hn, en⟩, a4⟩, h2, h3, h4, h5, h6⟩ := id h
  rw [fX7_appendByte, fX8_appendByte, a1]
  by_cases c1 : p < 0
  · rw [if_pos c1, in_f1 c1, if_pos b2i_f]
    exact Opp.mk h
  · rw [if_neg c1]
    by_cases c2 : p ≤ 255
    · obtain ⟨k, hk, rfl⟩ := i_nat (n := 255) rfl c1 c2
      rw [if_pos c2, in_t (i_nlt.mp c1) c2, if_neg b2i_t0, en]
      rcases Nat.lt_or_ge n 120 with c3 | c3
      · rw [show (120 : Int32) = nI 120 from rfl, q_lt c3 (by decide), q_ne (by omega) (by omega) (by decide), g_in c3 (by decide), fX0_add, en, show (120 : Int32) = nI 120 from rfl, q_nle c3 (by decide), bind_some, pu_nI c3 (by decide), nI_clamp (by omega)]
        refine Opp.mk ⟨⟨rfl, ?_, ⟨n + 1, by omega, nI_succ1 n⟩, fun j => ?_⟩, h2, h3, h4, h5, h6⟩
        · show upd (τ 1) n (nI k) = upd (σ 2) n (nI k)
          rw [a2]
        · show ∃ b, b < 256 ∧ upd (σ 2) n (nI k) j = nI b
          by_cases cj : j = n
          · subst cj; exact ⟨k, by omega, upd_s⟩
          · rw [upd_n cj]; exact a4 j
      · have e : n = 120 := by omega
        subst e
        rw [show (120 : Int32) = nI 120 from rfl, q_nlt (Nat.le_refl _) (by decide), q_eq rfl]
        exact Opp.mk h
    · rw [if_neg c2, in_f2 (i_nle.mp c2), if_pos b2i_f]
      exact Opp.mk h
theorem o_setFloorLimit {σ τ : x_M} (h : Sim σ τ) (p : Int32) : Opp (fX7_setFloorLimit σ p) (fX8_setFloorLimit τ p) := by
  obtain ⟨h1, h2, h3, h4, ⟨a1, a2, a3⟩, h6⟩ := id h
  rw [fX7_setFloorLimit, fX8_setFloorLimit, a2]
  by_cases c1 : p < 0
  · rw [if_pos c1, in_f1 c1, if_pos b2i_f]; exact Opp.mk h
  · rw [if_neg c1]
    by_cases c2 : p ≤ 99999
    · rw [if_pos c2, in_t (i_nlt.mp c1) c2, if_neg b2i_t0]
      exact Opp.mk ⟨h1, h2, h3, h4, ⟨a1, rfl, a3⟩, h6⟩
    · rw [if_neg c2, in_f2 (i_nle.mp c2), if_pos b2i_f]; exact Opp.mk h
theorem o_setRandomTarget {σ τ : x_M} (h : Sim σ τ) (p : Int32) : Opp (fX7_setRandomTarget σ p) (fX8_setRandomTarget τ p) := by
  obtain ⟨h1, h2, h3, h4, ⟨a1, a2, a3, a4, a5, a6⟩, h6⟩ := id h
  rw [fX7_setRandomTarget, fX8_setRandomTarget, a5]
  by_cases c1 : p < 0
  · rw [if_pos c1, in_f1 c1, if_pos b2i_f]; exact Opp.mk h
  · rw [if_neg c1]
    by_cases c2 : p ≤ 100
    · rw [if_pos c2, in_t (i_nlt.mp c1) c2, if_neg b2i_t0]
      exact Opp.mk ⟨h1, h2, h3, h4, ⟨a1, a2, a3, a4, rfl, a6⟩, h6⟩
    · rw [if_neg c2, in_f2 (i_nle.mp c2), if_pos b2i_f]; exact Opp.mk h
theorem o_setOnline {σ τ : x_M} (h : Sim σ τ) (p : Bool) : Opp (fX7_setOnline σ p) (fX8_setOnline τ p) := by
  obtain ⟨h1, h2, h3, h4, ⟨a1, a2, a3, a4, a5, a6⟩, h6⟩ := id h
  rw [fX7_setOnline, fX8_setOnline, a6]
  by_cases c1 : σ 15 6 = 0
  · rw [if_pos c1, if_pos c1, fX7_setOnline_15]
    exact Opp.mk ⟨h1, h2, h3, h4, ⟨a1, a2, a3, a4, a5, rfl⟩, h6⟩
  · rw [if_neg c1, if_neg c1, fX7_setOnline_15]
    exact Opp.mk ⟨h1, h2, h3, h4, ⟨a1, a2, a3, a4, a5, rfl⟩, h6⟩
theorem o_setOfflineLimits {σ τ : x_M} (h : Sim σ τ) (p q : Int32) : Opp (fX7_setOfflineLimits σ p q) (fX8_setOfflineLimits τ p q) := by
  obtain ⟨h1, h2, h3, h4, ⟨a1, a2, a3, a4, a5, a6⟩, h6⟩ := id h
  rw [fX7_setOfflineLimits, fX8_setOfflineLimits, a3, a4]
  by_cases c1 : p < 0
  · rw [if_pos c1, in_f1 c1, if_pos b2i_f]; exact Opp.mk h
  · rw [if_neg c1]
    by_cases c2 : q < p
    · rw [if_pos c2]
      by_cases c3 : p ≤ 15
      · rw [in_t (i_nlt.mp c1) c3, if_neg b2i_t0, in_f1 c2, if_pos b2i_f]; exact Opp.mk h
      · rw [in_f2 (i_nle.mp c3), if_pos b2i_f]; exact Opp.mk h
    · rw [if_neg c2]
      by_cases c3 : q ≤ 15
      · have c4 : p ≤ 15 := by
          rw [i_nlt, i_le] at c2
          rw [i_le] at c3 ⊢
          omega
        rw [if_pos c3, in_t (i_nlt.mp c1) c4, if_neg b2i_t0, in_t (i_nlt.mp c2) c3, if_neg b2i_t0]
        exact Opp.mk ⟨h1, h2, h3, h4, ⟨a1, a2, rfl, rfl, a5, a6⟩, h6⟩
      · rw [if_neg c3, in_f2 (p := q) (i_nle.mp c3)]
        by_cases c4 : p ≤ 15
        · rw [in_t (i_nlt.mp c1) c4, if_neg b2i_t0, if_pos b2i_f]; exact Opp.mk h
        · rw [in_f2 (i_nle.mp c4), if_pos b2i_f]; exact Opp.mk h
theorem o_setIssuerCode {σ τ : x_M} (h : Sim σ τ) (p q : Int32) : Opp (fX7_setIssuerCode σ p q) (fX8_setIssuerCode τ p q) := by
  obtain ⟨h1, h2, ⟨a1, a2⟩, h4, h5, h6⟩ := id h
  rw [fX7_setIssuerCode, fX8_setIssuerCode, fX7_replaceCode_13]
  by_cases c1 : p < 0
  · rw [if_pos c1, in_f1 c1, if_pos b2i_f]; exact Opp.mk h
  · rw [if_neg c1]
    by_cases c2 : (3 : Int32) ≤ p
    · have c3 : (2 : Int32) < p := by
        rw [i_le] at c2; rw [i_lt]
        have e3 : (3 : Int32).toInt = 3 := rfl
        have e2 : (2 : Int32).toInt = 2 := rfl
        omega
      rw [if_pos c2, in_f2 c3, if_pos b2i_f]; exact Opp.mk h
    · have c3 : p ≤ 2 := by
        rw [i_nle, i_lt] at c2; rw [i_le]
        have e3 : (3 : Int32).toInt = 3 := rfl
        have e2 : (2 : Int32).toInt = 2 := rfl
        omega
      obtain ⟨k, hk, rfl⟩ := i_nat (n := 2) rfl c1 c3
      rw [if_neg c2, in_t (i_nlt.mp c1) c3, if_neg b2i_t0]
      by_cases c4 : q < 0
      · rw [if_pos c4, in_f1 c4, if_pos b2i_f]; exact Opp.mk h
      · rw [if_neg c4]
        by_cases c5 : q ≤ 127
        · rw [if_pos c5, in_t (i_nlt.mp c4) c5, if_neg b2i_t0, g_in (by omega) (by decide), g_in (by omega) (by decide), x_at_nI (by omega) (by decide), pu_nI (by omega) (by decide), nI_clamp (by omega), bind_some, a1]
          exact Opp.mk ⟨h1, h2, ⟨by show upd (τ 11) k q = upd (σ 13) k q; rw [a1], a2⟩, h4, h5, h6⟩
        · rw [if_neg c5, in_f2 (i_nle.mp c5), if_pos b2i_f]; exact Opp.mk h
theorem o_setTerminalCode {σ τ : x_M} (h : Sim σ τ) (p q : Int32) : Opp (fX7_setTerminalCode σ p q) (fX8_setTerminalCode τ p q) := by
  obtain ⟨h1, h2, h3, h4, ⟨a1, a2⟩, h6⟩ := id h
  rw [fX7_setTerminalCode, fX8_setTerminalCode, fX7_replaceCode_19]
  by_cases c1 : p < 0
  · rw [if_pos c1, in_f1 c1, if_pos b2i_f]; exact Opp.mk h
  · rw [if_neg c1]
    by_cases c2 : (3 : Int32) ≤ p
    · have c3 : (2 : Int32) < p := by
        rw [i_le] at c2; rw [i_lt]
        have e3 : (3 : Int32).toInt = 3 := rfl
        have e2 : (2 : Int32).toInt = 2 := rfl
        omega
      rw [if_pos c2, in_f2 c3, if_pos b2i_f]; exact Opp.mk h
    · have c3 : p ≤ 2 := by
        rw [i_nle, i_lt] at c2; rw [i_le]
        have e3 : (3 : Int32).toInt = 3 := rfl
        have e2 : (2 : Int32).toInt = 2 := rfl
        omega
      obtain ⟨k, hk, rfl⟩ := i_nat (n := 2) rfl c1 c3
      rw [if_neg c2, in_t (i_nlt.mp c1) c3, if_neg b2i_t0]
      by_cases c4 : q < 0
      · rw [if_pos c4, in_f1 c4, if_pos b2i_f]; exact Opp.mk h
      · rw [if_neg c4]
        by_cases c5 : q ≤ 127
        · rw [if_pos c5, in_t (i_nlt.mp c4) c5, if_neg b2i_t0, g_in (by omega) (by decide), g_in (by omega) (by decide), x_at_nI (by omega) (by decide), pu_nI (by omega) (by decide), nI_clamp (by omega), bind_some, a1]
          exact Opp.mk ⟨h1, h2, h3, h4, ⟨by show upd (τ 15) k q = upd (σ 19) k q; rw [a1], a2⟩, h6⟩
        · rw [if_neg c5, in_f2 (i_nle.mp c5), if_pos b2i_f]; exact Opp.mk h
theorem o_reversalCount {σ τ : x_M} (h : Sim σ τ) : fX7_reversalCount σ = fX8_reversalCount τ := by
  obtain ⟨h1, h2, h3, h4, h5, ⟨a1, a2, a3, a4, a5, a6, a7⟩⟩ := h
  rw [fX7_reversalCount, fX8_reversalCount, a6]
theorem o_offlineCounter {σ τ : x_M} (h : Sim σ τ) : fX7_offlineCounter σ = fX8_offlineCounter τ := by
  obtain ⟨h1, h2, ⟨a1, a2, a3⟩, h4, h5, h6⟩ := h
  rw [fX7_offlineCounter, fX8_offlineCounter, a2]
theorem o_verificationResults {σ τ : x_M} (h : Sim σ τ) : fX7_verificationResults σ = fX8_verificationResults τ := by
  obtain ⟨h1, h2, h3, h4, h5, ⟨a1, a2, a3⟩⟩ := h
  rw [fX7_verificationResults, fX8_verificationResults, a1, a2]
theorem o_outc (p : Int32) : (fX7_isOutcome p = false ∧ fX8_in p 0 3 = false) ∨ (fX7_isOutcome p = true ∧ fX8_in p 0 3 = true ∧ ∃ k, k ≤ 3 ∧ p = nI k) := by
  rw [fX7_isOutcome, fX8_in]
  by_cases c1 : p < 0
  · rw [if_pos c1]; exact Or.inl ⟨rfl, rfl⟩
  · rw [if_neg c1]
    by_cases c2 : (3 : Int32) < p
    · rw [if_pos c2]; exact Or.inl ⟨rfl, rfl⟩
    · rw [if_neg c2]; exact Or.inr ⟨rfl, rfl, i_nat (n := 3) rfl c1 (i_nlt.mp c2)⟩
theorem o_outcomeCount {σ τ : x_M} (h : Sim σ τ) (p : Int32) : fX8_outcomeCount τ p = some (fX7_outcomeCount σ p) := by
  obtain ⟨h1, h2, h3, h4, h5, ⟨a1, a2, a3, a4, a5, a6, a7, a8, pd, q, b1, b2, b3, b4⟩⟩ := h
  rw [fX7_outcomeCount, fX8_outcomeCount]
  rcases o_outc p with ⟨e1, e2⟩ | ⟨e1, e2, k, hk, rfl⟩
  · rw [e1, e2, if_pos b2i_f, if_pos b2i_f]
  · rw [e1, e2, if_neg b2i_t0, if_neg b2i_t0, x_at_nI (by omega) (by decide), b1]
    by_cases ck : k = 3
    · subst ck
      rw [q_eq (show nI 3 = (3 : Int32) from rfl), b2]
      cases pd <;> rfl
    · rw [show (3 : Int32) = nI 3 from rfl, q_ne ck (by omega) (by decide), g_in (by omega) (by decide), nI_clamp (by omega), a4 k (by omega)]
theorem o_outcomeAmount {σ τ : x_M} (h : Sim σ τ) (p : Int32) : fX8_outcomeAmount τ p = some (fX7_outcomeAmount σ p) := by
  obtain ⟨h1, h2, h3, h4, h5, ⟨a1, a2, a3, a4, a5, a6, a7, a8, pd, q, b1, b2, b3, b4⟩⟩ := h
  rw [fX7_outcomeAmount, fX8_outcomeAmount]
  rcases o_outc p with ⟨e1, e2⟩ | ⟨e1, e2, k, hk, rfl⟩
  · rw [e1, e2, if_pos b2i_f, if_pos b2i_f]
  · rw [e1, e2, if_neg b2i_t0, if_neg b2i_t0, x_at_nI (by omega) (by decide), b1]
    by_cases ck : k = 3
    · subst ck
      rw [q_eq (show nI 3 = (3 : Int32) from rfl), b3, a3]
      cases pd <;> rfl
    · rw [show (3 : Int32) = nI 3 from rfl, q_ne ck (by omega) (by decide), g_in (by omega) (by decide), nI_clamp (by omega), a5 k (by omega)]
theorem o_app {σ τ : x_M} (h : Sim σ τ) (p : Int32) : (fX1_hasApplication σ p = false ∧ fX8_isApplication τ p = false) ∨ (fX1_hasApplication σ p = true ∧ fX8_isApplication τ p = true ∧ ∃ k n, k < n ∧ n ≤ 6 ∧ σ 10 1 = nI n ∧ p = nI k) := by
  obtain ⟨h1, ⟨a1, a2, a3, a4, a5, ⟨n, hn, en⟩, a7⟩, h3, h4, h5, h6⟩ := h
  rw [fX1_hasApplication, fX8_isApplication, fX8_in, a1, en]
  by_cases c1 : p < 0
  · rw [if_pos c1, if_pos c1]; exact Or.inl ⟨rfl, rfl⟩
  · rw [if_neg c1, if_neg c1]
    obtain ⟨k, hk, rfl⟩ := nI_of c1
    rcases Nat.lt_or_ge k n with c2 | c2
    · rw [q_nle c2 (by omega), nI_pred1 (by omega), q_nlt (by omega) (by omega)]
      exact Or.inr ⟨rfl, rfl, k, n, c2, hn, rfl, rfl⟩
    · rw [q_le c2 (by omega)]
      refine Or.inl ⟨rfl, ?_⟩
      cases n with
      | zero => rw [if_pos]; rw [i_lt, nI_toInt hk]; show (-1 : Int) < k; omega
      | succ n => rw [nI_pred, q_lt (by omega) (by omega)]
theorem o_priorityOf {σ τ : x_M} (h : Sim σ τ) (p : Int32) : fX8_priorityOf τ p = some (fX7_priorityOf σ p) := by
  rw [fX7_priorityOf, fX8_priorityOf]
  rcases o_app h p with ⟨e1, e2⟩ | ⟨e1, e2, k, n, hk, hn, en, rfl⟩
  · rw [e1, e2, if_pos b2i_f, if_pos b2i_f]
  · obtain ⟨h1, ⟨a1, a2, a3, a4, a5, a6, a7⟩, h3, h4, h5, h6⟩ := h
    rw [e1, e2, if_neg b2i_t0, if_neg b2i_t0, g_in (by omega) (by decide), nI_clamp (by omega), fX1_priority, x_at_nI (by omega) (by decide), a4 k]
