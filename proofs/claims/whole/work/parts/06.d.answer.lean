theorem book3 {σ : x_M} (e1 : σ 22 3 = 1) (e2 : σ 23 3 = σ 21 4) : fX6_book σ 3 (-1) (-(σ 21 4)) = some (up2 (up2 σ 22 3 0) 23 3 0) := by
  rw [fX6_book, show (3 : Int32) = nI 3 from rfl, x_at_nI (by decide) (by decide), x_at_nI (by decide) (by decide), pu_nI (by decide) (by decide), pu_nI (by decide) (by decide), e1, e2, show (1 : Int32) + -1 = 0 from rfl, Int32.add_right_neg]
theorem o_a90 {σ τ : x_M} (e1 : σ 22 3 = 1) (e2 : σ 23 3 = σ 21 4) (h : Sim (up2 (up2 σ 22 3 0) 23 3 0) τ) (hp : τ 0 30 = b2i false) {o : Nat} (ho : o ≤ 2) : Opp (fX7_answer_90 σ (nI o)) (fX8_ends τ (nI o)) := by
  obtain ⟨σ', τ', k1, k2, k3⟩ := o_book h hp ho
  rw [fX7_answer_90, fX6_settle, book3 e1 e2, bind_some, bind_id, k2]
  refine ⟨nI o, σ', τ', ?_, rfl, k3⟩
  have : ∀ y : Option x_M, (Option.bind y fun x => Option.bind (fX7_countIfOffline x (nI o)) fun x2 => some (nI o, x2)) = Option.bind (Option.bind y fun x => fX7_countIfOffline x (nI o)) fun x2 => some (nI o, x2) := by
    intro y; cases y <;> rfl
  rw [this, k1]; rfl
set_option maxHeartbeats 4000000 in
theorem o_answer {σ τ : x_M} (h : Sim σ τ) (p : Int32) : Opp (fX7_answer σ p) (fX8_answer τ p) := by
  obtain ⟨pd, e1, e2, e3, e4⟩ := pend_of h
  obtain ⟨h1, h2, ⟨c1, c2, c3, c4⟩, h4, h5, ⟨a1, a2, a3, a4, a5, a6, a7, a8, pd', qn, b1, b2, b3, b4, b5, b6⟩⟩ := id h
  have hpp : pd' = pd := by
    rw [e2] at b1
    cases pd <;> cases pd' <;> first | rfl | exact absurd b1 (by decide)
  subst hpp
  rw [fX7_answer, fX8_answer, e1, e2]
  by_cases p1 : p < 0
  · rw [if_pos p1, in_f1 p1, if_pos b2i_f]; exact Opp.mk h
  rw [if_neg p1]
  by_cases p2 : p ≤ 2
  rotate_left
  · rw [if_neg p2, in_f2 (i_nle.mp p2), if_pos b2i_f]; exact Opp.mk h
  rw [if_pos p2, in_t (i_nlt.mp p1) p2, if_neg b2i_t0]
  cases pd'
  · rw [if_pos b2i_f, if_pos b2i_f]; exact Opp.mk h
  rw [if_neg b2i_t0, if_neg b2i_t0]
  have z4 : ∀ k, k < 3 → τ 17 k = upd (σ 22) 3 0 k := fun k hk => by rw [upd_n (by omega), a4 k hk]
  have z5 : ∀ k, k < 3 → τ 18 k = upd (σ 23) 3 0 k := fun k hk => by rw [upd_n (by omega), a5 k hk]
  have z6 : upd (σ 22) 3 0 3 = b2i false := upd_s
  have z7 : upd (σ 23) 3 0 3 = (if false = true then σ 21 4 else 0) := upd_s
  obtain ⟨k, hk, rfl⟩ := i_nat (n := 2) rfl p1 p2
  rcases (show k = 0 ∨ k = 1 ∨ k = 2 by omega) with rfl | rfl | rfl
  · rw [if_neg (show ¬ nI 0 = 1 by decide), if_neg (show ¬ nI 0 = 2 by decide), if_pos (show nI 0 = 0 from rfl), bind_eta]
    exact o_a90 (σ := σ) (τ := up2 τ 0 30 0) (o := 0) e3 e4 ⟨h1, h2, ⟨c1, c2, c3, c4⟩, h4, h5, a1, a2, a3, z4, z5, a6, a7, a8, false, qn, rfl, z6, z7, b4, b5, fun z => by cases z⟩ rfl (by omega)
  · rw [if_pos (show nI 1 = 1 from rfl), if_neg (show ¬ nI 1 = 0 by decide), if_pos (show nI 1 = 1 from rfl), fX1_passOnline, bind_some, bind_eta]
    exact o_a90 (σ := up2 (up2 σ 9 3 0) 9 4 0) (τ := up2 (up2 (up2 τ 0 30 0) 0 14 0) 0 15 0) (o := 2) e3 e4 ⟨h1, h2, ⟨c1, rfl, rfl, c4⟩, h4, h5, a1, a2, a3, z4, z5, a6, a7, a8, false, qn, rfl, z6, z7, b4, b5, fun z => by cases z⟩ rfl (by omega)
  · have q2 : qn ≤ 2 := b6 rfl
    rw [if_neg (show ¬ nI 2 = 1 by decide), if_pos (show nI 2 = 2 from rfl), if_neg (show ¬ nI 2 = 0 by decide), if_neg (show ¬ nI 2 = 1 by decide), a6, b4, g_in (by omega) (by decide), nI_clamp (by omega), bind_eta, fX4_add]
    rw [show up2 σ 21 3 (σ 21 3 ||| 64) 24 0 = nI qn from b4, show (3 : Int32) = nI 3 from rfl, q_nle (by omega) (by decide), bind_some, pu_nI (by omega) (by decide), nI_succ1, a1, a2]
    obtain ⟨σ1, hσ1⟩ : ∃ s, s = up2 (up2 (up2 σ 21 3 (σ 21 3 ||| 64)) 25 qn (σ 21 2 - 1)) 24 0 (nI (qn + 1)) := ⟨_, rfl⟩
    obtain ⟨τ1, hτ1⟩ : ∃ s, s = up2 (up2 (up2 (up2 τ 0 30 0) 0 28 (σ 21 3 ||| 64)) 16 qn (σ 21 2 - 1)) 0 32 (nI (qn + 1)) := ⟨_, rfl⟩
    rw [← hσ1, ← hτ1]
    have hS : Sim (up2 (up2 σ1 22 3 0) 23 3 0) τ1 := by
      subst hσ1; subst hτ1
      exact ⟨h1, h2, ⟨c1, c2, c3, c4⟩, h4, h5, a1, rfl, a3, z4, z5, rfl, by show upd (τ 16) qn (σ 21 2 - 1) = upd (σ 25) qn (σ 21 2 - 1); rw [a7], a8, false, qn + 1, rfl, z6, z7, rfl, by omega, fun z => by cases z⟩
    obtain ⟨o, k1, k2, k3⟩ := def_eq hS
    have k4 : fX7_decideWithoutHost (up2 (up2 σ1 22 3 0) 23 3 0) (up2 (up2 σ1 22 3 0) 23 3 0 21 3) = fX7_decideWithoutHost σ1 (σ1 21 3) := by rw [dwh_eq, dwh_eq]; rfl
    rw [k3, ← k4, k2]
    exact o_a90 (σ := σ1) (by subst hσ1; exact e3) (by subst hσ1; exact e4) hS (by subst hτ1; rfl) (by omega)
theorem xf3 : x_fuel = 397 + 1 + 1 + 1 := rfl
set_option maxHeartbeats 4000000 in
theorem o_sendReversal {σ τ : x_M} (h : Sim σ τ) (p : Bool) : Opp (fX7_sendReversal σ p) (fX8_sendReversal τ p) := by
  obtain ⟨h1, h2, h3, h4, h5, ⟨a1, a2, a3, a4, a5, a6, a7, a8, pd, qn, b1, b2, b3, b4, b5, b6⟩⟩ := id h
  rw [fX7_sendReversal, fX8_sendReversal, a6, b4]
  by_cases q0 : qn = 0
  · subst q0
    rw [if_pos (show nI 0 = 0 from rfl), if_pos (show nI 0 = 0 from rfl)]; exact Opp.mk h
  rw [show (0 : Int32) = nI 0 from rfl, q_ne q0 (by omega) (by decide), q_ne q0 (by omega) (by decide), g_in (by decide) (by decide), fX4_first, show (0 : Int32) = nI 0 from rfl, x_at_nI (by decide) (by decide), nI_clamp (by decide), a7]
  cases p
  · rw [if_pos (show b2i false = nI 0 from rfl), if_pos (show b2i false = nI 0 from rfl)]; exact Opp.mk h
  rw [if_neg (show ¬ b2i true = nI 0 by decide), if_neg (show ¬ b2i true = nI 0 by decide), fX4_dropFirst, b4, show (0 : Int32) = nI 0 from rfl, q_ne q0 (by omega) (by decide), xf3]
  have fin : ∀ (σ' τ' : x_M) (r : Int32) (n : Nat), (∀ k, k ≠ 24 → k ≠ 25 → σ' k = σ k) → (∀ k, k ≠ 0 → k ≠ 16 → τ' k = τ k) → (∀ j, j ≠ 32 → τ' 0 j = τ 0 j) → σ' 24 0 = nI n → τ' 0 32 = nI n → n < qn → τ' 16 = σ' 25 → Opp (Option.bind (some σ') fun x => some (r, x)) (some (r, τ')) := by
    intro σ' τ' r n f1 f2 f3 g1 g2 g3 g4
    refine ⟨r, σ', τ', rfl, rfl, ?_⟩
    rw [Sim, f1 1 (by decide) (by decide), f1 2 (by decide) (by decide), f1 10 (by decide) (by decide), f1 11 (by decide) (by decide), f1 12 (by decide) (by decide), f1 14 (by decide) (by decide), f1 13 (by decide) (by decide), f1 9 (by decide) (by decide), f1 16 (by decide) (by decide), f1 17 (by decide) (by decide), f1 18 (by decide) (by decide), f1 20 (by decide) (by decide), f1 19 (by decide) (by decide), f1 15 (by decide) (by decide), f1 21 (by decide) (by decide), f1 22 (by decide) (by decide), f1 23 (by decide) (by decide), f2 1 (by decide) (by decide), f2 8 (by decide) (by decide), f2 7 (by decide) (by decide), f2 9 (by decide) (by decide), f2 10 (by decide) (by decide), f2 11 (by decide) (by decide), f2 13 (by decide) (by decide), f2 12 (by decide) (by decide), f2 14 (by decide) (by decide), f2 15 (by decide) (by decide), f2 17 (by decide) (by decide), f2 18 (by decide) (by decide), f3 0 (by decide), f3 8 (by decide), f3 26 (by decide), f3 14 (by decide), f3 15 (by decide), f3 16 (by decide), f3 21 (by decide), f3 22 (by decide), f3 23 (by decide), f3 24 (by decide), f3 25 (by decide), f3 27 (by decide), f3 28 (by decide), f3 29 (by decide), f3 30 (by decide), g1, g2, g4]
    exact ⟨h1, h2, h3, h4, h5, a1, a2, a3, a4, a5, rfl, rfl, a8, pd, n, b1, b2, b3, rfl, by omega, fun e => by have := b6 e; omega⟩
  rcases (show qn = 1 ∨ qn = 2 ∨ qn = 3 by omega) with rfl | rfl | rfl
  · rw [fX4_dropFirst_10, fX8_sendReversal_33, b4, nI_pred1 (by decide), q_le (by decide) (by decide), show up2 τ 0 32 (nI (1 - 1)) 0 32 = nI 0 from rfl, q_le (by decide) (by decide)]
    exact fin _ _ _ 0 (fun k k1 k2 => by rw [up_n k1]) (fun k k1 k2 => by rw [up_n k1]) (fun j hj => by rw [up_s, upd_n hj]) rfl rfl (by decide) a7
  · have t0 : ∀ s : x_M, s 24 0 = nI 2 → fX4_dropFirst_10 (397 + 1 + 1 + 1) s (nI 0) = some (up2 (up2 s 25 0 (s 25 1)) 24 0 (nI 1)) := by
      intro s hs
      rw [fX4_dropFirst_10, hs, nI_pred1 (by decide), q_nle (by decide) (by decide), nI_succ1, x_at_nI (by decide) (by decide), pu_nI (by decide) (by decide), fX4_dropFirst_10, show up2 s 25 0 (s 25 (0 + 1)) 24 0 = nI 2 from hs, nI_pred1 (by decide), q_le (by decide) (by decide)]
    have t1 : ∀ (s : x_M) (r : Int32), s 0 32 = nI 1 → fX8_sendReversal_33 (397 + 1 + 1 + 1) s r (nI 0) = some (r, up2 s 16 0 (s 16 1)) := by
      intro s r hs
      rw [fX8_sendReversal_33, hs, q_nle (by decide) (by decide), nI_succ1, g_in (by decide) (by decide), g_in (by decide) (by decide), nI_clamp (by decide), nI_clamp (by decide), fX8_sendReversal_33, show up2 s 16 0 (s 16 (0 + 1)) 0 32 = nI 1 from hs, q_le (by decide) (by decide)]
    rw [t0 σ b4, nI_pred1 (by decide), t1 _ _ rfl]
    refine fin _ _ _ 1 (fun k k1 k2 => by rw [up_n k1, up_n k2]) (fun k k1 k2 => by rw [up_n k2, up_n k1]) (fun j hj => by rw [up_n (by decide), up_s, upd_n hj]) rfl rfl (by decide) ?_
    show upd (τ 16) 0 (τ 16 1) = upd (σ 25) 0 (σ 25 1)
    rw [a7]
  · have t0 : ∀ s : x_M, s 24 0 = nI 3 → fX4_dropFirst_10 (397 + 1 + 1 + 1) s (nI 0) = some (up2 (up2 (up2 s 25 0 (s 25 1)) 25 1 (s 25 2)) 24 0 (nI 2)) := by
      intro s hs
      rw [fX4_dropFirst_10, hs, nI_pred1 (by decide), q_nle (by decide) (by decide), nI_succ1, x_at_nI (by decide) (by decide), pu_nI (by decide) (by decide), fX4_dropFirst_10, show up2 s 25 0 (s 25 (0 + 1)) 24 0 = nI 3 from hs, nI_pred1 (by decide), q_nle (by decide) (by decide), nI_succ1, x_at_nI (by decide) (by decide), pu_nI (by decide) (by decide), fX4_dropFirst_10]
      rw [show up2 (up2 s 25 0 (s 25 (0 + 1))) 25 (0 + 1) (up2 s 25 0 (s 25 (0 + 1)) 25 (0 + 1 + 1)) 24 0 = nI 3 from hs, nI_pred1 (by decide), q_le (by decide) (by decide)]
      rfl
    have t1 : ∀ (s : x_M) (r : Int32), s 0 32 = nI 2 → fX8_sendReversal_33 (397 + 1 + 1 + 1) s r (nI 0) = some (r, up2 (up2 s 16 0 (s 16 1)) 16 1 (s 16 2)) := by
      intro s r hs
      rw [fX8_sendReversal_33, hs, q_nle (by decide) (by decide), nI_succ1, g_in (by decide) (by decide), g_in (by decide) (by decide), nI_clamp (by decide), nI_clamp (by decide), fX8_sendReversal_33, show up2 s 16 0 (s 16 (0 + 1)) 0 32 = nI 2 from hs, q_nle (by decide) (by decide), nI_succ1, g_in (by decide) (by decide), g_in (by decide) (by decide), nI_clamp (by decide), nI_clamp (by decide), fX8_sendReversal_33]
      rw [show up2 (up2 s 16 0 (s 16 (0 + 1))) 16 (0 + 1) (up2 s 16 0 (s 16 (0 + 1)) 16 (0 + 1 + 1)) 0 32 = nI 2 from hs, q_le (by decide) (by decide)]
      rfl
    rw [t0 σ b4, nI_pred1 (by decide), t1 _ _ rfl]
    refine fin _ _ _ 2 (fun k k1 k2 => by rw [up_n k1, up_n k2, up_n k2]) (fun k k1 k2 => by rw [up_n k2, up_n k2, up_n k1]) (fun j hj => by rw [up_n (by decide), up_n (by decide), up_s, upd_n hj]) rfl rfl (by decide) ?_
    show upd (upd (τ 16) 0 (τ 16 1)) 1 (τ 16 2) = upd (upd (σ 25) 0 (σ 25 1)) 1 (σ 25 2)
    rw [a7]
