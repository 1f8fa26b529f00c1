def mT (σ : x_M) (R : Int32) : Option (Int32 × x_M) := (if x_inb ((0 : Int32)) 3 = true then (if x_inb ((0 : Int32)) 3 = true then (if (R &&& (((σ 15) ((0 : Int32)).toNatClampNeg) ||| ((σ 11) ((0 : Int32)).toNatClampNeg))) = 0 then (if (σ 0 25) = 0 then (Option.bind (fX8_byDefault (up2 σ 0 28 R)) fun x1_206 => some (x1_206.1, x1_206.2)) else (if (σ 0 32) = ((3 : Int32)) then (Option.bind (fX8_byDefault (up2 σ 0 28 R)) fun x3_206 => some (x3_206.1, x3_206.2)) else (if x_inb ((1 : Int32)) 3 = true then (if x_inb ((1 : Int32)) 3 = true then (if (R &&& (((σ 15) ((1 : Int32)).toNatClampNeg) ||| ((σ 11) ((1 : Int32)).toNatClampNeg))) = 0 then (Option.bind (fX8_ends (up2 σ 0 28 R) ((1 : Int32))) fun x2_233 => some (x2_233.1, x2_233.2)) else some ((3 : Int32), (up2 (up2 σ 0 28 R) 0 30 ((1 : Int32))))) else none) else none))) else (Option.bind (fX8_ends (up2 σ 0 28 R) ((0 : Int32))) fun x4_186 => some (x4_186.1, x4_186.2))) else none) else none)
theorem bind_eta {α β : Type} (o : Option (α × β)) : (Option.bind o fun x => some (x.1, x.2)) = o := by
  cases o <;> rfl
theorem bind_id {α : Type} (o : Option α) : (Option.bind o fun x => some x) = o := by
  cases o <;> rfl
theorem or_z (a : Int32) : a ||| 0 = a := Int32.or_zero
theorem l159 (τ : x_M) (a b : Int32) : fX8_start_159 τ a b = mT τ (a ||| b) := rfl
theorem l145 {σ τ : x_M} (e : τ 0 32 = σ 24 0) (a b : Int32) : fX8_start_145 τ a b = mT τ (fX7_verify_90 σ (a ||| b)) := by
  rw [fX8_start_145, fX7_verify_90, e]
  by_cases c : σ 24 0 ≤ 0
  · rw [if_pos c, if_pos c, l159, or_z]
  · rw [if_neg c, if_neg c, l159]
theorem l131 {σ τ : x_M} (e : τ 0 32 = σ 24 0) (e2 : τ 0 15 = σ 9 4) (a b : Int32) : fX8_start_131 τ a b = mT τ (fX7_verify_75 σ (a ||| b)) := by
  rw [fX8_start_131, fX7_verify_75, e2]
  by_cases c : σ 9 4 = 0
  · rw [if_pos c, if_pos c, l145 e, or_z]
  · rw [if_neg c, if_neg c, l145 e]
theorem l113 {σ τ : x_M} (e : τ 0 32 = σ 24 0) (e2 : τ 0 15 = σ 9 4) (e3 : τ 0 14 = σ 9 3) (e4 : τ 0 23 = σ 15 4) (a b : Int32) : fX8_start_113 τ a b = mT τ (fX7_verify_53 σ (a ||| b)) := by
  rw [fX8_start_113, fX7_verify_53, e3, e4]
  by_cases c : σ 9 3 < σ 15 4
  · rw [if_pos c, if_pos c, l131 e e2, or_z]
  · rw [if_neg c, if_neg c, l131 e e2]
theorem l96 {σ τ : x_M} (e : τ 0 32 = σ 24 0) (e2 : τ 0 15 = σ 9 4) (e3 : τ 0 14 = σ 9 3) (e4 : τ 0 23 = σ 15 4) (e5 : τ 0 22 = σ 15 3) (a b : Int32) : fX8_start_96 τ a b = mT τ (fX7_verify_32 σ (a ||| b)) := by
  rw [fX8_start_96, fX7_verify_32, e3, e5]
  by_cases c : σ 9 3 < σ 15 3
  · rw [if_pos c, if_pos c, l113 e e2 e3 e4, or_z]
  · rw [if_neg c, if_neg c, l113 e e2 e3 e4]
theorem l83 {σ τ : x_M} (e : τ 0 32 = σ 24 0) (e2 : τ 0 15 = σ 9 4) (e3 : τ 0 14 = σ 9 3) (e4 : τ 0 23 = σ 15 4) (e5 : τ 0 22 = σ 15 3) (e6 : τ 0 24 = σ 15 5) (p a : Int32) : fX8_start_83 τ p a = mT τ (fX7_verify_17 σ p a) := by
  rw [fX8_start_83, fX7_verify_17, e6]
  by_cases c : σ 15 5 ≤ p
  · rw [if_pos c, if_pos c, l96 e e2 e3 e4 e5, or_z]
  · rw [if_neg c, if_neg c, l96 e e2 e3 e4 e5]
theorem pend_of {σ τ : x_M} (h : Sim σ τ) : ∃ pd : Bool, fX6_isPending σ = pd ∧ τ 0 30 = b2i pd ∧ σ 22 3 = b2i pd ∧ σ 23 3 = (if pd = true then σ 21 4 else 0) := by
  obtain ⟨h1, h2, h3, h4, h5, ⟨a1, a2, a3, a4, a5, a6, a7, a8, pd, q, b1, b2, b3, b4⟩⟩ := h
  refine ⟨pd, ?_, b1, b2, b3⟩
  rw [fX6_isPending, show (3 : Int32) = nI 3 from rfl, x_at_nI (by decide) (by decide), b2]
  cases pd <;> rfl
/-- an outcome is booked and counted -/
theorem o_book {σ τ : x_M} (h : Sim σ τ) (hp : τ 0 30 = b2i false) {o : Nat} (ho : o ≤ 2) : ∃ σ' τ' : x_M, (Option.bind (fX6_book σ (nI o) 1 (σ 21 4)) fun x => fX7_countIfOffline x (nI o)) = some σ' ∧ fX8_ends τ (nI o) = some (nI o, τ') ∧ Sim σ' τ' := by
  obtain ⟨h1, h2, ⟨c1, c2, c3, c4⟩, h4, h5, ⟨a1, a2, a3, a4, a5, a6, a7, a8, pd, q, b1, b2, b3, b4, b5, b6⟩⟩ := h
  have hpd : pd = false := by
    rw [hp] at b1
    cases pd
    · rfl
    · exact absurd b1 (by decide)
  subst hpd
  rw [fX6_book, bind_some, x_at_nI (by omega) (by decide), x_at_nI (by omega) (by decide), pu_nI (by omega) (by decide), pu_nI (by omega) (by decide), fX8_ends, g_in (by omega) (by decide), g_in (by omega) (by decide), g_in (by omega) (by decide), g_in (by omega) (by decide), nI_clamp (by omega), fX7_countIfOffline, fX1_countOffline, c2, a3]
  have n3 : 3 ≠ o := by omega
  have hcn : ∀ k, k < 3 → upd (τ 17) o (τ 17 o + 1) k = upd (σ 22) o (σ 22 o + 1) k := by
    intro k hk
    by_cases e : k = o
    · subst e; rw [upd_s, upd_s, a4 k hk]
    · rw [upd_n e, upd_n e, a4 k hk]
  have hsm : ∀ k, k < 3 → upd (τ 18) o (τ 18 o + σ 21 4) k = upd (σ 23) o (σ 23 o + σ 21 4) k := by
    intro k hk
    by_cases e : k = o
    · subst e; rw [upd_s, upd_s, a5 k hk]
    · rw [upd_n e, upd_n e, a5 k hk]
  have h3c : upd (σ 22) o (σ 22 o + 1) 3 = b2i false := by rw [upd_n n3]; exact b2
  have h3s : upd (σ 23) o (σ 23 o + σ 21 4) 3 = (if false = true then σ 21 4 else 0) := by rw [upd_n n3]; exact b3
  have z (x : Int32) : x + 0 = x := Int32.add_zero x
  by_cases e1 : nI o = 1
  · rw [if_pos e1, if_pos e1]
    by_cases e2 : (15 : Int32) ≤ σ 9 3
    · rw [if_pos e2]
      refine ⟨(up2 (up2 σ 22 o (σ 22 o + 1)) 23 o (σ 23 o + σ 21 4)), _, ?_, rfl, h1, h2, ⟨c1, z _, c3, c4⟩, h4, h5, a1, a2, a3, hcn, hsm, a6, a7, a8, false, q, b1, h3c, h3s, b4, b5, b6⟩
      rw [if_pos (show (15 : Int32) ≤ (up2 (up2 σ 22 o (σ 22 o + 1)) 23 o (σ 23 o + σ 21 4)) 9 3 from e2)]; rfl
    · rw [if_neg e2]
      refine ⟨up2 (up2 (up2 σ 22 o (σ 22 o + 1)) 23 o (σ 23 o + σ 21 4)) 9 3 (σ 9 3 + 1), _, ?_, rfl, h1, h2, ⟨c1, rfl, c3, c4⟩, h4, h5, a1, a2, a3, hcn, hsm, a6, a7, a8, false, q, b1, h3c, h3s, b4, b5, b6⟩
      rw [if_neg (show ¬ (15 : Int32) ≤ (up2 (up2 σ 22 o (σ 22 o + 1)) 23 o (σ 23 o + σ 21 4)) 9 3 from e2)]; rfl
  · rw [if_neg e1, if_neg e1]
    exact ⟨_, _, rfl, rfl, h1, h2, ⟨c1, z _, c3, c4⟩, h4, h5, a1, a2, a3, hcn, hsm, a6, a7, a8, false, q, b1, h3c, h3s, b4, b5, b6⟩
theorem hit_eq (σ : x_M) {k : Nat} (hk : k < 3) (R : Int32) : fX7_isHitBy σ (nI k) R = (if (R &&& (σ 19 k ||| σ 13 k)) = 0 then false else true) := by
  rw [fX7_isHitBy, x_at_nI hk (by decide), x_at_nI hk (by decide)]
theorem def_eq {σ τ : x_M} (h : Sim σ τ) : ∃ o, o ≤ 1 ∧ fX7_decideWithoutHost σ (σ 21 3) = nI o ∧ fX8_byDefault τ = fX8_ends τ (nI o) := by
  obtain ⟨h1, h2, ⟨c1, c2⟩, h4, ⟨d1, d2⟩, ⟨a1, a2, a3⟩⟩ := h
  rw [fX7_decideWithoutHost, fX8_byDefault, show (2 : Int32) = nI 2 from rfl, hit_eq σ (by decide), g_in (by decide) (by decide), g_in (by decide) (by decide), nI_clamp (by decide), a2, c1, d1, bind_eta, bind_eta]
  by_cases c : (σ 21 3 &&& (σ 19 2 ||| σ 13 2)) = 0
  · rw [if_pos c, if_pos c, if_pos b2i_f]
    exact ⟨1, by omega, rfl, rfl⟩
  · rw [if_neg c, if_neg c, if_neg b2i_t0]
    exact ⟨0, by omega, rfl, rfl⟩
/-- the decision without the host reads the codes alone -/
theorem dwh_eq (σ : x_M) (R : Int32) : fX7_decideWithoutHost σ R = (if (R &&& (σ 19 2 ||| σ 13 2)) = 0 then 1 else 0) := by
  rw [fX7_decideWithoutHost, show (2 : Int32) = nI 2 from rfl, hit_eq σ (by decide)]
  by_cases c : (R &&& (σ 19 2 ||| σ 13 2)) = 0
  · rw [if_pos c, if_pos c, if_pos b2i_f]
  · rw [if_neg c, if_neg c, if_neg b2i_t0]
set_option maxHeartbeats 4000000 in
theorem o_start {σ τ : x_M} (h : Sim σ τ) (p q : Int32) : Opp (fX7_start σ p q) (fX8_start τ p q) := by
  obtain ⟨pd, e1, e2, e3, e4⟩ := pend_of h
  obtain ⟨h1, h2, ⟨c1, c2, c3, c4⟩, h4, ⟨d1, d2, d3, d4, d5, d6⟩, ⟨a1, a2, a3, a4, a5, a6, a7, ⟨n, hn, en⟩, pd', qn, b1, b2, b3, b4, b5, b6⟩⟩ := id h
  have hpp : pd' = pd := by
    rw [e2] at b1
    cases pd <;> cases pd' <;> first | rfl | exact absurd b1 (by decide)
  subst hpp
  rw [fX7_start, fX8_start, e1, e2, d2]
  by_cases p1 : p < 1
  · rw [if_pos p1, in_f1 p1, if_pos b2i_f]; exact Opp.mk h
  rw [if_neg p1]
  by_cases p2 : (99999 : Int32) < p
  · rw [if_pos p2, in_f2 p2, if_pos b2i_f]; exact Opp.mk h
  rw [if_neg p2, in_t (i_nlt.mp p1) (i_nlt.mp p2), if_neg b2i_t0]
  by_cases p3 : q < 0
  · rw [if_pos p3, in_f1 p3, if_pos b2i_f]; exact Opp.mk h
  rw [if_neg p3]
  by_cases p4 : q ≤ 99
  rotate_left
  · rw [if_neg p4, in_f2 (i_nle.mp p4), if_pos b2i_f]; exact Opp.mk h
  rw [if_pos p4, in_t (i_nlt.mp p3) p4, if_neg b2i_t0]
  rcases c4 with ⟨s1, s2⟩ | ⟨s1, s2⟩
  · rw [if_pos s1, if_pos s2]; exact Opp.mk h
  have n1 : ¬ σ 9 2 = -1 := by
    intro e; rw [e] at s2; exact absurd s2 (by decide)
  have n2 : ¬ σ 9 2 = -4 := by
    intro e; rw [e] at s2; exact absurd s2 (by decide)
  rw [s1, if_neg n1, if_neg n2]
  cases pd'
  rotate_left
  · rw [if_neg b2i_t0, if_neg b2i_t0]; exact Opp.mk h
  rw [if_pos b2i_f, if_pos b2i_f, a1, en]
  rcases Nat.lt_or_ge n 999 with hn2 | hn2
  rotate_left
  · have : n = 999 := by omega
    subst this
    rw [show (999 : Int32) = nI 999 from rfl, q_nlt (Nat.le_refl _) (by decide), q_eq rfl]
    exact Opp.mk h
  rw [show (999 : Int32) = nI 999 from rfl, q_lt hn2 (by decide), q_ne (by omega) (by omega) (by decide), nI_succ1]
  -- the reference computes the results as the class does
  obtain ⟨V, hV⟩ : ∃ V, V = fX7_verify σ p q := ⟨_, rfl⟩
  have hM : (if p < σ 15 2 then fX8_start_83 (up2 (up2 τ 0 27 (nI (n + 1))) 0 29 p) q 0 else fX8_start_83 (up2 (up2 τ 0 27 (nI (n + 1))) 0 29 p) q 1) = mT (up2 (up2 τ 0 27 (nI (n + 1))) 0 29 p) V := by
    rw [hV, fX7_verify]
    by_cases c : p < σ 15 2
    · rw [if_pos c, if_pos c]; exact l83 (σ := σ) (τ := up2 (up2 τ 0 27 (nI (n + 1))) 0 29 p) a6 c3 c2 d4 d3 d5 q 0
    · rw [if_neg c, if_neg c]; exact l83 (σ := σ) (τ := up2 (up2 τ 0 27 (nI (n + 1))) 0 29 p) a6 c3 c2 d4 d3 d5 q 1
  rw [hM, ← hV]
  -- both sides with the transaction opened
  obtain ⟨σ1, hσ1⟩ : ∃ s, s = up2 (up2 (up2 σ 21 2 (nI (n + 1))) 21 4 p) 21 3 V := ⟨_, rfl⟩
  obtain ⟨τ1, hτ1⟩ : ∃ s, s = up2 (up2 (up2 τ 0 27 (nI (n + 1))) 0 29 p) 0 28 V := ⟨_, rfl⟩
  have hS : Sim σ1 τ1 := by
    subst hσ1; subst hτ1
    exact ⟨h1, h2, ⟨c1, c2, c3, Or.inr ⟨s1, s2⟩⟩, h4, ⟨d1, d2, d3, d4, d5, d6⟩, rfl, rfl, rfl, a4, a5, a6, a7, ⟨n + 1, by omega, rfl⟩, false, qn, b1, b2, b3, b4, b5, b6⟩
  have hP : τ1 0 30 = b2i false := by subst hτ1; exact b1
  have hopen : ∀ o, fX6_open σ p V o = fX6_book σ1 o 1 (σ1 21 4) := by
    intro o
    subst hσ1
    rw [fX6_open, en, nI_succ1]
    rw [bind_id]; rfl
  -- an outcome that is booked at once
  have fin : ∀ o, o ≤ 2 → fX7_decide σ V = nI o → mT (up2 (up2 τ 0 27 (nI (n + 1))) 0 29 p) V = fX8_ends τ1 (nI o) → Opp (Option.bind (fX6_open σ p V (fX7_decide σ V)) fun x => Option.bind (fX7_countIfOffline x (fX7_decide σ V)) fun x2 => some (fX7_decide σ V, x2)) (mT (up2 (up2 τ 0 27 (nI (n + 1))) 0 29 p) V) := by
    intro o ho hd hm
    obtain ⟨σ', τ', k1, k2, k3⟩ := o_book hS hP ho
    rw [hd, hm, hopen, k2]
    refine ⟨nI o, σ', τ', ?_, rfl, k3⟩
    have : (Option.bind (fX6_book σ1 (nI o) 1 (σ1 21 4)) fun x => Option.bind (fX7_countIfOffline x (nI o)) fun x2 => some (nI o, x2)) = Option.bind (Option.bind (fX6_book σ1 (nI o) 1 (σ1 21 4)) fun x => fX7_countIfOffline x (nI o)) fun x2 => some (nI o, x2) := by
      cases fX6_book σ1 (nI o) 1 (σ1 21 4) <;> rfl
    rw [this, k1]; rfl
  have hdf : fX8_byDefault τ1 = fX8_ends τ1 (fX7_decideWithoutHost σ V) ∧ ∃ o, o ≤ 2 ∧ fX7_decideWithoutHost σ V = nI o := by
    obtain ⟨o, k1, k2, k3⟩ := def_eq hS
    have k4 : fX7_decideWithoutHost σ1 (σ1 21 3) = fX7_decideWithoutHost σ V := by subst hσ1; rw [dwh_eq, dwh_eq]; rfl
    rw [k4] at k2
    exact ⟨by rw [k3, k2], o, by omega, k2⟩
  have hmT : mT (up2 (up2 τ 0 27 (nI (n + 1))) 0 29 p) V = (if (V &&& (σ 19 0 ||| σ 13 0)) = 0 then (if σ 15 6 = 0 then fX8_byDefault τ1 else if σ 24 0 = 3 then fX8_byDefault τ1 else if (V &&& (σ 19 1 ||| σ 13 1)) = 0 then fX8_ends τ1 1 else some (3, up2 τ1 0 30 1)) else fX8_ends τ1 0) := by
    rw [mT, show (0 : Int32) = nI 0 from rfl, show (1 : Int32) = nI 1 from rfl, g_in (by decide) (by decide), g_in (by decide) (by decide), g_in (by decide) (by decide), g_in (by decide) (by decide), bind_eta, bind_eta, bind_eta, nI_clamp (by decide), nI_clamp (by decide), ← hτ1]
    show (if (V &&& (τ 15 0 ||| τ 11 0)) = 0 then (if τ 0 25 = 0 then _ else if τ 0 32 = 3 then _ else if (V &&& (τ 15 1 ||| τ 11 1)) = 0 then _ else _) else _) = _
    rw [d1, c1, d6, a6]
    rfl
  have hdec : fX7_decide σ V = (if (V &&& (σ 19 0 ||| σ 13 0)) = 0 then (if σ 15 6 = 0 then fX7_decideWithoutHost σ V else if 3 ≤ σ 24 0 then fX7_decideWithoutHost σ V else if (V &&& (σ 19 1 ||| σ 13 1)) = 0 then 1 else 3) else 0) := by
    rw [fX7_decide, show (0 : Int32) = nI 0 from rfl, show (1 : Int32) = nI 1 from rfl, hit_eq σ (by decide), hit_eq σ (by decide)]
    have t0 : ∀ (c : Prop) [Decidable c] (A B : Int32), (if b2i (if c then false else true) = nI 0 then A else B) = (if c then A else B) := by
      intro c _ A B
      by_cases hc : c
      · rw [if_pos hc, if_pos hc]; rfl
      · rw [if_neg hc, if_neg hc]; rfl
    rw [t0, t0]; rfl
  by_cases k0 : (V &&& (σ 19 0 ||| σ 13 0)) = 0
  rotate_left
  · exact fin 0 (by omega) (by rw [hdec, if_neg k0]; rfl) (by rw [hmT, if_neg k0]; rfl)
  by_cases k1 : σ 15 6 = 0
  · obtain ⟨g1, o, g2, g3⟩ := hdf
    exact fin o g2 (by rw [hdec, if_pos k0, if_pos k1, g3]) (by rw [hmT, if_pos k0, if_pos k1, g1, g3])
  by_cases k2 : σ 24 0 = 3
  · obtain ⟨g1, o, g2, g3⟩ := hdf
    exact fin o g2 (by rw [hdec, if_pos k0, if_neg k1, if_pos (by rw [k2]; decide), g3]) (by rw [hmT, if_pos k0, if_neg k1, if_pos k2, g1, g3])
  have q3 : qn < 3 := by
    rcases Nat.lt_or_ge qn 3 with q | q
    · exact q
    · exact absurd (by rw [b4, show qn = 3 from by omega]; rfl) k2
  have k3 : ¬ (3 : Int32) ≤ σ 24 0 := by rw [b4]; exact nI_ge q3 (by decide)
  by_cases k4 : (V &&& (σ 19 1 ||| σ 13 1)) = 0
  · exact fin 1 (by omega) (by rw [hdec, if_pos k0, if_neg k1, if_neg k3, if_pos k4]; rfl) (by rw [hmT, if_pos k0, if_neg k1, if_neg k2, if_pos k4]; rfl)
  · have hd : fX7_decide σ V = nI 3 := by rw [hdec, if_pos k0, if_neg k1, if_neg k3, if_neg k4]; rfl
    rw [hmT, if_pos k0, if_neg k1, if_neg k2, if_neg k4, hd, hopen, fX6_book, bind_some, fX7_countIfOffline, if_neg (by decide), bind_some, x_at_nI (by decide) (by decide), x_at_nI (by decide) (by decide), pu_nI (by decide) (by decide), pu_nI (by decide) (by decide)]
    refine ⟨3, _, _, rfl, rfl, ?_⟩
    subst hσ1; subst hτ1
    refine ⟨h1, h2, ⟨c1, c2, c3, Or.inr ⟨s1, s2⟩⟩, h4, ⟨d1, d2, d3, d4, d5, d6⟩, rfl, rfl, rfl, ?_, ?_, a6, a7, ⟨n + 1, by omega, rfl⟩, true, qn, rfl, ?_, ?_, b4, b5, fun _ => by omega⟩
    · intro k hk
      show τ 17 k = upd (σ 22) 3 _ k
      rw [upd_n (by omega), a4 k hk]
    · intro k hk
      show τ 18 k = upd (σ 23) 3 _ k
      rw [upd_n (by omega), a5 k hk]
    · show upd (σ 22) 3 (σ 22 3 + 1) 3 = 1
      rw [upd_s, b2]; rfl
    · show upd (σ 23) 3 (σ 23 3 + p) 3 = p
      rw [upd_s, b3]; exact Int32.zero_add p
