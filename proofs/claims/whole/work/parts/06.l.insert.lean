theorem cnt_mono (P : Nat → Bool) : ∀ {a b : Nat}, a ≤ b → cnt P a ≤ cnt P b := by
  intro a b h
  obtain ⟨d, rfl⟩ : ∃ d, b = a + d := ⟨b - a, by omega⟩
  clear h
  induction d with
  | zero => exact Nat.le_refl _
  | succ d ih => exact Nat.le_trans ih (Nat.le_add_right _ _)
theorem add10_loop : ∀ (n : Nat) (σ : x_M) (off L i c : Nat), i ≤ L → L - i < n → L ≤ 16 → off + L ≤ 120 → c < 6 → σ 10 1 = nI c → fX3_add_10_19 n σ (nI off) (nI L) (nI i) = some (up2 (up2 (x_st σ 12 (r_cp (σ 12) (c * 16 + i) (c * 16 + L) (σ 2) (c * 16) off)) 11 c (nI L)) 10 1 (nI (c + 1))) := by
  intro n
  induction n with
  | zero => intro σ off L i c h1 h2; omega
  | succ n ih =>
    intro σ off L i c h1 h2 h3 h4 h5 h6
    rw [fX3_add_10_19]
    rcases Nat.lt_or_ge i L with h | h
    · rw [q_nle h (by omega), h6, show (16 : Int32) = nI 16 from rfl, pk_mul, nI_add, nI_add, x_at_nI (by omega) (by decide), pu_nI (by omega) (by decide), nI_succ1]
      rw [ih (up2 σ 12 (c * 16 + i) (σ 2 (off + i))) off L (i + 1) c h (by omega) h3 h4 h5 h6]
      show some (up2 (up2 (x_st (up2 σ 12 (c * 16 + i) (σ 2 (off + i))) 12 (r_cp (upd (σ 12) (c * 16 + i) (σ 2 (off + i))) (c * 16 + (i + 1)) (c * 16 + L) (σ 2) (c * 16) off)) 11 c (nI L)) 10 1 (nI (c + 1))) = _
      have e : off + i = off + (c * 16 + i - c * 16) := by omega
      rw [e, ← Nat.add_assoc, r_cps (by omega), up_st (k := 12), st_st]
    · have e : i = L := by omega
      subst e
      rw [q_le (Nat.le_refl _) (by omega), h6, pu_nI (by omega) (by decide), nI_succ1, r_cp0 (Nat.le_refl _), st_id]
theorem m121_loop : ∀ (n : Nat) (K : x_M → Int32 → Option (Int32 × x_M)) (τ : x_M) (o q off L i a b : Nat), i ≤ L → L - i < n → L ≤ 16 → off + L ≤ 120 → a < 6 → q < 24 → τ 0 8 = nI a → τ 4 q = nI L → τ 5 q = nI off → (∀ g : Nat → Int32, fX8_priorityByte (up2 (x_st τ 7 g) 8 a (nI L)) (nI o) = some (nI b)) → fX8_insertCard_121 K n τ (nI o) (nI q) (nI i) = K (up2 (up2 (up2 (up2 (x_st τ 7 (r_cp (τ 7) (a * 16 + i) (a * 16 + L) (τ 1) (a * 16) off)) 8 a (nI L)) 9 a (nI b &&& 15)) 10 a (nI b >>> (7 &&& 31))) 0 8 (nI (a + 1))) (nI (o + 1)) := by
  intro n
  induction n with
  | zero => intro K τ o q off L i a b h1 h2; omega
  | succ n ih =>
    intro K τ o q off L i a b h1 h2 h3 h4 h5 h6 h7 h8 h9 h10
    have hi1 : x_inb (nI q) 24 = true := x_inb_nI (by omega) (by decide)
    have hi2 : x_inb (nI a) 6 = true := x_inb_nI (by omega) (by decide)
    rw [fX8_insertCard_121, h7]
    simp only [hi1, hi2, if_true]
    rw [nI_clamp (by omega), h8, h9, nI_succ1, nI_succ1]
    rcases Nat.lt_or_ge i L with h | h
    · rw [q_nle h (by omega), show (16 : Int32) = nI 16 from rfl, pk_mul, nI_add, nI_add, g_in (by omega) (by decide), g_in (by omega) (by decide), nI_clamp (by omega), nI_clamp (by omega), nI_succ1]
      rw [ih K (up2 τ 7 (16 * a + i) (τ 1 (off + i))) o q off L (i + 1) a b h (by omega) h3 h4 h5 h6 h7 h8 h9 (fun g => by rw [up_st (k := 7), st_st]; exact h10 g)]
      show K (up2 (up2 (up2 (up2 (x_st (up2 τ 7 (16 * a + i) (τ 1 (off + i))) 7 (r_cp (upd (τ 7) (16 * a + i) (τ 1 (off + i))) (a * 16 + (i + 1)) (a * 16 + L) (τ 1) (a * 16) off)) 8 a (nI L)) 9 a (nI b &&& 15)) 10 a (nI b >>> (7 &&& 31))) 0 8 (nI (a + 1))) (nI (o + 1)) = _
      have e : off + i = off + (a * 16 + i - a * 16) := by omega
      rw [e, show 16 * a + i = a * 16 + i by omega, ← Nat.add_assoc, r_cps (by omega), up_st (k := 7), st_st]
    · have e : i = L := by omega
      subst e
      have hp := h10 (τ 7)
      rw [st_id] at hp
      rw [q_le (Nat.le_refl _) (by omega), nI_clamp (by omega), hp, bind_some, r_cp0 (Nat.le_refl _), st_id]
/-- the card's applications, alike so far -/
def FXc (σ σ0 : x_M) : Prop := ∀ k, k ≠ 10 → k ≠ 11 → k ≠ 12 → k ≠ 14 → σ k = σ0 k
def FMc (τ τ0 : x_M) : Prop := (∀ k, k ≠ 0 → k ≠ 7 → k ≠ 8 → k ≠ 9 → k ≠ 10 → τ k = τ0 k) ∧ ∀ j, j ≠ 8 → τ 0 j = τ0 0 j
theorem PS_fr {σ τ σ' τ' : x_M} {len c : Nat} {tg ln dp vs pr : Nat → Nat} (h : PS σ τ len c tg ln dp vs pr) (hX : FXc σ' σ) (hM : FMc τ' τ) : PS σ' τ' len c tg ln dp vs pr := by
  intro k hk
  obtain ⟨m1, m2⟩ := hM
  rw [hX 4 (by decide) (by decide) (by decide) (by decide), hX 5 (by decide) (by decide) (by decide) (by decide), hX 6 (by decide) (by decide) (by decide) (by decide), hX 7 (by decide) (by decide) (by decide) (by decide), hX 8 (by decide) (by decide) (by decide) (by decide), m1 2 (by decide) (by decide) (by decide) (by decide) (by decide), m1 3 (by decide) (by decide) (by decide) (by decide) (by decide), m1 4 (by decide) (by decide) (by decide) (by decide) (by decide), m1 5 (by decide) (by decide) (by decide) (by decide) (by decide)]
  exact h k hk
set_option maxHeartbeats 4000000 in
theorem app_loop {tg ln dp vs pr by' I Bb : Nat → Nat} {len c : Nat} (hc : c ≤ 24) (hlen : len ≤ 120) (hI : ∀ o, o < c → (I o = 0 ∨ ∃ q, I o = q + 1 ∧ q < c ∧ 5 ≤ ln q ∧ ln q ≤ 16) ∧ ∀ σ τ : x_M, PS σ τ len c tg ln dp vs pr → σ 3 5 = nI c → τ 0 2 = nI c → fX2_identifierIn σ (nI o) = some (pI (I o)) ∧ (tg o ≠ 97 → I o = 0) ∧ (tg o = 97 → fX8_nameOf τ (nI o) = some (if I o = 0 then -4 else nI (I o - 1)))) (hB : ∀ o, Bb o < 256 ∧ (o < c → ∀ σ τ : x_M, PS σ τ len c tg ln dp vs pr → σ 3 5 = nI c → τ 0 2 = nI c → (∀ k, σ 2 k = nI (by' k)) → τ 1 = σ 2 → fX1_indicatorIn σ (nI o) = some (nI (Bb o)) ∧ fX8_priorityByte τ (nI o) = some (nI (Bb o)))) (htot : cnt (fun o => decide (I o ≠ 0)) c ≤ 6) {σ0 τ0 : x_M} (hP0 : PS σ0 τ0 len c tg ln dp vs pr) (h35 : σ0 3 5 = nI c) (h02 : τ0 0 2 = nI c) (hby : ∀ k, σ0 2 k = nI (by' k)) (hτ1 : τ0 1 = σ0 2) : ∀ (N M : Nat) (σ τ : x_M) (o : Nat), o ≤ c → c - o < N → c - o < M → FXc σ σ0 → FMc τ τ0 → σ 10 1 = nI (cnt (fun o => decide (I o ≠ 0)) o) → S2 (σ 10 1) (σ 11) (σ 12) (σ 14) (τ 0 8) (τ 8) (τ 7) (τ 9) (τ 10) → ∃ σ' τ' : x_M, fX1_readApplications_2 N σ (nI o) = some σ' ∧ fX8_insertCard_82 M τ (nI o) = fX8_insertCard_235 x_fuel τ' 0 ∧ FXc σ' σ0 ∧ FMc τ' τ0 ∧ S2 (σ' 10 1) (σ' 11) (σ' 12) (σ' 14) (τ' 0 8) (τ' 8) (τ' 7) (τ' 9) (τ' 10) := by
  intro N
  induction N with
  | zero => intro M σ τ o h1 h2; omega
  | succ N ih =>
    intro M σ τ o h1 h2 h3 hX hM hcn hS
    obtain ⟨M, rfl⟩ : ∃ M', M = M' + 1 := ⟨M - 1, by omega⟩
    have e35 : σ 3 5 = nI c := by rw [hX 3 (by decide) (by decide) (by decide) (by decide)]; exact h35
    have e02 : τ 0 2 = nI c := by rw [hM.2 2 (by decide)]; exact h02
    rw [fX1_readApplications_2, fX8_insertCard_82, e35, e02]
    rcases Nat.lt_or_ge o c with h | h
    rotate_left
    · rw [q_le h (by omega), q_le h (by omega)]
      exact ⟨σ, τ, rfl, rfl, hX, hM, hS⟩
    have hP : PS σ τ len c tg ln dp vs pr := PS_fr hP0 hX hM
    have ht : τ 2 o = nI (tg o) ∧ tg o < 65536 := ⟨(hP o h).1.2.1, (hP o h).2.1⟩
    obtain ⟨i1, i2⟩ := hI o h
    obtain ⟨j1, j2, j3⟩ := i2 σ τ hP e35 e02
    have hs : cnt (fun o => decide (I o ≠ 0)) (o + 1) = cnt (fun o => decide (I o ≠ 0)) o + (if decide (I o ≠ 0) = true then 1 else 0) := rfl
    have hle := cnt_mono (fun o => decide (I o ≠ 0)) (show o + 1 ≤ c from h)
    rw [q_nle h (by omega), q_nle h (by omega), g_in (by omega) (by decide), nI_clamp (by omega), ht.1, j1, bind_some, nI_succ1, show (97 : Int32) = nI 97 from rfl]
    have hM2 : (if nI (tg o) = nI 97 then (Option.bind (fX8_nameOf τ (nI o)) fun x => fX8_insertCard_111 (fX8_insertCard_82 M) τ (nI o) x) else fX8_insertCard_111 (fX8_insertCard_82 M) τ (nI o) (-4)) = fX8_insertCard_111 (fX8_insertCard_82 M) τ (nI o) (if I o = 0 then -4 else nI (I o - 1)) := by
      by_cases t : tg o = 97
      · rw [q_eq (by rw [t]), j3 t, bind_some]
      · rw [q_ne t (by omega) (by decide), j2 t, if_pos rfl]
    rw [hM2, fX8_insertCard_111, nI_succ1]
    rcases i1 with z | ⟨q, z, hq, hl1, hl2⟩
    · rw [z, if_pos rfl, if_pos (show pI 0 = -1 from rfl), if_pos rfl]
      rw [z, if_neg (by decide)] at hs
      exact ih M σ τ (o + 1) h (by omega) (by omega) hX hM (by rw [hs]; exact hcn) hS
    · obtain ⟨⟨p1, p2, p3, p4, p5, p6, p7, p8, p9⟩, r1, r2, r3, r4, -⟩ := hP q hq
      have hz : (if I o = 0 then (-4 : Int32) else nI (I o - 1)) = nI q := by rw [z, if_neg (by omega), Nat.add_sub_cancel]
      rw [hz, z, pI_s, if_neg (nI_nm (by omega) (by decide)), if_neg (nI_nm (by omega) (by decide))]
      rw [z, if_pos (by simp)] at hs
      obtain ⟨a, ha⟩ : ∃ a, a = cnt (fun o => decide (I o ≠ 0)) o := ⟨_, rfl⟩
      rw [← ha] at hs hcn
      have ha6 : a < 6 := by omega
      have e2 : σ 2 = σ0 2 := hX 2 (by decide) (by decide) (by decide) (by decide)
      have e1 : τ 1 = τ0 1 := hM.1 1 (by decide) (by decide) (by decide) (by decide) (by decide)
      have hb2 : ∀ k, σ 2 k = nI (by' k) := by rw [e2]; exact hby
      have ht1 : τ 1 = σ 2 := by rw [e1, e2]; exact hτ1
      obtain ⟨b1, b2⟩ := hB o
      have b3 := (b2 h σ τ hP e35 e02 hb2 ht1).1
      obtain ⟨s1, s2, s3, s4, s5, s6, s7⟩ := id hS
      have hX2 : fX3_add_10 (up2 σ 14 a (nI (Bb o))) (nI (vs q)) (nI (ln q)) = some (up2 (up2 (x_st (up2 σ 14 a (nI (Bb o))) 12 (r_cp (σ 12) (a * 16 + 0) (a * 16 + ln q) (σ 2) (a * 16) (vs q))) 11 a (nI (ln q))) 10 1 (nI (a + 1))) := by
        rw [fX3_add_10, show up2 σ 14 a (nI (Bb o)) 10 1 = nI a from hcn, show (6 : Int32) = nI 6 from rfl, q_nle ha6 (by decide), show (16 : Int32) = nI 16 from rfl, q_le hl2 (by decide), show (0 : Int32) = nI 0 from rfl, add10_loop x_fuel (up2 σ 14 a (nI (Bb o))) (vs q) (ln q) 0 a (Nat.zero_le _) (by rw [xf3]; omega) hl2 (by omega) ha6 hcn]
        rfl
      have hM3 : fX8_insertCard_121 (fX8_insertCard_82 M) x_fuel τ (nI o) (nI q) 0 = fX8_insertCard_82 M (up2 (up2 (up2 (up2 (x_st τ 7 (r_cp (τ 7) (a * 16 + 0) (a * 16 + ln q) (τ 1) (a * 16) (vs q))) 8 a (nI (ln q))) 9 a (nI (Bb o) &&& 15)) 10 a (nI (Bb o) >>> (7 &&& 31))) 0 8 (nI (a + 1))) (nI (o + 1)) := by
        rw [show (0 : Int32) = nI 0 from rfl]
        refine m121_loop x_fuel (fX8_insertCard_82 M) τ o q (vs q) (ln q) 0 a (Bb o) (Nat.zero_le _) (by rw [xf3]; omega) hl2 (by omega) ha6 (by omega) (by rw [s1, hcn]) p4 p8 (fun g => ?_)
        exact (b2 h σ (up2 (x_st τ 7 g) 8 a (nI (ln q))) hP e35 e02 hb2 ht1).2
      rw [b3, bind_some, hcn, pu_nI ha6 (by decide), x_at_nI (by omega) (by decide), x_at_nI (by omega) (by decide), p7, p3, hX2, bind_some, hM3]
      refine ih M _ _ (o + 1) h (by omega) (by omega) (fun k k1 k2 k3 k4 => ?_) ⟨fun k k1 k2 k3 k4 k5 => ?_, fun j hj => ?_⟩ (by rw [hs]; rfl) ⟨rfl, ?_, ?_, fun k => ?_, fun k => ?_, ⟨a + 1, by omega, rfl⟩, fun k => ?_⟩
      · rw [up_n k1, up_n k2, st_n k3, up_n k4]; exact hX k k1 k2 k3 k4
      · rw [up_n k1, up_n k5, up_n k4, up_n k3, st_n k2]; exact hM.1 k k1 k2 k3 k4 k5
      · rw [up_s, upd_n hj]; exact hM.2 j hj
      · show upd (τ 8) a (nI (ln q)) = upd (σ 11) a (nI (ln q)); rw [s2]
      · show r_cp (τ 7) _ _ (τ 1) _ _ = r_cp (σ 12) _ _ (σ 2) _ _; rw [s3, ht1]
      · show upd (τ 9) a (nI (Bb o) &&& 15) k = upd (σ 14) a (nI (Bb o)) k &&& 15
        by_cases e : k = a
        · subst e; rw [upd_s, upd_s]
        · rw [upd_n e, upd_n e]; exact s4 k
      · show upd (τ 10) a (nI (Bb o) >>> (7 &&& 31)) k = upd (σ 14) a (nI (Bb o)) k >>> (7 &&& 31)
        by_cases e : k = a
        · subst e; rw [upd_s, upd_s]
        · rw [upd_n e, upd_n e]; exact s5 k
      · show ∃ b, b < 256 ∧ upd (σ 14) a (nI (Bb o)) k = nI b
        by_cases e : k = a
        · subst e; exact ⟨Bb o, b1, upd_s⟩
        · rw [upd_n e]; exact s7 k
theorem acX_loop {I : Nat → Nat} {c : Nat} (hc : c ≤ 24) {σ : x_M} (h35 : σ 3 5 = nI c) (hI : ∀ o, o < c → fX2_identifierIn σ (nI o) = some (pI (I o)) ∧ I o ≤ 24) : ∀ (N o : Nat), o ≤ c → c - o < N → fX2_applicationCount_4 σ N (nI (cnt (fun o => decide (I o ≠ 0)) o)) (nI o) = some (nI (cnt (fun o => decide (I o ≠ 0)) c)) := by
  intro N
  induction N with
  | zero => intro o h1 h2; omega
  | succ N ih =>
    intro o h1 h2
    rw [fX2_applicationCount_4, h35]
    rcases Nat.lt_or_ge o c with h | h
    · have hs : cnt (fun o => decide (I o ≠ 0)) (o + 1) = cnt (fun o => decide (I o ≠ 0)) o + (if decide (I o ≠ 0) = true then 1 else 0) := rfl
      have hr := ih (o + 1) h (by omega)
      rw [q_nle h (by omega), (hI o h).1, bind_some, nI_succ1, nI_succ1]
      have hi := (hI o h).2
      cases hz : I o with
      | zero =>
        rw [if_pos (show pI 0 = -1 from rfl)]
        rw [hz, if_neg (by decide)] at hs
        rw [hs] at hr
        exact hr
      | succ q =>
        rw [pI_s, if_neg (nI_nm (by omega) (by decide))]
        rw [hz, if_pos (by simp)] at hs
        rw [hs] at hr
        exact hr
    · have e : o = c := by omega
      subst e
      rw [q_le (Nat.le_refl _) (by omega)]
theorem acM_loop {I tg : Nat → Nat} {c : Nat} (hc : c ≤ 24) {τ : x_M} (h02 : τ 0 2 = nI c) (ht : ∀ o, o < c → τ 2 o = nI (tg o) ∧ tg o < 65536) (hI : ∀ o, o < c → I o ≤ 24 ∧ (tg o ≠ 97 → I o = 0) ∧ (tg o = 97 → fX8_nameOf τ (nI o) = some (if I o = 0 then -4 else nI (I o - 1)))) : ∀ (N o : Nat), o ≤ c → c - o < N → fX8_insertCard_23 N τ (nI (cnt (fun o => decide (I o ≠ 0)) o)) (nI o) = (if nI (cnt (fun o => decide (I o ≠ 0)) c) ≤ 6 then fX8_insertCard_82 x_fuel (up2 τ 0 8 0) 0 else some (-3, τ)) := by
  intro N
  induction N with
  | zero => intro o h1 h2; omega
  | succ N ih =>
    intro o h1 h2
    rw [fX8_insertCard_23, h02]
    rcases Nat.lt_or_ge o c with h | h
    · have hs : cnt (fun o => decide (I o ≠ 0)) (o + 1) = cnt (fun o => decide (I o ≠ 0)) o + (if decide (I o ≠ 0) = true then 1 else 0) := rfl
      have hr := ih (o + 1) h (by omega)
      obtain ⟨t1, t2⟩ := ht o h
      obtain ⟨i1, i2, i3⟩ := hI o h
      rw [q_nle h (by omega), g_in (by omega) (by decide), nI_clamp (by omega), t1, nI_succ1, nI_succ1, Int32.add_zero, show (97 : Int32) = nI 97 from rfl]
      by_cases t : tg o = 97
      · rw [q_eq (by rw [t]), i3 t, bind_some]
        cases hz : I o with
        | zero =>
          rw [if_pos rfl, if_pos rfl]
          rw [hz, if_neg (by decide)] at hs
          rw [hs] at hr
          exact hr
        | succ q =>
          have hq : (if q + 1 = 0 then (-4 : Int32) else nI (q + 1 - 1)) = nI q := by rw [if_neg (by omega), Nat.add_sub_cancel]
          rw [hq, if_neg (nI_nm (by omega) (by decide))]
          rw [hz, if_pos (by simp)] at hs
          rw [hs] at hr
          exact hr
      · rw [q_ne t (by omega) (by decide)]
        rw [i2 t, if_neg (by decide)] at hs
        rw [hs] at hr
        exact hr
    · have e : o = c := by omega
      subst e
      rw [q_le (Nat.le_refl _) (by omega)]
theorem renew_eq (σ : x_M) : fX1_renew σ = some (up2 (up2 (up2 (up2 (up2 (up2 (up2 σ 10 1 0) 9 2 (-1)) 9 3 0) 9 4 1) 13 0 0) 13 1 0) 13 2 0) := by
  have t : ∀ s : x_M, fX1_renew_25 (396 + 1 + 1 + 1 + 1) s (nI 0) = some (up2 (up2 (up2 s 13 0 0) 13 1 0) 13 2 0) := by
    intro s
    rw [fX1_renew_25, show (3 : Int32) = nI 3 from rfl, q_nle (by decide) (by decide), pu_nI (by decide) (by decide), nI_succ1, fX1_renew_25, show (3 : Int32) = nI 3 from rfl, q_nle (by decide) (by decide), pu_nI (by decide) (by decide), nI_succ1, fX1_renew_25, show (3 : Int32) = nI 3 from rfl, q_nle (by decide) (by decide), pu_nI (by decide) (by decide), nI_succ1, fX1_renew_25, show (3 : Int32) = nI 3 from rfl, q_le (by decide) (by decide)]
  rw [fX1_renew]
  exact t _
theorem ic235_eq (τ : x_M) : fX8_insertCard_235 x_fuel τ 0 = some (τ 0 8, up2 (up2 (up2 (up2 (up2 (up2 τ 11 0 0) 11 1 0) 11 2 0) 0 14 0) 0 15 1) 0 26 (-4)) := by
  have t : ∀ s : x_M, fX8_insertCard_235 (396 + 1 + 1 + 1 + 1) s (nI 0) = some (s 0 8, up2 (up2 (up2 (up2 (up2 (up2 s 11 0 0) 11 1 0) 11 2 0) 0 14 0) 0 15 1) 0 26 (-4)) := by
    intro s
    rw [fX8_insertCard_235, show (3 : Int32) = nI 3 from rfl, q_nle (by decide) (by decide), g_in (by decide) (by decide), nI_clamp (by decide), nI_succ1, fX8_insertCard_235, show (3 : Int32) = nI 3 from rfl, q_nle (by decide) (by decide), g_in (by decide) (by decide), nI_clamp (by decide), nI_succ1, fX8_insertCard_235, show (3 : Int32) = nI 3 from rfl, q_nle (by decide) (by decide), g_in (by decide) (by decide), nI_clamp (by decide), nI_succ1, fX8_insertCard_235, show (3 : Int32) = nI 3 from rfl, q_le (by decide) (by decide)]
    rfl
  exact t τ
set_option maxHeartbeats 4000000 in
theorem o_insertCard {σ τ : x_M} (h : Sim σ τ) : Opp (fX7_insertCard σ) (fX8_insertCard τ) := by
  obtain ⟨σ', τ', r, e1, e2, e3, -, -, e4⟩ := read_sim h
  rw [fX7_insertCard, fX8_insertCard, e1, e2, bind_some, bind_some]
  rcases e4 with ⟨q1, q2, len, c, tg, ln, dp, vs, pr, hlen, hc, h35, h02, hP⟩ | ⟨q1, q2, q3⟩
  rotate_left
  · rw [q2, if_neg b2i_t0, if_neg q1]; exact Opp.mk e3
  obtain ⟨pd, f1, f2, f3, f4⟩ := pend_of e3
  rw [q2, if_pos b2i_f, if_pos q1, f1, show (r, τ').2 0 30 = b2i pd from f2]
  cases pd
  rotate_left
  · rw [if_neg b2i_t0, if_neg b2i_t0]; exact Opp.mk e3
  rw [if_pos b2i_f, if_pos b2i_f]
  obtain ⟨⟨a1, a2, a3, a4⟩, h2, ⟨c1, c2, c3, c4⟩, h4, h5, h6⟩ := id e3
  -- what is read off the objects
  obtain ⟨by', hb1, hb2⟩ : ∃ by' : Nat → Nat, (∀ k, by' k < 256) ∧ ∀ k, σ' 2 k = nI (by' k) := ⟨fun k => Classical.choose (a4 k), fun k => (Classical.choose_spec (a4 k)).1, fun k => (Classical.choose_spec (a4 k)).2⟩
  obtain ⟨I, hI⟩ : ∃ I : Nat → Nat, ∀ o, o < c → (I o = 0 ∨ ∃ q, I o = q + 1 ∧ q < c ∧ 5 ≤ ln q ∧ ln q ≤ 16) ∧ ∀ σ τ : x_M, PS σ τ len c tg ln dp vs pr → σ 3 5 = nI c → τ 0 2 = nI c → fX2_identifierIn σ (nI o) = some (pI (I o)) ∧ (tg o ≠ 97 → I o = 0) ∧ (tg o = 97 → fX8_nameOf τ (nI o) = some (if I o = 0 then -4 else nI (I o - 1))) := ⟨fun o => Classical.choose (app_ex hc o), fun o => Classical.choose_spec (app_ex hc o)⟩
  obtain ⟨Bb, hB⟩ : ∃ Bb : Nat → Nat, ∀ o, Bb o < 256 ∧ (o < c → ∀ σ τ : x_M, PS σ τ len c tg ln dp vs pr → σ 3 5 = nI c → τ 0 2 = nI c → (∀ k, σ 2 k = nI (by' k)) → τ 1 = σ 2 → fX1_indicatorIn σ (nI o) = some (nI (Bb o)) ∧ fX8_priorityByte τ (nI o) = some (nI (Bb o))) := ⟨fun o => Classical.choose (ind_ex hc hlen hb1 o), fun o => Classical.choose_spec (ind_ex hc hlen hb1 o)⟩
  have hIb : ∀ o, o < c → I o ≤ 24 := by
    intro o ho
    rcases (hI o ho).1 with z | ⟨q, z, hq, -⟩ <;> omega
  have hX := acX_loop hc h35 (fun o ho => ⟨((hI o ho).2 σ' τ' hP h35 h02).1, hIb o ho⟩) x_fuel 0 (Nat.zero_le _) (by rw [xf3]; omega)
  have hM := acM_loop hc h02 (fun o ho => ⟨(hP o ho).1.2.1, (hP o ho).2.1⟩) (fun o ho => ⟨hIb o ho, ((hI o ho).2 σ' τ' hP h35 h02).2⟩) x_fuel 0 (Nat.zero_le _) (by rw [xf3]; omega)
  have hcn := cnt_n (fun o => decide (I o ≠ 0)) c
  rw [fX2_applicationCount]
  show Opp (Option.bind (fX2_applicationCount_4 σ' x_fuel (nI (cnt (fun o => decide (I o ≠ 0)) 0)) (nI 0)) _) (fX8_insertCard_23 x_fuel τ' (nI (cnt (fun o => decide (I o ≠ 0)) 0)) (nI 0))
  rw [hX, hM, bind_some, show (6 : Int32) = nI 6 from rfl]
  rcases Nat.lt_or_ge 6 (cnt (fun o => decide (I o ≠ 0)) c) with z | z
  · rw [q_nle z (by omega), q_nle z (by omega)]; exact Opp.mk e3
  rw [q_le z (by decide), q_le z (by decide), renew_eq, bind_some, fX1_readApplications]
  obtain ⟨σ1, hσ1⟩ : ∃ s, s = up2 (up2 (up2 (up2 (up2 (up2 (up2 σ' 10 1 0) 9 2 (-1)) 9 3 0) 9 4 1) 13 0 0) 13 1 0) 13 2 0 := ⟨_, rfl⟩
  obtain ⟨τ1, hτ1⟩ : ∃ s, s = up2 τ' 0 8 0 := ⟨_, rfl⟩
  rw [← hσ1, ← hτ1, show (0 : Int32) = nI 0 from rfl]
  have hP1 : PS σ1 τ1 len c tg ln dp vs pr := by subst hσ1; subst hτ1; exact hP
  obtain ⟨σ2, τ2, g1, g2, g3, g4, g5⟩ := app_loop hc hlen hI hB z hP1 (by subst hσ1; exact h35) (by subst hτ1; exact h02) (by subst hσ1; exact hb2) (by subst hσ1; subst hτ1; exact a2) x_fuel x_fuel σ1 τ1 0 (Nat.zero_le _) (by rw [xf3]; omega) (by rw [xf3]; omega) (fun _ _ _ _ _ => rfl) ⟨fun _ _ _ _ _ _ => rfl, fun _ _ => rfl⟩ (by subst hσ1; rfl) (by
    subst hσ1; subst hτ1
    obtain ⟨s1, s2, s3, s4, s5, s6, s7⟩ := h2
    exact ⟨rfl, s2, s3, s4, s5, ⟨0, by omega, rfl⟩, s7⟩)
  rw [g1, bind_some, g2, ic235_eq]
  obtain ⟨m1, m2⟩ := g4
  rw [g5.1]
  refine ⟨σ2 10 1, σ2, _, rfl, rfl, ?_⟩
  have k13 : σ2 13 = upd (upd (upd (σ' 13) 0 0) 1 0) 2 0 := by rw [g3 13 (by decide) (by decide) (by decide) (by decide), hσ1]; rfl
  have k9 : σ2 9 = σ1 9 := g3 9 (by decide) (by decide) (by decide) (by decide)
  have n11 : τ2 11 = τ' 11 := by rw [m1 11 (by decide) (by decide) (by decide) (by decide) (by decide), hτ1]; rfl
  have n1 : τ2 1 = τ' 1 := by rw [m1 1 (by decide) (by decide) (by decide) (by decide) (by decide), hτ1]; rfl
  have n0 : ∀ j, j ≠ 8 → τ2 0 j = τ' 0 j := fun j hj => by rw [m2 j hj, hτ1]; exact upd_n hj
  have nk : ∀ k, 11 < k → τ2 k = τ' k := fun k hk => by rw [m1 k (by omega) (by omega) (by omega) (by omega) (by omega), hτ1]; exact up_n (by omega)
  have kk : ∀ k, k < 3 ∨ 14 < k → σ2 k = σ' k := fun k hk => by rw [g3 k (by omega) (by omega) (by omega) (by omega), hσ1, up_n (by omega), up_n (by omega), up_n (by omega), up_n (by omega), up_n (by omega), up_n (by omega), up_n (by omega)]
  refine ⟨?_, g5, ⟨?_, ?_, ?_, ?_⟩, ?_, ?_, ?_⟩
  · show S1 (σ2 1 1) (σ2 2) (τ2 0 0) (τ2 1)
    rw [kk 1 (by omega), kk 2 (by omega), n0 0 (by decide), n1]; exact ⟨a1, a2, a3, a4⟩
  · show upd (upd (upd (τ2 11) 0 0) 1 0) 2 0 = σ2 13
    rw [k13, n11, c1]
  · show (0 : Int32) = σ2 9 3
    rw [k9, hσ1]; rfl
  · show (1 : Int32) = σ2 9 4
    rw [k9, hσ1]; rfl
  · exact Or.inl ⟨by rw [k9, hσ1]; rfl, rfl⟩
  · show S4 (σ2 16 1) (σ2 17) (σ2 18) (σ2 20) (τ2 0 16) (τ2 13) (τ2 12) (τ2 14)
    rw [kk 16 (by omega), kk 17 (by omega), kk 18 (by omega), kk 20 (by omega), n0 16 (by decide), nk 13 (by omega), nk 12 (by omega), nk 14 (by omega)]; exact h4
  · show S5 (σ2 19) (σ2 15 2) (σ2 15 3) (σ2 15 4) (σ2 15 5) (σ2 15 6) (τ2 15) (τ2 0 21) (τ2 0 22) (τ2 0 23) (τ2 0 24) (τ2 0 25)
    rw [kk 19 (by omega), kk 15 (by omega), nk 15 (by omega), n0 21 (by decide), n0 22 (by decide), n0 23 (by decide), n0 24 (by decide), n0 25 (by decide)]; exact h5
  · show S6 (σ2 21 2) (σ2 21 3) (σ2 21 4) (σ2 22) (σ2 23) (σ2 24 0) (σ2 25) (τ2 0 27) (τ2 0 28) (τ2 0 29) (τ2 0 30) (τ2 17) (τ2 18) (τ2 0 32) (τ2 16)
    rw [kk 21 (by omega), kk 22 (by omega), kk 23 (by omega), kk 24 (by omega), kk 25 (by omega), n0 27 (by decide), n0 28 (by decide), n0 29 (by decide), n0 30 (by decide), n0 32 (by decide), nk 17 (by omega), nk 18 (by omega), nk 16 (by omega)]; exact h6
