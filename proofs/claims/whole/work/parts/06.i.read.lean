def St (σ0 τ0 σ τ : x_M) (len : Nat) (by' : Nat → Nat) (c at' level u : Nat) (tg ln dp vs pr en : Nat → Nat) : Prop :=
  ((∀ k, σ 2 k = nI (by' k) ∧ by' k < 256) ∧ τ 1 = σ 2 ∧ σ 1 1 = nI len ∧ τ 0 0 = nI len ∧ σ 3 5 = nI c ∧ σ 3 6 = -1 ∧ σ 3 7 = nI at' ∧ τ 0 2 = nI c ∧ c ≤ 24 ∧ len ≤ 120) ∧ (level ≤ c ∧ en 0 = len ∧ at' ≤ en level ∧ Ch c dp vs ln pr en level u ∧ (∀ j, j ≤ level → τ 6 j = nI (en j)) ∧ PS σ τ len c tg ln dp vs pr ∧ FX σ σ0 ∧ FM τ τ0)
def Done (σ0 τ0 : x_M) (len : Nat) (x : Option x_M) (m : Option (Int32 × x_M)) : Prop := ∃ (σ' τ' : x_M) (r : Int32), x = some σ' ∧ m = some (r, τ') ∧ FX σ' σ0 ∧ FM τ' τ0 ∧ ((r = -4 ∧ σ' 3 6 = -1 ∧ ∃ (c : Nat) (tg ln dp vs pr : Nat → Nat), c ≤ 24 ∧ σ' 3 5 = nI c ∧ τ' 0 2 = nI c ∧ PS σ' τ' len c tg ln dp vs pr) ∨ ∃ e, e ≤ 120 ∧ r = nI e ∧ σ' 3 6 = nI e)
theorem PS_new {σ τ σ' τ' : x_M} {len c t m p level u : Nat} {tg ln dp vs pr en : Nat → Nat} (hP : PS σ τ len c tg ln dp vs pr) (hC : Ch c dp vs ln pr en level u) (hl : level ≤ c) (hc : c < 24) (ht : t < 65536) (hm : m < 256) (hpm : p + m ≤ len) (a1 : σ' 4 = upd (σ 4) c (nI t)) (a2 : τ' 2 = upd (τ 2) c (nI t)) (a3 : σ' 5 = upd (σ 5) c (nI m)) (a4 : τ' 4 = upd (τ 4) c (nI m)) (a5 : σ' 6 = upd (σ 6) c (nI level)) (a6 : τ' 3 = upd (τ 3) c (nI level)) (a7 : σ' 8 = upd (σ 8) c (nI p)) (a8 : τ' 5 = upd (τ 5) c (nI p)) (a9 : σ' 7 = upd (σ 7) c (pI u)) : PS σ' τ' len (c + 1) (upN tg c t) (upN ln c m) (upN dp c level) (upN vs c p) (upN pr c u) := by
  intro k hk
  by_cases e : k = c
  · subst e
    rw [a1, a2, a3, a4, a5, a6, a7, a8, a9, upd_s, upd_s, upd_s, upd_s, upd_s, upd_s, upd_s, upd_s, upd_s, upN_s, upN_s, upN_s, upN_s, upN_s]
    refine ⟨⟨rfl, rfl, rfl, rfl, rfl, rfl, rfl, rfl, rfl⟩, ht, hm, by omega, hpm, ?_, ?_, ?_⟩
    · cases level with
      | zero => rw [show u = 0 from hC]; omega
      | succ l => obtain ⟨q, h1, h2, -⟩ := hC; omega
    · intro hu
      cases level with
      | zero => rfl
      | succ l => obtain ⟨q, h1, -⟩ := hC; omega
    · intro q hq
      cases level with
      | zero => rw [show u = 0 from hC] at hq; omega
      | succ l =>
        obtain ⟨q', h1, h2, h3, h4, h5, h6, h7⟩ := hC
        have : q' = q := by omega
        subst this
        rw [upN_n (by omega), h3]
        refine ⟨rfl, fun j j1 j2 => ?_⟩
        rw [upN_n (by omega)]
        exact h6 j j1 j2
  · have hk' : k < c := by omega
    obtain ⟨⟨p1, p2, p3, p4, p5, p6, p7, p8, p9⟩, q1, q2, q3, q4, q5, q6, q7⟩ := hP k hk'
    rw [a1, a2, a3, a4, a5, a6, a7, a8, a9, upd_n e, upd_n e, upd_n e, upd_n e, upd_n e, upd_n e, upd_n e, upd_n e, upd_n e, upN_n e, upN_n e, upN_n e, upN_n e, upN_n e]
    refine ⟨⟨p1, p2, p3, p4, p5, p6, p7, p8, p9⟩, q1, q2, q3, q4, q5, q6, fun q hq => ?_⟩
    obtain ⟨g1, g2⟩ := q7 q hq
    rw [upN_n (by omega)]
    refine ⟨g1, fun j j1 j2 => ?_⟩
    rw [upN_n (by omega)]
    exact g2 j j1 j2
set_option maxHeartbeats 4000000 in
theorem read_loop : ∀ (N m : Nat) (σ0 τ0 σ τ : x_M) (len : Nat) (by' : Nat → Nat) (c at' level u : Nat) (tg ln dp vs pr en : Nat → Nat), St σ0 τ0 σ τ len by' c at' level u tg ln dp vs pr en → 24 - c < N → 2 * (24 - c) + level < m → Done σ0 τ0 len (fX2_read_19 N σ (pI u) (nI c)) (fX8_reads_19 m τ (nI level) (nI at')) := by
  intro N
  induction N with
  | zero => intro m σ0 τ0 σ τ len by' c at' level u tg ln dp vs pr en h h1; omega
  | succ N ih =>
    intro m σ0 τ0 σ τ len by' c at' level u tg ln dp vs pr en h hN hm
    obtain ⟨⟨hb, hτ1, h11, h00, h35, h36, h37, h02, hc, hlen⟩, hlv, hen0, hat, hCh, h6, hP, hFX, hFM⟩ := h
    obtain ⟨u', level', k1, k2, k3, k4, k5, k6⟩ := still_eq level x_fuel 0 σ τ len c at' u tg ln dp vs pr en hP hc hlen hen0 hCh hat (by omega) (by omega) (by rw [xf3]; omega) h37 h6
    obtain ⟨m1, rfl⟩ : ∃ m1, m = m1 + (level - level') + 1 := ⟨m - (level - level') - 1, by omega⟩
    rw [k6, fX2_read_19, show (24 : Int32) = nI 24 from rfl, q_nlt hc (by decide), fX2_stillOpen, show (0 : Int32) = nI 0 from rfl, k5, bind_some, h37, h11]
    have hEl : en level' ≤ len := by rw [← hen0]; exact Ch_en _ _ k2
    rcases Nat.lt_or_ge at' len with c1 | c1
    rotate_left
    · have e : at' = len := by omega
      rw [q_nlt c1 (by omega), fX8_reads_39, h00, q_eq (by rw [e])]
      exact ⟨σ, τ, -4, rfl, rfl, hFX, hFM, Or.inl ⟨rfl, h36, c, tg, ln, dp, vs, pr, hc, h35, h02, hP⟩⟩
    rw [q_lt c1 (by omega), h35]
    rcases Nat.lt_or_ge c 24 with c2 | c2
    rotate_left
    · have e : c = 24 := by omega
      subst e
      rw [q_nlt (Nat.le_refl _) (by decide), fX8_reads_39, h00, q_ne (by omega) (by omega) (by omega), g_in (by omega) (by decide), h02, q_eq (show nI 24 = (24 : Int32) from rfl)]
      exact ⟨_, τ, nI at', rfl, rfl, fun k hk => by rw [up_n (by omega)]; exact hFX k hk, hFM, Or.inr ⟨at', by omega, rfl, rfl⟩⟩
    rw [q_lt c2 (by decide)]
    obtain ⟨E, hE⟩ : ∃ E, E = en level' := ⟨_, rfl⟩
    have hatE : at' < E := by
      rw [hE]
      rcases Nat.eq_zero_or_pos level' with z | z
      · rw [z, hen0]; exact c1
      · exact k4 z
    have hend : (if pI u' = -1 then fX2_read_78 (fX2_read_19 N) σ (pI u') (nI c) (nI len) else fX2_read_78 (fX2_read_19 N) σ (pI u') (nI c) (fX2_valueEnd σ (pI u'))) = fX2_read_78 (fX2_read_19 N) σ (pI u') (nI c) (nI E) := by
      cases level' with
      | zero => rw [show u' = 0 from k2, if_pos (show pI 0 = -1 from rfl), hE, hen0]
      | succ l =>
        obtain ⟨q, rfl, g2, g3, g4, g5, g6, g7⟩ := id k2
        obtain ⟨⟨p1, p2, p3, p4, p5, p6, p7, p8, p9⟩, -⟩ := hP q g2
        rw [pI_s, if_neg (nI_nm (by omega) (by decide)), fX2_valueEnd, x_at_nI (by omega) (by decide), x_at_nI (by omega) (by decide), p7, p3, nI_add, hE, g4]
    rw [hend]
    have hEl2 : E ≤ len := by rw [hE]; exact hEl
    obtain ⟨b1, b2⟩ := hb at'
    -- the flag of a constructed object
    obtain ⟨cs, hcs1, hcs2⟩ : ∃ cs : Bool, ((nI (by' at') &&& 32) = 0 ↔ cs = false) ∧ ((nI (by' at') &&& 32) = 32 ↔ cs = true) := by
      by_cases z : (nI (by' at') &&& 32) = 0
      · exact ⟨false, ⟨fun _ => rfl, fun _ => z⟩, ⟨fun y => absurd y ((and32 _ b2).mp z), fun y => by cases y⟩⟩
      · have y : (nI (by' at') &&& 32) = 32 := by
          by_cases y : (nI (by' at') &&& 32) = 32
          · exact y
          · exact absurd ((and32 _ b2).mpr y) z
        exact ⟨true, ⟨fun q => absurd q z, fun q => by cases q⟩, ⟨fun _ => rfl, fun _ => y⟩⟩
    have h78 : fX2_read_78 (fX2_read_19 N) σ (pI u') (nI c) (nI E) = fX2_read_102 (fX2_read_19 N) σ (pI u') (nI c) (nI E) (b2i cs) := by
      rw [fX2_read_78, h37, x_at_nI (by omega) (by decide), b1]
      cases cs
      · rw [if_pos (hcs1.mpr rfl)]; rfl
      · rw [if_neg (fun z => by cases hcs1.mp z)]; rfl
    rw [h78, fX2_read_102]
    rcases tag_eq (level := level') hb hτ1 h37 h35 hatE hEl2 hlen c2 h02 h00 (by omega) (by rw [h6 level' k1, hE]) with ⟨e, σ', t1, t2, t3, t4, t5⟩ | ⟨t, p, t1, t2, t3, t4, t5⟩
    · rw [t2, t5, bind_some, if_pos b2i_f]
      exact ⟨σ', τ, nI e, rfl, rfl, fun k hk => by rw [t4 k (by omega)]; exact hFX k hk, hFM, Or.inr ⟨e, t1, rfl, t3⟩⟩
    rw [t4, t5, bind_some, if_neg b2i_t0]
    obtain ⟨σ1, hσ1⟩ : ∃ s, s = up2 (up2 σ 3 7 (nI p)) 4 c (nI t) := ⟨_, rfl⟩
    rw [← hσ1]
    rcases len_eq (σ := σ1) (τ := τ) (E := E) (p := p) (c := c) (level := level') (by' := by') (nI (by' at')) (nI t) (by subst hσ1; exact hb) (by subst hσ1; exact hτ1) (by subst hσ1; rfl) (by subst hσ1; exact h35) (by omega) (by omega) c2 with ⟨e, σ', l1, l2, l3, l4, l5⟩ | ⟨mm, p', st, l1, l2, l3, l4, l5⟩
    · rw [l2, l5, bind_some, if_pos b2i_f]
      exact ⟨σ', τ, nI e, rfl, rfl, fun k hk => by rw [l4 k (by omega), hσ1, up_n (by omega), up_n (by omega)]; exact hFX k hk, hFM, Or.inr ⟨e, l1, rfl, l3⟩⟩
    rw [l4, l5, bind_some, if_neg b2i_t0]
    obtain ⟨σ2, hσ2⟩ : ∃ s, s = up2 (up2 σ1 3 7 (nI p')) 5 c (nI mm) := ⟨_, rfl⟩
    rw [← hσ2]
    have s35 : σ2 3 5 = nI c := by subst hσ2; subst hσ1; exact h35
    have s37 : σ2 3 7 = nI p' := by subst hσ2; rfl
    have s6 : σ2 6 = σ 6 := by subst hσ2; subst hσ1; rfl
    have s5 : σ2 5 c = nI mm := by subst hσ2; exact upd_s
    -- the class's step
    obtain ⟨σ3, hσ3⟩ : ∃ s, s = up2 (up2 (up2 σ2 7 c (pI u')) 6 c (nI level')) 8 c (nI p') := ⟨_, rfl⟩
    have hX : (if pI u' = -1 then fX2_read_164 (fX2_read_19 N) (pu σ2 7 24 (σ2 3 5) (pI u')) (pI u') (nI c) (b2i cs) (σ2 3 5) 0 else fX2_read_164 (fX2_read_19 N) (pu σ2 7 24 (σ2 3 5) (pI u')) (pI u') (nI c) (b2i cs) (σ2 3 5) (x_at 24 (σ2 6) (pI u') + 1)) = (if cs = true then fX2_read_19 N (up2 σ3 3 5 (nI (c + 1))) (pI (c + 1)) (nI (c + 1)) else fX2_read_19 N (up2 (up2 σ3 3 7 (nI (p' + mm))) 3 5 (nI (c + 1))) (pI u') (nI (c + 1))) := by
      have hd : (if pI u' = -1 then fX2_read_164 (fX2_read_19 N) (pu σ2 7 24 (σ2 3 5) (pI u')) (pI u') (nI c) (b2i cs) (σ2 3 5) 0 else fX2_read_164 (fX2_read_19 N) (pu σ2 7 24 (σ2 3 5) (pI u')) (pI u') (nI c) (b2i cs) (σ2 3 5) (x_at 24 (σ2 6) (pI u') + 1)) = fX2_read_164 (fX2_read_19 N) (up2 σ2 7 c (pI u')) (pI u') (nI c) (b2i cs) (nI c) (nI level') := by
        rw [s35, pu_nI c2 (by decide)]
        cases level' with
        | zero => rw [show u' = 0 from k2, if_pos (show pI 0 = -1 from rfl)]; rfl
        | succ l =>
          obtain ⟨q, rfl, g2, g3, g4, g5, g6, g7⟩ := id k2
          obtain ⟨⟨p1, p2, p3, p4, p5, p6, p7, p8, p9⟩, -⟩ := hP q g2
          rw [pI_s, if_neg (nI_nm (by omega) (by decide)), x_at_nI (by omega) (by decide), s6, p5, g3, nI_succ1]
      have h8 : pu (pu (up2 σ2 7 c (pI u')) 6 24 (nI c) (nI level')) 8 24 (up2 σ2 7 c (pI u') 3 5) (up2 σ2 7 c (pI u') 3 7) = σ3 := by
        rw [show up2 σ2 7 c (pI u') 3 5 = nI c from s35, show up2 σ2 7 c (pI u') 3 7 = nI p' from s37, pu_nI c2 (by decide), pu_nI c2 (by decide), hσ3]
      have hmm : x_at 24 (up2 σ2 7 c (pI u') 5) (up2 σ2 7 c (pI u') 3 5) = nI mm := by
        rw [show up2 σ2 7 c (pI u') 3 5 = nI c from s35, x_at_nI c2 (by decide)]
        exact s5
      rw [hd, fX2_read_164, h8, hmm, fX2_read_215, fX2_read_215, show up2 σ2 7 c (pI u') 3 5 = nI c from s35, show up2 σ2 7 c (pI u') 3 7 = nI p' from s37, nI_add, nI_succ1]
      have q1 : up2 σ3 3 7 (nI (p' + mm)) 3 5 = nI c := by subst hσ3; exact s35
      have q2 : σ3 3 5 = nI c := by subst hσ3; exact s35
      rw [q1, q2, nI_succ1]
      cases cs
      · rw [if_pos b2i_f, if_neg (by decide)]
      · rw [if_neg b2i_t0, if_pos rfl]; rfl
    rw [hX]
    -- the reference's step
    obtain ⟨τ4, hτ4⟩ : ∃ s, s = up2 (up2 (up2 (up2 (up2 τ 2 c (nI t)) 3 c (nI level')) 4 c (nI mm)) 5 c (nI p')) 0 2 (nI (c + 1)) := ⟨_, rfl⟩
    have hM : fX8_reads_202 (fX8_reads_19 m1) τ (nI level') (nI E) (nI (by' at')) (nI t) (nI p') st (nI mm) = (if cs = true then fX8_reads_19 m1 (up2 τ4 6 (level' + 1) (nI (p' + mm))) (nI (level' + 1)) (nI p') else fX8_reads_19 m1 τ4 (nI level') (nI (p' + mm))) := by
      rw [fX8_reads_202, nI_add, q_le l2 (by omega), h02, nI_succ1, nI_succ1]
      have hi : x_inb (nI c) 24 = true := x_inb_nI c2 (by decide)
      simp only [hi, if_true]
      rw [nI_clamp (by omega), g_in (by omega) (by decide), nI_clamp (by omega), ← hτ4]
      cases cs
      · rw [if_neg (fun z => by cases hcs2.mp z), if_neg (by decide)]
      · rw [if_pos (hcs2.mpr rfl), if_pos rfl]
    rw [hM]
    have hPS : ∀ σ' τ' : x_M, σ' 4 = σ3 4 → σ' 5 = σ3 5 → σ' 6 = σ3 6 → σ' 7 = σ3 7 → σ' 8 = σ3 8 → τ' 2 = τ4 2 → τ' 3 = τ4 3 → τ' 4 = τ4 4 → τ' 5 = τ4 5 → PS σ' τ' len (c + 1) (upN tg c t) (upN ln c mm) (upN dp c level') (upN vs c p') (upN pr c u') := by
      intro σ' τ' e1 e2 e3 e4 e5 e6 e7 e8 e9
      refine PS_new hP k2 (by omega) c2 t3 l3 (by omega) ?_ ?_ ?_ ?_ ?_ ?_ ?_ ?_ ?_
      · rw [e1, hσ3, hσ2, hσ1]; rfl
      · rw [e6, hτ4]; rfl
      · rw [e2, hσ3, hσ2, hσ1]; rfl
      · rw [e8, hτ4]; rfl
      · rw [e3, hσ3, hσ2, hσ1]; rfl
      · rw [e7, hτ4]; rfl
      · rw [e5, hσ3, hσ2, hσ1]; rfl
      · rw [e9, hτ4]; rfl
      · rw [e4, hσ3, hσ2, hσ1]; rfl
    have hFX3 : FX σ3 σ0 := fun k hk => by rw [hσ3, hσ2, hσ1, up_n (by omega), up_n (by omega), up_n (by omega), up_n (by omega), up_n (by omega), up_n (by omega), up_n (by omega)]; exact hFX k hk
    have hFM4 : FM τ4 τ0 := by
      subst hτ4
      refine ⟨fun k hk => ?_, fun j hj => ?_⟩
      · rw [up_n (by omega), up_n (by omega), up_n (by omega), up_n (by omega), up_n (by omega)]; exact hFM.1 k hk
      · rw [up_s, upd_n hj]; exact hFM.2 j hj
    have g2 : ∀ k, σ3 2 k = nI (by' k) ∧ by' k < 256 := by subst hσ3; subst hσ2; subst hσ1; exact hb
    have g3 : τ4 1 = σ3 2 := by subst hτ4; subst hσ3; subst hσ2; subst hσ1; exact hτ1
    have g4 : σ3 1 1 = nI len := by subst hσ3; subst hσ2; subst hσ1; exact h11
    have g5 : τ4 0 0 = nI len := by subst hτ4; exact h00
    have g6 : σ3 3 6 = -1 := by subst hσ3; subst hσ2; subst hσ1; exact h36
    have g7 : σ3 3 7 = nI p' := by subst hσ3; exact s37
    have g8 : τ4 0 2 = nI (c + 1) := by subst hτ4; rfl
    have g9 : τ4 6 = τ 6 := by subst hτ4; rfl
    have hCm : ∀ en', (∀ i, i ≤ level' → en' i = en i) → Ch (c + 1) (upN dp c level') (upN vs c p') (upN ln c mm) (upN pr c u') en' level' u' := fun en' he => Ch_mono (fun k hk => upN_n (by omega)) (fun k hk => upN_n (by omega)) (fun k hk => upN_n (by omega)) (fun k hk => upN_n (by omega)) level' u' level' (Nat.le_refl _) upN_s he k2
    cases cs
    · rw [if_neg (by decide), if_neg (by decide)]
      refine ih m1 σ0 τ0 _ _ len by' (c + 1) (p' + mm) level' u' (upN tg c t) (upN ln c mm) (upN dp c level') (upN vs c p') (upN pr c u') en ⟨⟨g2, g3, g4, g5, rfl, g6, rfl, g8, by omega, hlen⟩, by omega, hen0, by omega, hCm en (fun _ _ => rfl), fun j hj => by rw [g9]; exact h6 j (by omega), hPS _ _ rfl rfl rfl rfl rfl rfl rfl rfl rfl, fun k hk => by rw [up_n (by omega), up_n (by omega)]; exact hFX3 k hk, hFM4⟩ (by omega) (by omega)
    · rw [if_pos rfl, if_pos rfl]
      refine ih m1 σ0 τ0 _ _ len by' (c + 1) p' (level' + 1) (c + 1) (upN tg c t) (upN ln c mm) (upN dp c level') (upN vs c p') (upN pr c u') (upN en (level' + 1) (p' + mm)) ⟨⟨g2, g3, g4, g5, rfl, g6, g7, g8, by omega, hlen⟩, by omega, by rw [upN_n (by omega)]; exact hen0, by rw [upN_s]; omega, ?_, fun j hj => ?_, hPS _ _ rfl rfl rfl rfl rfl rfl rfl rfl rfl, fun k hk => by rw [up_n (by omega)]; exact hFX3 k hk, ⟨fun k hk => by rw [up_n (by omega)]; exact hFM4.1 k hk, hFM4.2⟩⟩ (by omega) (by omega)
      · refine ⟨c, rfl, by omega, upN_s, by rw [upN_s, upN_s, upN_s], by rw [upN_s, upN_n (by omega)]; omega, fun j j1 j2 => by omega, ?_⟩
        rw [upN_s]
        exact hCm _ (fun i hi => upN_n (by omega))
      · rw [up_s]
        by_cases e : j = level' + 1
        · subst e; rw [upd_s, upN_s]
        · rw [upd_n e, upN_n e, g9]; exact h6 j (by omega)
/-- the reading of the buffer, on both sides -/
theorem read_eq {σ τ : x_M} (h : Sim σ τ) : ∃ len, len ≤ 120 ∧ σ 1 1 = nI len ∧ Done σ τ len (fX2_read σ) (fX8_reads τ) := by
  obtain ⟨⟨a1, a2, ⟨len, hlen, el⟩, a4⟩, -⟩ := h
  refine ⟨len, hlen, el, ?_⟩
  rw [fX2_read, fX8_reads, if_pos (by decide), a1, el]
  have hM : up2 (up2 τ 0 2 0) 6 (0 : Int32).toNatClampNeg (nI len) = up2 (up2 τ 0 2 0) 6 0 (nI len) := rfl
  rw [hM]
  refine read_loop x_fuel x_fuel σ τ _ _ len (fun k => Classical.choose (a4 k)) 0 0 0 0 (fun _ => 0) (fun _ => 0) (fun _ => 0) (fun _ => 0) (fun _ => 0) (fun _ => len) ⟨⟨fun k => ?_, a2, el, by rw [← el, ← a1]; rfl, rfl, rfl, rfl, rfl, by omega, hlen⟩, by omega, rfl, by omega, rfl, fun j hj => ?_, fun k hk => by omega, fun k hk => ?_, ⟨fun k hk => ?_, fun j hj => ?_⟩⟩ (by rw [xf3]; omega) (by rw [xf3]; omega)
  · obtain ⟨g1, g2⟩ := Classical.choose_spec (a4 k)
    exact ⟨g2, g1⟩
  · rw [show j = 0 by omega]; rfl
  · rw [up_n (by omega), up_n (by omega), up_n (by omega)]
  · rw [up_n (by omega), up_n (by omega)]
  · rw [up_n (by decide), up_s, upd_n hj]
