def pI (u : Nat) : Int32 := match u with
  | 0 => -1
  | q + 1 => nI q
def upN (f : Nat → Nat) (k v : Nat) : Nat → Nat := fun j => if j = k then v else f j
theorem upN_s {f : Nat → Nat} {k v : Nat} : upN f k v k = v := by unfold upN; rw [if_pos rfl]
theorem upN_n {f : Nat → Nat} {k v j : Nat} (h : j ≠ k) : upN f k v j = f j := by unfold upN; rw [if_neg h]
/-- the first c data objects, as both sides hold them -/
def PS (σ τ : x_M) (len c : Nat) (tg ln dp vs pr : Nat → Nat) : Prop := ∀ k, k < c → (σ 4 k = nI (tg k) ∧ τ 2 k = nI (tg k) ∧ σ 5 k = nI (ln k) ∧ τ 4 k = nI (ln k) ∧ σ 6 k = nI (dp k) ∧ τ 3 k = nI (dp k) ∧ σ 8 k = nI (vs k) ∧ τ 5 k = nI (vs k) ∧ σ 7 k = pI (pr k)) ∧ (tg k < 65536 ∧ ln k < 256 ∧ dp k < 24 ∧ vs k + ln k ≤ len ∧ pr k ≤ k ∧ (pr k = 0 → dp k = 0) ∧ ∀ q, pr k = q + 1 → dp k = dp q + 1 ∧ ∀ j, q < j → j < k → dp k ≤ dp j)
/-- the objects that are open, by their depth -/
def Ch (c : Nat) (dp vs ln pr en : Nat → Nat) : Nat → Nat → Prop
  | 0, u => u = 0
  | l + 1, u => ∃ q, u = q + 1 ∧ q < c ∧ dp q = l ∧ en (l + 1) = vs q + ln q ∧ en (l + 1) ≤ en l ∧ (∀ j, q < j → j < c → l < dp j) ∧ Ch c dp vs ln pr en l (pr q)
theorem Ch_en {c : Nat} {dp vs ln pr en : Nat → Nat} : ∀ (l u : Nat), Ch c dp vs ln pr en l u → en l ≤ en 0 := by
  intro l
  induction l with
  | zero => intro u _; exact Nat.le_refl _
  | succ l ih =>
    intro u h
    obtain ⟨q, h1, h2, h3, h4, h5, h6, h7⟩ := h
    exact Nat.le_trans h5 (ih _ h7)
theorem Ch_mono {c : Nat} {dp vs ln pr en dp' vs' ln' pr' en' : Nat → Nat} (h1 : ∀ k, k < c → dp' k = dp k) (h2 : ∀ k, k < c → vs' k = vs k) (h3 : ∀ k, k < c → ln' k = ln k) (h4 : ∀ k, k < c → pr' k = pr k) : ∀ (l u L : Nat), l ≤ L → dp' c = L → (∀ i, i ≤ l → en' i = en i) → Ch c dp vs ln pr en l u → Ch (c + 1) dp' vs' ln' pr' en' l u := by
  intro l
  induction l with
  | zero => intro u L _ _ _ h; exact h
  | succ l ih =>
    intro u L hl hL he h
    obtain ⟨q, g1, g2, g3, g4, g5, g6, g7⟩ := h
    refine ⟨q, g1, by omega, by rw [h1 q g2, g3], by rw [he (l + 1) (Nat.le_refl _), h2 q g2, h3 q g2, g4], by rw [he (l + 1) (Nat.le_refl _), he l (by omega)]; exact g5, fun j j1 j2 => ?_, by rw [h4 q g2]; exact ih _ L (by omega) hL (fun i hi => he i (by omega)) g7⟩
    by_cases e : j = c
    · subst e; omega
    · rw [h1 j (by omega)]; exact g6 j j1 (by omega)
theorem up_up {σ : x_M} {k j : Nat} {a b : Int32} : up2 (up2 σ k j a) k j b = up2 σ k j b := by
  funext q
  by_cases h : q = k
  · subst h
    rw [up_s, up_s, up_s]
    funext i
    by_cases e : i = j
    · subst e; rw [upd_s, upd_s]
    · rw [upd_n e, upd_n e, upd_n e]
  · rw [up_n h, up_n h, up_n h]
theorem pI_s (q : Nat) : pI (q + 1) = nI q := rfl
/-- what the objects' reading keeps of the class's memory -/
def FX (σ σ0 : x_M) : Prop := ∀ k, k < 3 ∨ 8 < k → σ k = σ0 k
def FM (τ τ0 : x_M) : Prop := (∀ k, k = 1 ∨ 6 < k → τ k = τ0 k) ∧ ∀ j, j ≠ 2 → τ 0 j = τ0 0 j
theorem still_eq : ∀ (level : Nat) (N i : Nat) (σ τ : x_M) (len c at' u : Nat) (tg ln dp vs pr en : Nat → Nat), PS σ τ len c tg ln dp vs pr → c ≤ 24 → len ≤ 120 → en 0 = len → Ch c dp vs ln pr en level u → at' ≤ en level → level ≤ 24 → i + level ≤ 24 → level < N → σ 3 7 = nI at' → (∀ j, j ≤ level → τ 6 j = nI (en j)) → ∃ u' level', level' ≤ level ∧ Ch c dp vs ln pr en level' u' ∧ at' ≤ en level' ∧ (0 < level' → at' < en level') ∧ fX2_stillOpen_4 σ N (pI u) (nI i) = some (pI u') ∧ ∀ m, fX8_reads_19 (m + (level - level') + 1) τ (nI level) (nI at') = fX8_reads_39 (fX8_reads_19 m) τ (nI level') (nI at') := by
  intro level
  induction level with
  | zero =>
    intro N i σ τ len c at' u tg ln dp vs pr en hP hc hlen he hCh hat hl hi hN h37 h6
    obtain ⟨N, rfl⟩ : ∃ N', N = N' + 1 := ⟨N - 1, by omega⟩
    have hu : u = 0 := hCh
    subst hu
    refine ⟨0, 0, Nat.le_refl _, rfl, hat, by omega, ?_, fun m => ?_⟩
    · rw [fX2_stillOpen_4, show (24 : Int32) = nI 24 from rfl]
      rcases Nat.lt_or_ge i 24 with h | h
      · rw [q_nle h (by decide), if_pos (show pI 0 = -1 from rfl)]
      · rw [q_le h (by omega)]
    · rw [fX8_reads_19, if_pos (show nI 0 ≤ 0 by decide)]
  | succ l ih =>
    intro N i σ τ len c at' u tg ln dp vs pr en hP hc hlen he hCh hat hl hi hN h37 h6
    obtain ⟨N, rfl⟩ : ∃ N', N = N' + 1 := ⟨N - 1, by omega⟩
    obtain ⟨q, rfl, g2, g3, g4, g5, g6, g7⟩ := id hCh
    have hen : en (l + 1) ≤ len := by rw [← he]; exact Ch_en _ _ hCh
    obtain ⟨⟨p1, p2, p3, p4, p5, p6, p7, p8, p9⟩, -⟩ := hP q g2
    have hve : fX2_valueEnd σ (nI q) = nI (en (l + 1)) := by
      rw [fX2_valueEnd, x_at_nI (by omega) (by decide), x_at_nI (by omega) (by decide), p7, p3, nI_add, g4]
    have hX : fX2_stillOpen_4 σ (N + 1) (pI (q + 1)) (nI i) = (if at' < en (l + 1) then some (pI (q + 1)) else fX2_stillOpen_4 σ N (pI (pr q)) (nI (i + 1))) := by
      rw [fX2_stillOpen_4, show (24 : Int32) = nI 24 from rfl, q_nle (by omega) (by decide), pI_s, if_neg (nI_nm (by omega) (by decide)), hve, h37, nI_succ1, x_at_nI (by omega) (by decide), p9]
      by_cases c1 : at' < en (l + 1)
      · rw [if_pos c1, q_lt c1 (by omega)]
      · rw [if_neg c1, q_nlt (by omega) (by omega)]
    have hM : ∀ m, fX8_reads_19 (m + 1) τ (nI (l + 1)) (nI at') = (if at' = en (l + 1) then fX8_reads_19 m τ (nI l) (nI at') else fX8_reads_39 (fX8_reads_19 m) τ (nI (l + 1)) (nI at')) := by
      intro m
      rw [fX8_reads_19, if_neg (nI_nle (by omega) (by omega)), g_in (by omega) (by decide), nI_clamp (by omega), h6 (l + 1) (Nat.le_refl _), pk_m1]
      by_cases c1 : at' = en (l + 1)
      · rw [if_pos c1, q_eq (by rw [c1])]
      · rw [if_neg c1, q_ne c1 (by omega) (by omega)]
    by_cases c1 : at' < en (l + 1)
    · refine ⟨q + 1, l + 1, Nat.le_refl _, hCh, hat, fun _ => c1, by rw [hX, if_pos c1], fun m => ?_⟩
      rw [Nat.sub_self, Nat.add_zero m, hM, if_neg (by omega)]
    · obtain ⟨u', level', k1, k2, k3, k4, k5, k6⟩ := ih N (i + 1) σ τ len c at' (pr q) tg ln dp vs pr en hP hc hlen he g7 (by omega) (by omega) (by omega) (by omega) h37 (fun j hj => h6 j (by omega))
      refine ⟨u', level', by omega, k2, k3, k4, by rw [hX, if_neg c1]; exact k5, fun m => ?_⟩
      rw [show m + (l + 1 - level') + 1 = (m + (l - level') + 1) + 1 by omega, hM, if_pos (by omega), k6]
theorem and31 {b : Nat} (h : b < 256) : (nI b &&& 31) = nI (b % 32) := pk_andN (by omega) 5 rfl
theorem and32 : ∀ b, b < 256 → (((nI b &&& 32) = 0) ↔ ¬ ((nI b &&& 32) = 32)) := fun b hb => co_dec (P := fun b => ((nI b &&& 32) = 0) ↔ ¬ ((nI b &&& 32) = 32)) (N := 256) (by decide +kernel) hb
/-- a tag is read: broken at e, or the number t and the place p behind it -/
theorem tag_eq {σ τ : x_M} {E at' c level len : Nat} {by' : Nat → Nat} (hb : ∀ k, σ 2 k = nI (by' k) ∧ by' k < 256) (hτ : τ 1 = σ 2) (h37 : σ 3 7 = nI at') (h35 : σ 3 5 = nI c) (hat : at' < E) (hE : E ≤ len) (hlen : len ≤ 120) (hc : c < 24) (h02 : τ 0 2 = nI c) (h00 : τ 0 0 = nI len) (hl : level ≤ 24) (h6 : τ 6 level = nI E) :
    (∃ e σ', e ≤ 120 ∧ fX2_readTag σ (nI E) = some (false, σ') ∧ σ' 3 6 = nI e ∧ (∀ k, k ≠ 3 → σ' k = σ k) ∧ ∀ K, fX8_reads_39 K τ (nI level) (nI at') = some (nI e, τ)) ∨
    (∃ t p, at' < p ∧ p ≤ at' + 2 ∧ t < 65536 ∧ fX2_readTag σ (nI E) = some (true, up2 (up2 σ 3 7 (nI p)) 4 c (nI t)) ∧ ∀ K, fX8_reads_39 K τ (nI level) (nI at') = fX8_reads_137 K τ (nI level) (nI E) (nI (by' at')) (nI t) (nI p)) := by
  obtain ⟨b1, b2⟩ := hb at'
  obtain ⟨b3, b4⟩ := hb (at' + 1)
  have hX : fX2_readTag σ (nI E) = (if by' at' % 32 = 31 then (if at' + 1 < E then (if by' (at' + 1) < 128 then some (true, up2 (up2 σ 3 7 (nI (at' + 2))) 4 c (nI (256 * by' at' + by' (at' + 1)))) else some (false, up2 (up2 σ 3 7 (nI (at' + 1))) 3 6 (nI (at' + 1)))) else some (false, up2 (up2 σ 3 7 (nI (at' + 1))) 3 6 (nI E))) else some (true, up2 (up2 σ 3 7 (nI (at' + 1))) 4 c (nI (by' at')))) := by
    rw [fX2_readTag, h37, nI_succ1, nI_succ1, x_at_nI (by omega) (by decide), b1, and31 b2, up_up, show (256 : Int32) = nI 256 from rfl, pk_mul]
    by_cases c1 : by' at' % 32 = 31
    · rw [if_pos c1, c1, if_pos (show nI 31 = 31 from rfl)]
      by_cases c2 : at' + 1 < E
      · rw [if_pos c2, q_lt c2 (by omega), x_at_nI (by omega) (by decide), b3, nI_add, show (128 : Int32) = nI 128 from rfl]
        by_cases c3 : by' (at' + 1) < 128
        · rw [if_pos c3, q_lt c3 (by decide), fX2_readTag_94, show up2 σ 3 7 (nI (at' + 1 + 1)) 3 5 = nI c from h35, pu_nI hc (by decide)]
        · rw [if_neg c3, q_nlt (by omega) (by omega), fX2_breakAt, bind_some]
      · rw [if_neg c2, q_nlt (by omega) (by omega), fX2_breakAt, bind_some]
    · rw [if_neg c1, show (31 : Int32) = nI 31 from rfl, q_ne c1 (by omega) (by decide), fX2_readTag_94, show up2 σ 3 7 (nI (at' + 1)) 3 5 = nI c from h35, pu_nI hc (by decide)]
  have hM : ∀ K, fX8_reads_39 K τ (nI level) (nI at') = (if by' at' % 32 = 31 then (if at' + 1 < E then (if by' (at' + 1) < 128 then fX8_reads_137 K τ (nI level) (nI E) (nI (by' at')) (nI (256 * by' at' + by' (at' + 1))) (nI (at' + 2)) else some (nI (at' + 1), τ)) else some (nI E, τ)) else fX8_reads_137 K τ (nI level) (nI E) (nI (by' at')) (nI (by' at')) (nI (at' + 1))) := by
    intro K
    rw [fX8_reads_39, h00, q_ne (by omega) (by omega) (by omega), g_in (by omega) (by decide), h02, show (24 : Int32) = nI 24 from rfl, q_ne (by omega) (by omega) (by decide), g_in (by omega) (by decide), nI_clamp (by omega), nI_clamp (by omega), hτ, b1, and31 b2, nI_succ1, h6, nI_succ1, show (256 : Int32) = nI 256 from rfl, pk_mul]
    by_cases c1 : by' at' % 32 = 31
    · rw [if_pos c1, c1, if_pos (show nI 31 = 31 from rfl)]
      by_cases c2 : at' + 1 < E
      · have hi : x_inb (nI (at' + 1)) 120 = true := x_inb_nI (by omega) (by decide)
        rw [if_pos c2, q_lt c2 (by omega)]
        simp only [hi, if_true]
        rw [nI_clamp (by omega), b3, nI_add, show (127 : Int32) = nI 127 from rfl]
        by_cases c3 : by' (at' + 1) < 128
        · rw [if_pos c3, q_le (by omega) (by decide)]
        · rw [if_neg c3, q_nle (by omega) (by omega)]
      · rw [if_neg c2, q_nlt (by omega) (by omega)]
    · rw [if_neg c1, show (31 : Int32) = nI 31 from rfl, q_ne c1 (by omega) (by decide)]
  by_cases c1 : by' at' % 32 = 31
  · by_cases c2 : at' + 1 < E
    · by_cases c3 : by' (at' + 1) < 128
      · exact Or.inr ⟨256 * by' at' + by' (at' + 1), at' + 2, by omega, by omega, by omega, by rw [hX, if_pos c1, if_pos c2, if_pos c3], fun K => by rw [hM, if_pos c1, if_pos c2, if_pos c3]⟩
      · exact Or.inl ⟨at' + 1, _, by omega, by rw [hX, if_pos c1, if_pos c2, if_neg c3], rfl, fun k hk => by rw [up_n hk, up_n hk], fun K => by rw [hM, if_pos c1, if_pos c2, if_neg c3]⟩
    · exact Or.inl ⟨E, _, by omega, by rw [hX, if_pos c1, if_neg c2], rfl, fun k hk => by rw [up_n hk, up_n hk], fun K => by rw [hM, if_pos c1, if_neg c2]⟩
  · exact Or.inr ⟨by' at', at' + 1, by omega, by omega, by omega, by rw [hX, if_neg c1], fun K => by rw [hM, if_neg c1]⟩
def LenR (σ τ : x_M) (E p c level : Nat) (first t : Int32) : Prop :=
    (∃ e σ', e ≤ 120 ∧ fX2_readLength σ (nI E) = some (false, σ') ∧ σ' 3 6 = nI e ∧ (∀ k, k ≠ 3 → σ' k = σ k) ∧ ∀ K, fX8_reads_137 K τ (nI level) (nI E) first t (nI p) = some (nI e, τ)) ∨
    (∃ m p' st, p < p' ∧ p' + m ≤ E ∧ m < 256 ∧ fX2_readLength σ (nI E) = some (true, up2 (up2 σ 3 7 (nI p')) 5 c (nI m)) ∧ ∀ K, fX8_reads_137 K τ (nI level) (nI E) first t (nI p) = fX8_reads_202 K τ (nI level) (nI E) first t (nI p') st (nI m))
/-- a length is read: broken at e, or m bytes from p' on -/
theorem len_eq {σ τ : x_M} {E p c level : Nat} {by' : Nat → Nat} (first t : Int32) (hb : ∀ k, σ 2 k = nI (by' k) ∧ by' k < 256) (hτ : τ 1 = σ 2) (h37 : σ 3 7 = nI p) (h35 : σ 3 5 = nI c) (hE : E ≤ 120) (hp : p ≤ 130) (hc : c < 24) : LenR σ τ E p c level first t := by
  obtain ⟨b1, b2⟩ := hb p
  obtain ⟨b3, b4⟩ := hb (p + 1)
  have h103 : ∀ (q m : Nat), q ≤ E → m < 256 → fX2_readLength_103 (up2 σ 3 7 (nI q)) (nI E) (nI p) (nI m) = (if q + m ≤ E then some (true, up2 (up2 σ 3 7 (nI q)) 5 c (nI m)) else some (false, up2 (up2 σ 3 7 (nI q)) 3 6 (nI p))) := by
    intro q m hq hm
    rw [fX2_readLength_103, show up2 σ 3 7 (nI q) 3 7 = nI q from rfl, pk_sub hq, show up2 σ 3 7 (nI q) 3 5 = nI c from h35, pu_nI hc (by decide), fX2_breakAt, bind_some]
    by_cases c1 : q + m ≤ E
    · rw [if_pos c1, q_le (by omega) (by omega)]
    · rw [if_neg c1, q_nle (by omega) (by omega)]
  rcases Nat.lt_or_ge p E with c0 | c0
  rotate_left
  · refine Or.inl ⟨E, up2 σ 3 6 (nI E), hE, ?_, rfl, fun k hk => by rw [up_n hk], fun K => ?_⟩
    · rw [fX2_readLength, h37, q_nlt c0 (by omega), fX2_breakAt, bind_some]
    · rw [fX8_reads_137, q_nlt c0 (by omega)]
  have hX0 : fX2_readLength σ (nI E) = (if by' p = 129 then (if p + 1 < E then fX2_readLength_103 (up2 σ 3 7 (nI (p + 2))) (nI E) (nI p) (nI (by' (p + 1))) else some (false, up2 (up2 σ 3 7 (nI (p + 1))) 3 6 (nI E))) else (if by' p < 128 then fX2_readLength_103 (up2 σ 3 7 (nI (p + 1))) (nI E) (nI p) (nI (by' p)) else some (false, up2 (up2 σ 3 7 (nI (p + 1))) 3 6 (nI p)))) := by
    rw [fX2_readLength, h37, q_lt c0 (by omega), x_at_nI (by omega) (by decide), b1, nI_succ1, nI_succ1, up_up, fX2_breakAt, fX2_breakAt, bind_some, bind_some]
    by_cases c1 : by' p = 129
    · rw [if_pos c1, c1, if_pos (show nI 129 = 129 from rfl)]
      by_cases c2 : p + 1 < E
      · rw [if_pos c2, q_lt c2 (by omega), x_at_nI (by omega) (by decide), b3]
      · rw [if_neg c2, q_nlt (by omega) (by omega)]
    · rw [if_neg c1, show (129 : Int32) = nI 129 from rfl, q_ne c1 (by omega) (by decide), show (127 : Int32) = nI 127 from rfl]
      by_cases c2 : by' p < 128
      · rw [if_pos c2, q_le (by omega) (by decide)]
      · rw [if_neg c2, q_nle (by omega) (by omega)]
  have hM0 : ∀ K, fX8_reads_137 K τ (nI level) (nI E) first t (nI p) = (if by' p = 129 then (if p + 1 < E then fX8_reads_202 K τ (nI level) (nI E) first t (nI (p + 2)) (nI p) (nI (by' (p + 1))) else some (nI E, τ)) else (if by' p < 128 then fX8_reads_202 K τ (nI level) (nI E) first t (nI (p + 1)) (nI p) (nI (by' p)) else some (nI p, τ))) := by
    intro K
    rw [fX8_reads_137, q_lt c0 (by omega), g_in (by omega) (by decide), nI_clamp (by omega), hτ, b1, nI_succ1, nI_succ1]
    by_cases c1 : by' p = 129
    · rw [if_pos c1, c1, if_pos (show nI 129 = 129 from rfl)]
      by_cases c2 : p + 1 < E
      · rw [if_pos c2, q_lt c2 (by omega), g_in (by omega) (by decide), nI_clamp (by omega), b3]
      · rw [if_neg c2, q_nlt (by omega) (by omega)]
    · rw [if_neg c1, show (129 : Int32) = nI 129 from rfl, q_ne c1 (by omega) (by decide), show (127 : Int32) = nI 127 from rfl]
      by_cases c2 : by' p < 128
      · rw [if_pos c2, q_le (by omega) (by decide)]
      · rw [if_neg c2, q_nle (by omega) (by omega)]
  have fin : ∀ q m, q ≤ E → p < q → m < 256 → fX2_readLength σ (nI E) = fX2_readLength_103 (up2 σ 3 7 (nI q)) (nI E) (nI p) (nI m) → (∀ K, fX8_reads_137 K τ (nI level) (nI E) first t (nI p) = fX8_reads_202 K τ (nI level) (nI E) first t (nI q) (nI p) (nI m)) → LenR σ τ E p c level first t := by
    intro q m hq hpq hm e1 e2
    rw [h103 q m hq hm] at e1
    by_cases c3 : q + m ≤ E
    · exact Or.inr ⟨m, q, nI p, hpq, c3, hm, by rw [e1, if_pos c3], e2⟩
    · refine Or.inl ⟨p, _, by omega, by rw [e1, if_neg c3], rfl, fun k hk => by rw [up_n hk, up_n hk], fun K => ?_⟩
      rw [e2, fX8_reads_202, nI_add, q_nle (by omega) (by omega)]
  by_cases c1 : by' p = 129
  · by_cases c2 : p + 1 < E
    · exact fin (p + 2) (by' (p + 1)) (by omega) (by omega) b4 (by rw [hX0, if_pos c1, if_pos c2]) (fun K => by rw [hM0, if_pos c1, if_pos c2])
    · exact Or.inl ⟨E, _, hE, by rw [hX0, if_pos c1, if_neg c2], rfl, fun k hk => by rw [up_n hk, up_n hk], fun K => by rw [hM0, if_pos c1, if_neg c2]⟩
  · by_cases c2 : by' p < 128
    · exact fin (p + 1) (by' p) (by omega) (by omega) b2 (by rw [hX0, if_neg c1, if_pos c2]) (fun K => by rw [hM0, if_neg c1, if_pos c2])
    · exact Or.inl ⟨p, _, by omega, by rw [hX0, if_neg c1, if_neg c2], rfl, fun k hk => by rw [up_n hk, up_n hk], fun K => by rw [hM0, if_neg c1, if_neg c2]⟩
