def x_st (σ : x_M) (k : Nat) (g : Nat → Int32) : x_M := fun a => if a = k then g else σ a
theorem st_s {σ : x_M} {k : Nat} {g : Nat → Int32} : x_st σ k g k = g := by unfold x_st; rw [if_pos rfl]
theorem st_n {σ : x_M} {k a : Nat} {g : Nat → Int32} (h : a ≠ k) : x_st σ k g a = σ a := by unfold x_st; rw [if_neg h]
theorem up_st {σ : x_M} {k j : Nat} {v : Int32} : up2 σ k j v = x_st σ k (upd (σ k) j v) := rfl
theorem st_st {σ : x_M} {k : Nat} {g g' : Nat → Int32} : x_st (x_st σ k g) k g' = x_st σ k g' := by
  funext a
  by_cases h : a = k
  · subst h; rw [st_s, st_s]
  · rw [st_n h, st_n h, st_n h]
theorem st_id {σ : x_M} {k : Nat} : x_st σ k (σ k) = σ := by
  funext a
  by_cases h : a = k
  · subst h; rw [st_s]
  · rw [st_n h]
theorem st_c {σ : x_M} {k q : Nat} {g g' : Nat → Int32} (h : k ≠ q) : x_st (x_st σ k g) q g' = x_st (x_st σ q g') k g := by
  funext a
  by_cases h1 : a = q
  · subst h1; rw [st_s, st_n (Ne.symm h), st_s]
  · rw [st_n h1]
    by_cases h2 : a = k
    · subst h2; rw [st_s, st_s]
    · rw [st_n h2, st_n h2, st_n h1]
/-- a stretch is copied from another row -/
def r_cp (g : Nat → Int32) (lo hi : Nat) (f : Nat → Int32) (base off : Nat) : Nat → Int32 := fun j => if lo ≤ j ∧ j < hi then f (off + (j - base)) else g j
theorem r_cp0 {g f : Nat → Int32} {lo hi base off : Nat} (h : hi ≤ lo) : r_cp g lo hi f base off = g := by
  funext j
  unfold r_cp
  rw [if_neg (by omega)]
theorem r_cps {g f : Nat → Int32} {lo hi base off : Nat} (h : lo < hi) : r_cp (upd g lo (f (off + (lo - base)))) (lo + 1) hi f base off = r_cp g lo hi f base off := by
  funext j
  unfold r_cp
  by_cases e : j = lo
  · subst e; rw [if_neg (by omega), if_pos (by omega), upd_s]
  · by_cases c : lo ≤ j ∧ j < hi
    · rw [if_pos (by omega), if_pos c]
    · rw [if_neg (by omega), if_neg c, upd_n e]
/-- a stretch is shifted down by d -/
def r_sh (g : Nat → Int32) (lo hi d : Nat) : Nat → Int32 := fun j => if lo ≤ j ∧ j < hi then g (j + d) else g j
theorem r_sh0 {g : Nat → Int32} {lo hi d : Nat} (h : hi ≤ lo) : r_sh g lo hi d = g := by
  funext j
  unfold r_sh
  rw [if_neg (by omega)]
theorem r_shs {g : Nat → Int32} {lo hi d : Nat} (h : lo < hi) (hd : 0 < d) : r_sh (upd g lo (g (lo + d))) (lo + 1) hi d = r_sh g lo hi d := by
  funext j
  unfold r_sh
  by_cases e : j = lo
  · subst e; rw [if_neg (by omega), if_pos (by omega), upd_s]
  · by_cases c : lo ≤ j ∧ j < hi
    · rw [if_pos (by omega), if_pos c, upd_n (by omega)]
    · rw [if_neg (by omega), if_neg c, upd_n e]
theorem r_shj {g : Nat → Int32} {lo mid hi d : Nat} (h : lo ≤ mid) (h2 : mid ≤ hi) : r_sh (r_sh g lo mid d) mid hi d = r_sh g lo hi d := by
  funext j
  unfold r_sh
  by_cases c : mid ≤ j ∧ j < hi
  · rw [if_pos c, if_neg (by omega), if_pos (by omega)]
  · rw [if_neg c]
    by_cases c2 : lo ≤ j ∧ j < mid
    · rw [if_pos c2, if_pos (by omega)]
    · rw [if_neg c2, if_neg (by omega)]
/-! the class's identifier lists -/
theorem add16_loop : ∀ (n : Nat) (σ : x_M) (off L i c : Nat), i ≤ L → L - i < n → L ≤ 16 → off + L ≤ 120 → c < 6 → σ 16 1 = nI c → fX3_add_16_19 n σ (nI off) (nI L) (nI i) = some (up2 (up2 (x_st σ 18 (r_cp (σ 18) (c * 16 + i) (c * 16 + L) (σ 2) (c * 16) off)) 17 c (nI L)) 16 1 (nI (c + 1))) := by
  intro n
  induction n with
  | zero => intro σ off L i c h1 h2; omega
  | succ n ih =>
    intro σ off L i c h1 h2 h3 h4 h5 h6
    rw [fX3_add_16_19]
    rcases Nat.lt_or_ge i L with h | h
    · rw [q_nle h (by omega), h6, show (16 : Int32) = nI 16 from rfl, pk_mul, nI_add, nI_add, x_at_nI (by omega) (by decide), pu_nI (by omega) (by decide), nI_succ1]
      rw [ih (up2 σ 18 (c * 16 + i) (σ 2 (off + i))) off L (i + 1) c h (by omega) h3 h4 h5 h6]
      show some (up2 (up2 (x_st (up2 σ 18 (c * 16 + i) (σ 2 (off + i))) 18 (r_cp (upd (σ 18) (c * 16 + i) (σ 2 (off + i))) (c * 16 + (i + 1)) (c * 16 + L) (σ 2) (c * 16) off)) 17 c (nI L)) 16 1 (nI (c + 1))) = _
      have e : off + i = off + (c * 16 + i - c * 16) := by omega
      rw [e, ← Nat.add_assoc, r_cps (by omega), up_st (k := 18), st_st]
    · have e : i = L := by omega
      subst e
      rw [q_le (Nat.le_refl _) (by omega), h6, pu_nI (by omega) (by decide), nI_succ1, r_cp0 (Nat.le_refl _), st_id]
theorem addm_loop : ∀ (n : Nat) (τ : x_M) (b : Bool) (L i c : Nat), i ≤ L → L - i < n → L ≤ 16 → c < 5 → τ 0 0 = nI L → τ 0 16 = nI c → fX8_addIdentifier_29 n τ b (nI i) = some (nI (c + 1), up2 (up2 (up2 (x_st τ 12 (r_cp (τ 12) (c * 16 + i) (c * 16 + L) (τ 1) (c * 16) 0)) 13 c (nI L)) 14 c (b2i b)) 0 16 (nI (c + 1))) := by
  intro n
  induction n with
  | zero => intro τ b L i c h1 h2; omega
  | succ n ih =>
    intro τ b L i c h1 h2 h3 h4 h5 h6
    rw [fX8_addIdentifier_29, h5]
    rcases Nat.lt_or_ge i L with h | h
    · rw [q_nle h (by omega), h6, show (16 : Int32) = nI 16 from rfl, pk_mul, nI_add, g_in (by omega) (by decide), g_in (by omega) (by decide), nI_clamp (by omega), nI_clamp (by omega), nI_succ1]
      rw [ih (up2 τ 12 (16 * c + i) (τ 1 i)) b L (i + 1) c h (by omega) h3 h4 h5 h6]
      show some (nI (c + 1), up2 (up2 (up2 (x_st (up2 τ 12 (16 * c + i) (τ 1 i)) 12 (r_cp (upd (τ 12) (16 * c + i) (τ 1 i)) (c * 16 + (i + 1)) (c * 16 + L) (τ 1) (c * 16) 0)) 13 c (nI L)) 14 c (b2i b)) 0 16 (nI (c + 1))) = _
      have e : τ 1 i = τ 1 (0 + (c * 16 + i - c * 16)) := by rw [show 0 + (c * 16 + i - c * 16) = i by omega]
      rw [e, ← Nat.add_assoc, show 16 * c + i = c * 16 + i by omega, r_cps (by omega), up_st (k := 12), st_st]
    · have e : i = L := by omega
      subst e
      rw [q_le (Nat.le_refl _) (by omega), h6, g_in (by omega) (by decide), r_cp0 (Nat.le_refl _), st_id, nI_clamp (by omega)]
      cases b
      · rw [if_pos b2i_f, fX8_addIdentifier_93, g_in (by omega) (by decide), nI_clamp (by omega), show up2 τ 13 c (nI i) 0 16 = nI c from h6, nI_succ1]; rfl
      · rw [if_neg b2i_t0, fX8_addIdentifier_93, g_in (by omega) (by decide), nI_clamp (by omega), show up2 τ 13 c (nI i) 0 16 = nI c from h6, nI_succ1]; rfl
theorem o_addIdentifier {σ τ : x_M} (h : Sim σ τ) (p : Bool) : Opp (fX7_addIdentifier σ p) (fX8_addIdentifier τ p) := by
  obtain ⟨⟨a1, a2, ⟨L, hL, eL⟩, a4⟩, h2, h3, ⟨b1, b2, b3, b4, ⟨c, hc, ec⟩, b6⟩, h5, h6⟩ := id h
  rw [fX7_addIdentifier, fX8_addIdentifier, a1, b1]
  by_cases p1 : σ 1 1 < 5
  · rw [if_pos p1, in_f1 p1, if_pos b2i_f]; exact Opp.mk h
  rw [if_neg p1]
  by_cases p2 : σ 1 1 ≤ 16
  rotate_left
  · rw [if_neg p2, in_f2 (i_nle.mp p2), if_pos b2i_f]; exact Opp.mk h
  rw [if_pos p2, in_t (i_nlt.mp p1) p2, if_neg b2i_t0, ec]
  have l16 : L ≤ 16 := by
    rw [eL, show (16 : Int32) = nI 16 from rfl] at p2
    exact (nI_leI (by omega) (by decide)).mp p2
  rcases Nat.lt_or_ge c 5 with c5 | c5
  rotate_left
  · have e : c = 5 := by omega
    subst e
    rw [show (5 : Int32) = nI 5 from rfl, q_nlt (Nat.le_refl _) (by decide), q_eq rfl]
    exact Opp.mk h
  rw [show (5 : Int32) = nI 5 from rfl, q_lt c5 (by decide), q_ne (by omega) (by omega) (by decide), show (0 : Int32) = nI 0 from rfl, addm_loop x_fuel τ p L 0 c (by omega) (by rw [xf3]; omega) l16 c5 (by rw [a1, eL]) (by rw [b1, ec])]
  have hx : fX5_support σ p = some (up2 (up2 (x_st (up2 σ 20 c (b2i p)) 18 (r_cp (σ 18) (c * 16 + 0) (c * 16 + L) (σ 2) (c * 16) 0)) 17 c (nI L)) 16 1 (nI (c + 1))) := by
    have : ∀ w, fX5_support_20 σ (nI c) w = some (up2 (up2 (x_st (up2 σ 20 c w) 18 (r_cp (σ 18) (c * 16 + 0) (c * 16 + L) (σ 2) (c * 16) 0)) 17 c (nI L)) 16 1 (nI (c + 1))) := by
      intro w
      rw [fX5_support_20, pu_nI (by omega) (by decide), bind_id, fX3_add_16, eL, show up2 σ 20 c w 16 1 = nI c from ec, show (6 : Int32) = nI 6 from rfl, q_nle (by omega) (by decide), show (16 : Int32) = nI 16 from rfl, q_le l16 (by decide), show (0 : Int32) = nI 0 from rfl, add16_loop x_fuel (up2 σ 20 c w) 0 L 0 c (by omega) (by rw [xf3]; omega) l16 (by omega) (by omega) ec]
      rfl
    rw [fX5_support, ec, this, this]
    cases p <;> rfl
  rw [hx, bind_some]
  refine Opp.mk ⟨⟨a1, a2, ⟨L, hL, eL⟩, a4⟩, h2, h3, ⟨rfl, ?_, ?_, ?_, ⟨c + 1, by omega, rfl⟩, fun k => ?_⟩, h5, h6⟩
  · show upd (τ 13) c (nI L) = upd (σ 17) c (nI L); rw [b2]
  · show r_cp (τ 12) _ _ (τ 1) _ _ = r_cp (σ 18) _ _ (σ 2) _ _; rw [b3, a2]
  · show upd (τ 14) c (b2i p) = upd (σ 20) c (b2i p); rw [b4]
  · show ∃ b, b ≤ 16 ∧ upd (σ 17) c (nI L) k = nI b
    by_cases e : k = c
    · subst e; exact ⟨L, l16, upd_s⟩
    · rw [upd_n e]; exact b6 k
theorem copyd_loop : ∀ (n : Nat) (σ : x_M) (i j : Nat), j ≤ 16 → 16 - j < n → i < 5 → fX3_copyDown_16_20 n σ (nI i) (nI j) = some (x_st σ 18 (r_sh (σ 18) (i * 16 + j) (i * 16 + 16) 16)) := by
  intro n
  induction n with
  | zero => intro σ i j h1 h2; omega
  | succ n ih =>
    intro σ i j h1 h2 h3
    rw [fX3_copyDown_16_20, show (16 : Int32) = nI 16 from rfl]
    rcases Nat.lt_or_ge j 16 with h | h
    · rw [q_nle h (by decide), pk_mul, nI_add, nI_succ1, nI_succ1, fX3_valueAt_16, show (16 : Int32) = nI 16 from rfl, pk_mul, nI_add, x_at_nI (by omega) (by decide), pu_nI (by omega) (by decide), ih _ i (j + 1) h (by omega) h3]
      show some (x_st (up2 σ 18 (i * 16 + j) (σ 18 ((i + 1) * 16 + j))) 18 (r_sh (upd (σ 18) (i * 16 + j) (σ 18 ((i + 1) * 16 + j))) (i * 16 + (j + 1)) (i * 16 + 16) 16)) = _
      rw [show (i + 1) * 16 + j = i * 16 + j + 16 by omega, ← Nat.add_assoc, r_shs (by omega) (by decide), up_st, st_st]
    · have e : j = 16 := by omega
      subst e
      rw [q_le (Nat.le_refl _) (by decide), r_sh0 (Nat.le_refl _), st_id]
theorem drop_loop : ∀ (n : Nat) (σ : x_M) (i N : Nat), i ≤ N → N - i < n → N < 5 → σ 16 1 = nI (N + 1) → fX3_drop_16_15 n σ (nI i) = some (up2 (x_st (x_st σ 17 (r_sh (σ 17) i N 1)) 18 (r_sh (σ 18) (i * 16) (N * 16) 16)) 16 1 (nI N)) := by
  intro n
  induction n with
  | zero => intro σ i N h1 h2; omega
  | succ n ih =>
    intro σ i N h1 h2 h3 h4
    rw [fX3_drop_16_15, h4, nI_pred1 (by omega), Nat.add_sub_cancel]
    rcases Nat.lt_or_ge i N with h | h
    · rw [q_nle h (by omega), fX3_copyDown_16, nI_succ1, x_at_nI (by omega) (by decide), pu_nI (by omega) (by decide), show (0 : Int32) = nI 0 from rfl, copyd_loop x_fuel _ i 0 (by omega) (by rw [xf3]; omega) (by omega), bind_some, ih (x_st (up2 σ 17 i (σ 17 (i + 1))) 18 (r_sh (up2 σ 17 i (σ 17 (i + 1)) 18) (i * 16 + 0) (i * 16 + 16) 16)) (i + 1) N h (by omega) h3 h4]
      show some (up2 (x_st (x_st (x_st (up2 σ 17 i (σ 17 (i + 1))) 18 (r_sh (σ 18) (i * 16 + 0) (i * 16 + 16) 16)) 17 (r_sh (upd (σ 17) i (σ 17 (i + 1))) (i + 1) N 1)) 18 (r_sh (r_sh (σ 18) (i * 16 + 0) (i * 16 + 16) 16) ((i + 1) * 16) (N * 16) 16)) 16 1 (nI N)) = _
      rw [r_shs h (by decide), show (i + 1) * 16 = i * 16 + 16 by omega, Nat.add_zero, r_shj (by omega) (by omega), up_st (k := 17), st_c (k := 18) (q := 17) (by decide), st_st, st_st]
      rfl
    · have e : i = N := by omega
      subst e
      rw [q_le (Nat.le_refl _) (by omega), r_sh0 (Nat.le_refl _), r_sh0 (Nat.le_refl _), st_id, st_id]
theorem dropS_loop : ∀ (n : Nat) (σ : x_M) (x i N : Nat), i ≤ N → x ≤ N → N - i < n → N < 5 → σ 16 1 = nI (N + 1) → fX5_dropSupport_2 n σ (nI x) (nI i) = some (up2 (x_st (x_st (x_st σ 20 (r_sh (σ 20) i N 1)) 17 (r_sh (σ 17) x N 1)) 18 (r_sh (σ 18) (x * 16) (N * 16) 16)) 16 1 (nI N)) := by
  intro n
  induction n with
  | zero => intro σ x i N h1 h2 h3; omega
  | succ n ih =>
    intro σ x i N h1 hx h2 h3 h4
    rw [fX5_dropSupport_2, h4, nI_pred1 (by omega), Nat.add_sub_cancel]
    rcases Nat.lt_or_ge i N with h | h
    · rw [q_nle h (by omega), nI_succ1, x_at_nI (by omega) (by decide), pu_nI (by omega) (by decide), ih (up2 σ 20 i (σ 20 (i + 1))) x (i + 1) N h hx (by omega) h3 h4]
      show some (up2 (x_st (x_st (x_st (up2 σ 20 i (σ 20 (i + 1))) 20 (r_sh (upd (σ 20) i (σ 20 (i + 1))) (i + 1) N 1)) 17 (r_sh (σ 17) x N 1)) 18 (r_sh (σ 18) (x * 16) (N * 16) 16)) 16 1 (nI N)) = _
      rw [r_shs h (by decide), up_st (k := 20), st_st]
    · have e : i = N := by omega
      subst e
      rw [q_le (Nat.le_refl _) (by omega), bind_id, fX3_drop_16, if_neg (nI_pos (by omega)), h4, q_lt (by omega) (by omega), drop_loop x_fuel σ x i hx (by rw [xf3]; omega) h3 h4, r_sh0 (g := σ 20) (Nat.le_refl _), st_id]
theorem rmm_in : ∀ (K : x_M → Int32 → Option (Int32 × x_M)) (n : Nat) (τ : x_M) (i j : Nat), j ≤ 16 → 16 - j < n → i < 4 → fX8_removeIdentifier_38 K n τ (nI i) (nI j) = K (up2 (up2 (x_st τ 12 (r_sh (τ 12) (i * 16 + j) (i * 16 + 16) 16)) 13 i (τ 13 (i + 1))) 14 i (τ 14 (i + 1))) (nI (i + 1)) := by
  intro K n
  induction n with
  | zero => intro τ i j h1 h2; omega
  | succ n ih =>
    intro τ i j h1 h2 h3
    rw [fX8_removeIdentifier_38, show (16 : Int32) = nI 16 from rfl]
    rcases Nat.lt_or_ge j 16 with h | h
    · rw [q_nle h (by decide), pk_mul, nI_add, nI_add, nI_add, nI_succ1, g_in (by omega) (by decide), g_in (by omega) (by decide), nI_clamp (by omega), nI_clamp (by omega), ih _ i (j + 1) h (by omega) h3]
      show K (up2 (up2 (x_st (up2 τ 12 (16 * i + j) (τ 12 (16 * i + 16 + j))) 12 (r_sh (upd (τ 12) (16 * i + j) (τ 12 (16 * i + 16 + j))) (i * 16 + (j + 1)) (i * 16 + 16) 16)) 13 i (τ 13 (i + 1))) 14 i (τ 14 (i + 1))) (nI (i + 1)) = _
      rw [show 16 * i + 16 + j = i * 16 + j + 16 by omega, show 16 * i + j = i * 16 + j by omega, ← Nat.add_assoc, r_shs (by omega) (by decide), up_st (k := 12), st_st]
    · have e : j = 16 := by omega
      subst e
      rw [q_le (Nat.le_refl _) (by decide), nI_succ1, g_in (by omega) (by decide), g_in (by omega) (by decide), g_in (by omega) (by decide), g_in (by omega) (by decide), r_sh0 (Nat.le_refl _), st_id, nI_clamp (by omega), nI_clamp (by omega)]
theorem rmm_loop : ∀ (n : Nat) (τ : x_M) (i N : Nat), i ≤ N → N - i < n → N < 5 → τ 0 16 = nI N → fX8_removeIdentifier_28 n τ (nI i) = some (nI N, x_st (x_st (x_st τ 12 (r_sh (τ 12) (i * 16) (N * 16) 16)) 13 (r_sh (τ 13) i N 1)) 14 (r_sh (τ 14) i N 1)) := by
  intro n
  induction n with
  | zero => intro τ i N h1 h2; omega
  | succ n ih =>
    intro τ i N h1 h2 h3 h4
    rw [fX8_removeIdentifier_28, h4]
    rcases Nat.lt_or_ge i N with h | h
    · rw [q_nle h (by omega), show (0 : Int32) = nI 0 from rfl, rmm_in _ x_fuel τ i 0 (by omega) (by rw [xf3]; omega) (by omega), ih (up2 (up2 (x_st τ 12 (r_sh (τ 12) (i * 16 + 0) (i * 16 + 16) 16)) 13 i (τ 13 (i + 1))) 14 i (τ 14 (i + 1))) (i + 1) N h (by omega) h3 h4]
      show some (nI N, x_st (x_st (x_st (up2 (up2 (x_st τ 12 (r_sh (τ 12) (i * 16 + 0) (i * 16 + 16) 16)) 13 i (τ 13 (i + 1))) 14 i (τ 14 (i + 1))) 12 (r_sh (r_sh (τ 12) (i * 16 + 0) (i * 16 + 16) 16) ((i + 1) * 16) (N * 16) 16)) 13 (r_sh (upd (τ 13) i (τ 13 (i + 1))) (i + 1) N 1)) 14 (r_sh (upd (τ 14) i (τ 14 (i + 1))) (i + 1) N 1)) = _
      rw [r_shs h (by decide), r_shs h (by decide), show (i + 1) * 16 = i * 16 + 16 by omega, Nat.add_zero, r_shj (by omega) (by omega), up_st (k := 14), up_st (k := 13)]
      rw [st_c (k := 14) (q := 12) (by decide), st_c (k := 13) (q := 12) (by decide), st_st, st_c (k := 14) (q := 13) (by decide), st_st, st_st]
    · have e : i = N := by omega
      subst e
      rw [q_le (Nat.le_refl _) (by omega), r_sh0 (Nat.le_refl _), r_sh0 (Nat.le_refl _), r_sh0 (Nat.le_refl _), st_id, st_id, st_id]
theorem o_removeIdentifier {σ τ : x_M} (h : Sim σ τ) (p : Int32) : Opp (fX7_removeIdentifier σ p) (fX8_removeIdentifier τ p) := by
  obtain ⟨h1, h2, h3, ⟨b1, b2, b3, b4, ⟨c, hc, ec⟩, b6⟩, h5, h6⟩ := id h
  rw [fX7_removeIdentifier, fX8_removeIdentifier, b1, ec]
  by_cases p1 : p < 0
  · rw [if_pos p1, in_f1 p1, if_pos b2i_f]; exact Opp.mk h
  rw [if_neg p1]
  obtain ⟨k, hk, rfl⟩ := nI_of p1
  rcases Nat.lt_or_ge k c with kc | kc
  rotate_left
  · rw [q_nlt kc hk]
    have : fX8_in (nI k) 0 (nI c - 1) = false := by
      refine in_f2 ?_
      cases c with
      | zero => rw [i_lt, nI_toInt hk]; show (-1 : Int) < k; omega
      | succ c => rw [nI_pred]; exact nI_lt (by omega) hk
    rw [this, if_pos b2i_f]; exact Opp.mk h
  obtain ⟨N, rfl⟩ : ∃ N, c = N + 1 := ⟨c - 1, by omega⟩
  rw [q_lt kc (by omega), nI_pred, in_t (nI_pos' hk) (nI_le (by omega) (by omega)), if_neg b2i_t0, fX5_dropSupport, dropS_loop x_fuel σ k k N (by omega) (by omega) (by rw [xf3]; omega) (by omega) ec, bind_some, rmm_loop x_fuel _ k N (by omega) (by rw [xf3]; omega) (by omega) (by rw [up_s, upd_s])]
  refine Opp.mk ⟨h1, h2, h3, ⟨rfl, ?_, ?_, ?_, ⟨N, by omega, rfl⟩, fun j => ?_⟩, h5, h6⟩
  · show r_sh (τ 13) k N 1 = r_sh (σ 17) k N 1; rw [b2]
  · show r_sh (τ 12) _ _ 16 = r_sh (σ 18) _ _ 16; rw [b3]
  · show r_sh (τ 14) k N 1 = r_sh (σ 20) k N 1; rw [b4]
  · show ∃ b, b ≤ 16 ∧ r_sh (σ 17) k N 1 j = nI b
    unfold r_sh
    by_cases e : k ≤ j ∧ j < N
    · rw [if_pos e]; exact b6 _
    · rw [if_neg e]; exact b6 _
