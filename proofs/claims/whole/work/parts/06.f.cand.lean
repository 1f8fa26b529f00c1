/-- what the two candidate searches read -/
def SE (σ τ : x_M) : Prop := τ 0 16 = σ 16 1 ∧ τ 8 = σ 11 ∧ τ 7 = σ 12 ∧ τ 13 = σ 17 ∧ τ 12 = σ 18 ∧ τ 14 = σ 20 ∧ (∃ k, k ≤ 5 ∧ σ 16 1 = nI k) ∧ ∀ k, ∃ b, b ≤ 16 ∧ σ 17 k = nI b
theorem bw_loop : ∀ (n : Nat) (σ : x_M) (a i L j : Nat), a < 6 → i < 6 → L ≤ 16 → j ≤ L → L - j < n → ∃ b : Bool, fX3_beginsWith_10_28 σ n (nI a) (nI i) (nI L) (nI j) = some b ∧ (b = true ↔ ∀ k, j ≤ k → k < L → σ 12 (16 * a + k) = σ 18 (16 * i + k)) := by
  intro n
  induction n with
  | zero => intro σ a i L j h1 h2 h3 h4 h5; omega
  | succ n ih =>
    intro σ a i L j h1 h2 h3 h4 h5
    rw [fX3_beginsWith_10_28]
    rcases Nat.lt_or_ge j L with h | h
    · rw [q_nle h (by omega), fX3_valueAt_10, fX3_valueAt_16, show (16 : Int32) = nI 16 from rfl, pk_mul, pk_mul, nI_add, nI_add, x_at_nI (by omega) (by decide), x_at_nI (by omega) (by decide), nI_succ1, Nat.mul_comm a 16, Nat.mul_comm i 16]
      by_cases c : σ 12 (16 * a + j) = σ 18 (16 * i + j)
      · rw [if_pos c]
        obtain ⟨b, e1, e2⟩ := ih σ a i L (j + 1) h1 h2 h3 h (by omega)
        refine ⟨b, e1, e2.trans ⟨fun q k k1 k2 => ?_, fun q k k1 k2 => q k (by omega) k2⟩⟩
        by_cases e : k = j
        · subst e; exact c
        · exact q k (by omega) k2
      · rw [if_neg c]
        exact ⟨false, rfl, ⟨fun q => (by cases q), fun q => absurd (q j (Nat.le_refl _) h) c⟩⟩
    · rw [q_le h (by omega)]
      exact ⟨true, rfl, ⟨fun _ k k1 k2 => by omega, fun _ => rfl⟩⟩
theorem is_loop : ∀ (n : Nat) (τ : x_M) (K : Int32 → Int32 → Option Bool) (a i L j : Nat) (z : Bool), a < 6 → i < 5 → L ≤ 16 → j ≤ L → L - j < n → τ 13 i = nI L → ∃ b : Bool, fX8_isSupported_67 τ K n (nI a) (nI i) (b2i z) (nI j) = (if b = true then some true else K (nI a) (nI (i + 1))) ∧ (b = true ↔ z = true ∧ ∀ k, j ≤ k → k < L → τ 7 (16 * a + k) = τ 12 (16 * i + k)) := by
  intro n
  induction n with
  | zero => intro τ K a i L j z h1 h2 h3 h4 h5; omega
  | succ n ih =>
    intro τ K a i L j z h1 h2 h3 h4 h5 h6
    rw [fX8_isSupported_67, g_in (by omega) (by decide), nI_clamp (by omega), h6]
    have e121 : fX8_isSupported_121 τ K (nI a) (nI i) (b2i z) = (if z = true then some true else K (nI a) (nI (i + 1))) := by
      rw [fX8_isSupported_121, nI_succ1]
      cases z <;> rfl
    rcases Nat.lt_or_ge j L with h | h
    · rw [q_nle h (by omega)]
      cases z
      · rw [if_pos b2i_f, e121]
        exact ⟨false, rfl, ⟨fun q => (by cases q), fun q => (by cases q.1)⟩⟩
      · rw [if_neg b2i_t0, show (16 : Int32) = nI 16 from rfl, pk_mul, pk_mul, nI_add, nI_add, g_in (by omega) (by decide), g_in (by omega) (by decide), nI_clamp (by omega), nI_clamp (by omega), nI_succ1]
        by_cases c : τ 7 (16 * a + j) = τ 12 (16 * i + j)
        · rw [if_pos c]
          obtain ⟨b, e1, e2⟩ := ih τ K a i L (j + 1) true h1 h2 h3 h (by omega) h6
          refine ⟨b, e1, e2.trans ⟨fun q => ⟨rfl, fun k k1 k2 => ?_⟩, fun q => ⟨rfl, fun k k1 k2 => q.2 k (by omega) k2⟩⟩⟩
          by_cases e : k = j
          · subst e; exact c
          · exact q.2 k (by omega) k2
        · rw [if_neg c]
          obtain ⟨b, e1, e2⟩ := ih τ K a i L (j + 1) false h1 h2 h3 h (by omega) h6
          refine ⟨b, e1, e2.trans ⟨fun q => (by cases q.1), fun q => absurd (q.2 j (Nat.le_refl _) h) c⟩⟩
    · rw [q_le h (by omega), e121]
      exact ⟨z, rfl, ⟨fun q => ⟨q, fun k k1 k2 => by omega⟩, fun q => q.1⟩⟩
theorem sup_loop : ∀ (n m : Nat) (σ τ : x_M) (a i c : Nat), SE σ τ → a < 6 → i ≤ c → c ≤ 5 → σ 16 1 = nI c → c - i < n → c - i < m → ∃ b : Bool, fX5_supports_2 σ n (nI a) (nI i) = some b ∧ fX8_isSupported_2 τ m (nI a) (nI i) = some b := by
  intro n
  induction n with
  | zero => intro m σ τ a i c h0 h1 h2 h3 h4 h5; omega
  | succ n ih =>
    intro m σ τ a i c h0 h1 h2 h3 h4 h5 h6
    obtain ⟨m, rfl⟩ : ∃ m', m = m' + 1 := ⟨m - 1, by omega⟩
    obtain ⟨e1, e2, e3, e4, e5, e6, e7, e8⟩ := id h0
    rw [fX5_supports_2, fX8_isSupported_2, e1, h4]
    rcases Nat.lt_or_ge i c with h | h
    rotate_left
    · rw [q_le h (by omega), q_le h (by omega)]
      exact ⟨false, rfl, rfl⟩
    have hA : x_inb (nI a) 6 = true := x_inb_nI h1 (by decide)
    have hI : x_inb (nI i) 5 = true := x_inb_nI (by omega) (by decide)
    rw [q_nle h (by omega), q_nle h (by omega)]
    simp only [hA, hI, if_true]
    rw [x_at_nI (by omega) (by decide), nI_clamp (by omega), nI_clamp (by omega), e6, e2, e4, nI_succ1]
    obtain ⟨L, hL, eL⟩ := e8 i
    obtain ⟨bx, q1, q2⟩ := bw_loop x_fuel σ a i L 0 h1 (by omega) hL (by omega) (by rw [xf3]; omega)
    obtain ⟨r, hr1, hr2⟩ := ih m σ τ a (i + 1) c h0 h1 h h3 h4 (by omega) (by omega)
    have hbw : fX3_beginsWith_10 σ (nI a) (nI i) = (if nI L ≤ σ 11 a then some bx else some false) := by
      rw [fX3_beginsWith_10, x_at_nI (by omega) (by decide), x_at_nI (by omega) (by decide), eL, show (0 : Int32) = nI 0 from rfl, q1]
    have hin : ∀ z : Bool, fX8_isSupported_67 τ (fX8_isSupported_2 τ m) x_fuel (nI a) (nI i) (b2i z) (nI 0) = (if (z && bx) = true then some true else some r) := by
      intro z
      obtain ⟨b, k1, k2⟩ := is_loop x_fuel τ (fX8_isSupported_2 τ m) a i L 0 z h1 (by omega) hL (by omega) (by rw [xf3]; omega) (by rw [e4, eL])
      rw [k1, hr2]
      have : b = (z && bx) := by
        rw [e3, e5] at k2
        rw [Bool.eq_iff_iff, k2, Bool.and_eq_true, q2]
      rw [this]
    have hin0 := hin false
    have hin1 := hin true
    rw [b2i_f, show (nI 0) = (0 : Int32) from rfl] at hin0
    rw [b2i_t, show (nI 0) = (0 : Int32) from rfl] at hin1
    rw [hbw, hin0, hin1, hr1, eL, fX5_sameLength, x_at_nI (by omega) (by decide), x_at_nI (by omega) (by decide), eL]
    by_cases c1 : σ 20 i = 1
    · rw [if_pos c1, if_pos c1]
      by_cases c2 : nI L ≤ σ 11 a
      · rw [if_pos c2, if_neg (i_nlt.mpr c2), bind_some]
        cases bx
        · exact ⟨r, rfl, rfl⟩
        · exact ⟨true, rfl, rfl⟩
      · rw [if_neg c2, if_pos (i_nle.mp c2), bind_some]
        exact ⟨r, rfl, rfl⟩
    · rw [if_neg c1, if_neg c1]
      by_cases c3 : σ 11 a = nI L
      · rw [if_pos c3, if_pos c3, if_pos (by rw [c3]; exact nI_le (Nat.le_refl _) (by omega)), bind_some]
        cases bx
        · exact ⟨r, rfl, rfl⟩
        · exact ⟨true, rfl, rfl⟩
      · rw [if_neg c3, if_neg c3]
        by_cases c2 : nI L ≤ σ 11 a
        · rw [if_pos c2, bind_some]
          cases bx
          · exact ⟨r, rfl, rfl⟩
          · exact ⟨r, rfl, rfl⟩
        · rw [if_neg c2, bind_some]
          exact ⟨r, rfl, rfl⟩
theorem sup_eq {σ τ : x_M} (h : SE σ τ) {a : Nat} (ha : a < 6) : ∃ b : Bool, fX5_supports σ (nI a) = some b ∧ fX8_isSupported τ (nI a) = some b := by
  obtain ⟨c, hc, ec⟩ := h.2.2.2.2.2.2.1
  rw [fX5_supports, fX8_isSupported]
  exact sup_loop x_fuel x_fuel σ τ a 0 c h ha (Nat.zero_le _) hc ec (by rw [xf3]; omega) (by rw [xf3]; omega)
/-! counting -/
def cnt (P : Nat → Bool) : Nat → Nat
  | 0 => 0
  | k + 1 => cnt P k + (if P k = true then 1 else 0)
theorem cnt_le {P Q : Nat → Bool} : ∀ (n : Nat), (∀ k, k < n → P k = true → Q k = true) → cnt P n ≤ cnt Q n := by
  intro n
  induction n with
  | zero => intro _; exact Nat.le_refl _
  | succ n ih =>
    intro h
    have h1 := ih (fun k hk => h k (by omega))
    have h2 := h n (by omega)
    rw [cnt, cnt]
    by_cases c : P n = true
    · rw [if_pos c, if_pos (h2 c)]; omega
    · rw [if_neg c]
      by_cases c2 : Q n = true
      · rw [if_pos c2]; omega
      · rw [if_neg c2]; omega
theorem cnt_eq {P Q : Nat → Bool} (n : Nat) (h : ∀ k, k < n → P k = Q k) : cnt P n = cnt Q n :=
  Nat.le_antisymm (cnt_le n (fun k hk e => by rw [← h k hk]; exact e)) (cnt_le n (fun k hk e => by rw [h k hk]; exact e))
theorem cnt_one {P Q : Nat → Bool} : ∀ (n a : Nat), a < n → P a = false → Q a = true → (∀ k, k < n → k ≠ a → P k = Q k) → cnt Q n = cnt P n + 1 := by
  intro n
  induction n with
  | zero => intro a h; omega
  | succ n ih =>
    intro a h hp hq he
    rw [cnt, cnt]
    by_cases c : a = n
    · subst c
      rw [hp, hq, cnt_eq a (fun k hk => he k (by omega) (by omega)), if_pos rfl, if_neg (by decide)]
    · rw [ih a (by omega) hp hq (fun k hk hk2 => he k (by omega) hk2), he n (by omega) (by omega)]
      omega
theorem cnt_lt {P Q : Nat → Bool} {n a : Nat} (ha : a < n) (hp : P a = false) (hq : Q a = true) (h : ∀ k, k < n → P k = true → Q k = true) : cnt P n < cnt Q n := by
  have h1 : cnt (fun k => if k = a then false else Q k) n + 1 = cnt Q n := (cnt_one n a ha (if_pos rfl) hq (fun k _ hk2 => if_neg hk2)).symm
  have h2 : cnt P n ≤ cnt (fun k => if k = a then false else Q k) n := cnt_le n (fun k hk e => by
    show (if k = a then false else Q k) = true
    by_cases c : k = a
    · subst c; rw [hp] at e; cases e
    · rw [if_neg c]; exact h k hk e)
  omega
theorem cnt_n (P : Nat → Bool) : ∀ n, cnt P n ≤ n := by
  intro n
  induction n with
  | zero => exact Nat.le_refl _
  | succ n ih => rw [cnt]; by_cases c : P n = true <;> simp only [c] <;> simp <;> omega
/-- how many candidates stand before the place (r, a) -/
def c_ps (C : Nat → Bool) (R : Nat → Nat) (n r a : Nat) : Nat := cnt (fun o => C o && (decide (R o < r) || (decide (R o = r) && decide (o < a)))) n
theorem c_in {C : Nat → Bool} {R : Nat → Nat} {r a o : Nat} : (C o && (decide (R o < r) || (decide (R o = r) && decide (o < a)))) = true ↔ C o = true ∧ (R o < r ∨ R o = r ∧ o < a) := by
  rw [Bool.and_eq_true, Bool.or_eq_true, Bool.and_eq_true, decide_eq_true_eq, decide_eq_true_eq, decide_eq_true_eq]
theorem c_lt {C : Nat → Bool} {R : Nat → Nat} {n a b : Nat} (ha : a < n) (ca : C a = true) (h : R a < R b ∨ R a = R b ∧ a < b) : c_ps C R n (R a) a < c_ps C R n (R b) b := by
  refine cnt_lt (a := a) ha ?_ (c_in.mpr ⟨ca, h⟩) (fun k _ e => ?_)
  · rw [← Bool.not_eq_true, c_in]; omega
  · rw [c_in] at e ⊢; exact ⟨e.1, by omega⟩
theorem c_inj {C : Nat → Bool} {R : Nat → Nat} {n a b : Nat} (ha : a < n) (hb : b < n) (ca : C a = true) (cb : C b = true) (h : c_ps C R n (R a) a = c_ps C R n (R b) b) : a = b := by
  rcases (show a = b ∨ (R a < R b ∨ R a = R b ∧ a < b) ∨ (R b < R a ∨ R b = R a ∧ b < a) by omega) with e | e | e
  · exact e
  · have := c_lt (C := C) ha ca e; omega
  · have := c_lt (C := C) hb cb e; omega
theorem c_tot {C : Nat → Bool} {R : Nat → Nat} {n a : Nat} (ha : a < n) (ca : C a = true) : c_ps C R n (R a) a < cnt C n := by
  refine cnt_lt (a := a) ha ?_ ca (fun k _ e => (c_in.mp e).1)
  rw [← Bool.not_eq_true, c_in]; omega
theorem c_step {C : Nat → Bool} {R : Nat → Nat} {n r a : Nat} (ha : a < n) : c_ps C R n r (a + 1) = c_ps C R n r a + (if C a = true ∧ R a = r then 1 else 0) := by
  by_cases c : C a = true ∧ R a = r
  · rw [if_pos c]
    refine cnt_one n a ha ?_ (c_in.mpr ⟨c.1, Or.inr ⟨c.2, by omega⟩⟩) (fun k _ hk => ?_)
    · rw [← Bool.not_eq_true, c_in]; omega
    · rw [Bool.eq_iff_iff, c_in, c_in]; constructor <;> (intro e; exact ⟨e.1, by omega⟩)
  · rw [if_neg c]
    refine cnt_eq n (fun k _ => ?_)
    rw [Bool.eq_iff_iff, c_in, c_in]
    by_cases e : k = a
    · subst e; constructor
      · intro q; exact ⟨q.1, by rcases q.2 with q2 | q2 <;> first | exact Or.inl q2 | exact absurd ⟨q.1, q2.1⟩ c⟩
      · intro q; exact ⟨q.1, by omega⟩
    · constructor <;> (intro q; exact ⟨q.1, by omega⟩)
theorem c_row {C : Nat → Bool} {R : Nat → Nat} {n r : Nat} : c_ps C R n r n = c_ps C R n (r + 1) 0 := by
  refine cnt_eq n (fun k hk => ?_)
  rw [Bool.eq_iff_iff, c_in, c_in]
  constructor <;> (intro q; exact ⟨q.1, by omega⟩)
/-- what the candidate list is made of -/
def CE (σ τ : x_M) (C : Nat → Bool) (R B : Nat → Nat) (n : Nat) : Prop := SE σ τ ∧ n ≤ 6 ∧ σ 10 1 = nI n ∧ τ 0 8 = nI n ∧ (∀ a, a < 6 → fX5_supports σ (nI a) = some (C a) ∧ fX8_isSupported τ (nI a) = some (C a)) ∧ (∀ a, B a < 256 ∧ σ 14 a = nI (B a) ∧ τ 9 a = nI (B a % 16) ∧ R a = (if B a % 16 = 0 then 16 else B a % 16))
theorem ce_of {σ τ : x_M} (h : Sim σ τ) : ∃ (C : Nat → Bool) (R B : Nat → Nat) (n : Nat), CE σ τ C R B n := by
  obtain ⟨h1, ⟨a1, a2, a3, a4, a5, ⟨n, hn, en⟩, a7⟩, h3, ⟨b1, b2, b3, b4, b5, b6⟩, h5, h6⟩ := h
  have hSE : SE σ τ := ⟨b1, a2, a3, b2, b3, b4, b5, b6⟩
  refine ⟨fun a => (fX5_supports σ (nI a)).getD false, fun a => if Classical.choose (a7 a) % 16 = 0 then 16 else Classical.choose (a7 a) % 16, fun a => Classical.choose (a7 a), n, hSE, hn, en, by rw [a1, en], fun a ha => ?_, fun a => ?_⟩
  · obtain ⟨b, e1, e2⟩ := sup_eq hSE ha
    show _ = some ((fX5_supports σ (nI a)).getD false) ∧ _ = some ((fX5_supports σ (nI a)).getD false)
    rw [e1, e2]
    exact ⟨rfl, rfl⟩
  · obtain ⟨g1, g2⟩ := Classical.choose_spec (a7 a)
    refine ⟨g1, g2, ?_, rfl⟩
    rw [a4 a, g2]
    exact pk_andN (by omega) 4 rfl
theorem ce_tau {σ τ τ' : x_M} {C : Nat → Bool} {R B : Nat → Nat} {n : Nat} (h : CE σ τ C R B n) (e1 : τ' 0 16 = τ 0 16) (e2 : τ' 8 = τ 8) (e3 : τ' 7 = τ 7) (e4 : τ' 13 = τ 13) (e5 : τ' 12 = τ 12) (e6 : τ' 14 = τ 14) (e7 : τ' 0 8 = τ 0 8) (e8 : τ' 9 = τ 9) : CE σ τ' C R B n := by
  obtain ⟨⟨s1, s2, s3, s4, s5, s6, s7⟩, h2, h3, h4, h5, h6⟩ := h
  have hSE : SE σ τ' := ⟨by rw [e1, s1], by rw [e2, s2], by rw [e3, s3], by rw [e4, s4], by rw [e5, s5], by rw [e6, s6], s7⟩
  refine ⟨hSE, h2, h3, by rw [e7, h4], fun a ha => ⟨(h5 a ha).1, ?_⟩, fun a => by rw [e8]; exact h6 a⟩
  obtain ⟨b, k1, k2⟩ := sup_eq hSE ha
  rw [(h5 a ha).1] at k1
  cases k1
  exact k2
/-- the list holds the candidates at their places -/
def c_inv (C : Nat → Bool) (R : Nat → Nat) (n m : Nat) (g : Nat → Int32) : Prop := ∀ k, k < m → ∃ o, o < n ∧ C o = true ∧ c_ps C R n (R o) o = k ∧ g k = nI o
theorem l15_loop : ∀ (N : Nat) (K : x_M → Int32 → Option x_M) (σ τ : x_M) (C : Nat → Bool) (R B : Nat → Nat) (n r a : Nat) (g : Nat → Int32), CE σ τ C R B n → 1 ≤ r → r ≤ 16 → a ≤ n → n - a < N → c_inv C R n (c_ps C R n r a) g → ∃ g', c_inv C R n (c_ps C R n (r + 1) 0) g' ∧ fX8_lists_15 K N (x_st (up2 τ 0 35 (nI (c_ps C R n r a))) 19 g) (nI r) (nI a) = K (x_st (up2 τ 0 35 (nI (c_ps C R n (r + 1) 0))) 19 g') (nI (r + 1)) := by
  intro N
  induction N with
  | zero => intro K σ τ C R B n r a g h0 h1 h2 h3 h4; omega
  | succ N ih =>
    intro K σ τ C R B n r a g h0 h1 h2 h3 h4 h5
    have h0' : CE σ (x_st (up2 τ 0 35 (nI (c_ps C R n r a))) 19 g) C R B n := ce_tau h0 rfl rfl rfl rfl rfl rfl rfl rfl
    obtain ⟨s1, s2, s3, s4, s5, s6⟩ := id h0'
    rw [fX8_lists_15, s4]
    rcases Nat.lt_or_ge a n with h | h
    rotate_left
    · have e : a = n := by omega
      subst e
      rw [q_le (Nat.le_refl _) (by omega), nI_succ1, ← c_row]
      exact ⟨g, h5, rfl⟩
    rw [q_nle h (by omega), g_in (by omega) (by decide), nI_clamp (by omega), (s6 a).2.2.1, show (16 : Int32) = nI 16 from rfl, pk_rem (by omega) (by decide) (by decide), (s5 a (by omega)).2, bind_some, nI_succ1]
    have hst := c_step (C := C) (R := R) (n := n) (r := r) (a := a) h
    have hR : R a = r ↔ B a % 16 = r % 16 := by
      rw [(s6 a).2.2.2]
      by_cases z : B a % 16 = 0
      · rw [if_pos z]; omega
      · rw [if_neg z]; omega
    by_cases c1 : B a % 16 = r % 16
    · rw [q_eq (by rw [c1])]
      cases hC : C a
      · rw [if_pos b2i_f]
        rw [if_neg (by rw [hC]; intro q; cases q.1), Nat.add_zero (c_ps C R n r a)] at hst
        rw [← hst]
        exact ih K σ τ C R B n r (a + 1) g h0 h1 h2 h (by omega) (by rw [hst]; exact h5)
      · rw [if_pos ⟨hC, hR.mpr c1⟩] at hst
        have htot : c_ps C R n r a < 6 := by
          have k1 := c_tot (R := R) h hC
          rw [hR.mpr c1] at k1
          have k2 := cnt_n C n
          omega
        rw [if_neg b2i_t0]
        show ∃ g', _ ∧ (if x_inb (nI (c_ps C R n r a)) 6 = true then fX8_lists_15 K N (up2 (up2 (x_st (up2 τ 0 35 (nI (c_ps C R n r a))) 19 g) 19 (nI (c_ps C R n r a)).toNatClampNeg (nI a)) 0 35 (nI (c_ps C R n r a) + 1)) (nI r) (nI (a + 1)) else none) = _
        rw [g_in htot (by decide), nI_clamp (by omega), nI_succ1, ← hst]
        have hm : up2 (up2 (x_st (up2 τ 0 35 (nI (c_ps C R n r a))) 19 g) 19 (c_ps C R n r a) (nI a)) 0 35 (nI (c_ps C R n r (a + 1))) = x_st (up2 τ 0 35 (nI (c_ps C R n r (a + 1)))) 19 (upd g (c_ps C R n r a) (nI a)) := by
          funext q
          by_cases q1 : q = 0
          · subst q1
            show upd (upd (τ 0) 35 _) 35 _ = upd (τ 0) 35 _
            funext j
            by_cases q2 : j = 35
            · subst q2; rw [upd_s, upd_s]
            · rw [upd_n q2, upd_n q2, upd_n q2]
          · rw [up_n q1]
            by_cases q2 : q = 19
            · subst q2; rfl
            · rw [up_n q2, st_n q2, st_n q2, up_n q1, up_n q1]
        rw [hm]
        refine ih K σ τ C R B n r (a + 1) (upd g (c_ps C R n r a) (nI a)) h0 h1 h2 h (by omega) (fun k hk => ?_)
        by_cases e : k = c_ps C R n r a
        · subst e
          exact ⟨a, h, hC, by rw [hR.mpr c1], upd_s⟩
        · rw [upd_n e]
          exact h5 k (by omega)
    · rw [if_neg (fun q => c1 ((nI_eq (by omega) (by omega)).mp q))]
      rw [if_neg (fun q => c1 (hR.mp q.2)), Nat.add_zero (c_ps C R n r a)] at hst
      rw [← hst]
      exact ih K σ τ C R B n r (a + 1) g h0 h1 h2 h (by omega) (by rw [hst]; exact h5)
theorem l7_loop : ∀ (N : Nat) (σ τ : x_M) (C : Nat → Bool) (R B : Nat → Nat) (n r : Nat) (g : Nat → Int32), CE σ τ C R B n → 1 ≤ r → r ≤ 17 → 17 - r < N → c_inv C R n (c_ps C R n r 0) g → ∃ g', c_inv C R n (c_ps C R n 17 0) g' ∧ fX8_lists_7 N (x_st (up2 τ 0 35 (nI (c_ps C R n r 0))) 19 g) (nI r) = some (x_st (up2 τ 0 35 (nI (c_ps C R n 17 0))) 19 g') := by
  intro N
  induction N with
  | zero => intro σ τ C R B n r g h0 h1 h2 h3; omega
  | succ N ih =>
    intro σ τ C R B n r g h0 h1 h2 h3 h4
    rw [fX8_lists_7, show (17 : Int32) = nI 17 from rfl]
    rcases Nat.lt_or_ge r 17 with h | h
    · rw [q_nle h (by decide), show (0 : Int32) = nI 0 from rfl]
      obtain ⟨g1, k1, k2⟩ := l15_loop x_fuel (fX8_lists_7 N) σ τ C R B n r 0 g h0 h1 (by omega) (Nat.zero_le _) (by have := h0.2.1; rw [xf3]; omega) h4
      rw [k2]
      exact ih σ τ C R B n (r + 1) g1 h0 (by omega) h (by omega) k1
    · have e : r = 17 := by omega
      subst e
      rw [q_le (Nat.le_refl _) (by decide)]
      exact ⟨g, h4, rfl⟩
theorem lists_eq {σ τ : x_M} {C : Nat → Bool} {R B : Nat → Nat} {n : Nat} (h : CE σ τ C R B n) : ∃ g, c_inv C R n (cnt C n) g ∧ fX8_lists τ = some (x_st (up2 τ 0 35 (nI (cnt C n))) 19 g) := by
  have e1 : c_ps C R n 1 0 = 0 := by
    have : c_ps C R n 1 0 = cnt (fun _ => false) n := by
      refine cnt_eq n (fun k _ => ?_)
      rw [← Bool.not_eq_true, c_in]
      have := (h.2.2.2.2.2 k).2.2.2
      by_cases z : B k % 16 = 0
      · rw [if_pos z] at this; omega
      · rw [if_neg z] at this; omega
    rw [this]
    clear this
    induction n with
    | zero => rfl
    | succ n ih => rw [cnt]; simp; exact Nat.eq_zero_of_le_zero (by
        have : ∀ m, cnt (fun _ => false) m = 0 := by
          intro m
          induction m with
          | zero => rfl
          | succ m ih => rw [cnt, ih]; rfl
        rw [this]; exact Nat.le_refl _)
  have e2 : c_ps C R n 17 0 = cnt C n := by
    refine cnt_eq n (fun k _ => ?_)
    rw [Bool.eq_iff_iff, c_in]
    have := (h.2.2.2.2.2 k).2.2.2
    have hk : R k < 17 := by
      by_cases z : B k % 16 = 0
      · rw [if_pos z] at this; omega
      · rw [if_neg z] at this; omega
    exact ⟨fun q => q.1, fun q => ⟨q, Or.inl hk⟩⟩
  obtain ⟨g, k1, k2⟩ := l7_loop x_fuel σ τ C R B n 1 (τ 19) h (by omega) (by omega) (by rw [xf3]; omega) (by rw [e1]; intro k hk; omega)
  rw [e2] at k1 k2
  refine ⟨g, k1, ?_⟩
  rw [fX8_lists, ← k2, e1, show x_st (up2 τ 0 35 (nI 0)) 19 (τ 19) = up2 τ 0 35 (nI 0) from ?_]
  · rfl
  · exact st_id (σ := up2 τ 0 35 (nI 0)) (k := 19)
