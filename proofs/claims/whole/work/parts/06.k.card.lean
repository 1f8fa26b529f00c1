/-- a child of o with a tag and a length between two -/
def Mt (tg ln pr : Nat → Nat) (o w lo hi k : Nat) : Prop := pr k = o + 1 ∧ tg k = w ∧ lo ≤ ln k ∧ ln k ≤ hi
theorem pI_eq {u o : Nat} (hu : u < 2 ^ 31) (ho : o < 2 ^ 31) : pI u = nI o ↔ u = o + 1 := by
  cases u with
  | zero =>
    constructor
    · intro h; exact absurd h.symm (nI_nm ho (by decide))
    · intro h; omega
  | succ q =>
    rw [pI_s, nI_eq (by omega) ho]; omega
theorem cf_loop : ∀ (n : Nat) (σ τ : x_M) (len c o w lo hi k : Nat) (tg ln dp vs pr : Nat → Nat), PS σ τ len c tg ln dp vs pr → c ≤ 24 → σ 3 5 = nI c → o < 24 → w < 65536 → lo ≤ 256 → hi ≤ 256 → k ≤ 30 → c - k < n → (∃ q, k ≤ q ∧ q < c ∧ Mt tg ln pr o w lo hi q ∧ (∀ j, k ≤ j → j < q → ¬ Mt tg ln pr o w lo hi j) ∧ fX2_childFrom_3 σ n (nI o) (nI w) (nI lo) (nI hi) (nI k) = some (nI q)) ∨ ((∀ j, k ≤ j → j < c → ¬ Mt tg ln pr o w lo hi j) ∧ fX2_childFrom_3 σ n (nI o) (nI w) (nI lo) (nI hi) (nI k) = some (-1)) := by
  intro n
  induction n with
  | zero => intro σ τ len c o w lo hi k tg ln dp vs pr h1 h2 h3 h4 h5 h6 h7 h8 h9; omega
  | succ n ih =>
    intro σ τ len c o w lo hi k tg ln dp vs pr h1 h2 h3 h4 h5 h6 h7 h8 h9
    rcases Nat.lt_or_ge k c with h | h
    rotate_left
    · rw [fX2_childFrom_3, h3, q_le h (by omega)]
      exact Or.inr ⟨fun j j1 j2 => by omega, rfl⟩
    obtain ⟨⟨p1, p2, p3, p4, p5, p6, p7, p8, p9⟩, r1, r2, r3, r4, r5, r6, r7⟩ := h1 k h
    have e : fX2_childFrom_3 σ (n + 1) (nI o) (nI w) (nI lo) (nI hi) (nI k) = (if pr k = o + 1 then (if tg k = w then (if ln k < lo then fX2_childFrom_3 σ n (nI o) (nI w) (nI lo) (nI hi) (nI (k + 1)) else (if hi < ln k then fX2_childFrom_3 σ n (nI o) (nI w) (nI lo) (nI hi) (nI (k + 1)) else some (nI k))) else fX2_childFrom_3 σ n (nI o) (nI w) (nI lo) (nI hi) (nI (k + 1))) else fX2_childFrom_3 σ n (nI o) (nI w) (nI lo) (nI hi) (nI (k + 1))) := by
      rw [fX2_childFrom_3, h3, q_nle h (by omega), x_at_nI (by omega) (by decide), x_at_nI (by omega) (by decide), x_at_nI (by omega) (by decide), p9, p1, p3, nI_succ1]
      by_cases c1 : pr k = o + 1
      · rw [if_pos c1, if_pos ((pI_eq (by omega) (by omega)).mpr c1)]
        by_cases c2 : tg k = w
        · rw [if_pos c2, q_eq (by rw [c2])]
          by_cases c3 : ln k < lo
          · rw [if_pos c3, q_lt c3 (by omega)]
          · rw [if_neg c3, q_nlt (by omega) (by omega)]
            by_cases c4 : hi < ln k
            · rw [if_pos c4, q_lt c4 (by omega)]
            · rw [if_neg c4, q_nlt (by omega) (by omega)]
        · rw [if_neg c2, q_ne c2 (by omega) (by omega)]
      · rw [if_neg c1, if_neg (fun z => c1 ((pI_eq (by omega) (by omega)).mp z))]
    by_cases m : Mt tg ln pr o w lo hi k
    · obtain ⟨m1, m2, m3, m4⟩ := id m
      rw [e, if_pos m1, if_pos m2, if_neg (by omega), if_neg (by omega)]
      exact Or.inl ⟨k, Nat.le_refl _, h, m, fun j j1 j2 => by omega, rfl⟩
    · have e2 : fX2_childFrom_3 σ (n + 1) (nI o) (nI w) (nI lo) (nI hi) (nI k) = fX2_childFrom_3 σ n (nI o) (nI w) (nI lo) (nI hi) (nI (k + 1)) := by
        rw [e]
        by_cases c1 : pr k = o + 1
        · rw [if_pos c1]
          by_cases c2 : tg k = w
          · rw [if_pos c2]
            by_cases c3 : ln k < lo
            · rw [if_pos c3]
            · rw [if_neg c3]
              by_cases c4 : hi < ln k
              · rw [if_pos c4]
              · exact absurd ⟨c1, c2, by omega, by omega⟩ m
          · rw [if_neg c2]
        · rw [if_neg c1]
      rw [e2]
      rcases ih σ τ len c o w lo hi (k + 1) tg ln dp vs pr h1 h2 h3 h4 h5 h6 h7 (by omega) (by omega) with ⟨q, q1, q2, q3, q4, q5⟩ | ⟨q1, q2⟩
      · refine Or.inl ⟨q, by omega, q2, q3, fun j j1 j2 => ?_, q5⟩
        by_cases z : j = k
        · subst z; exact m
        · exact q4 j (by omega) j2
      · refine Or.inr ⟨fun j j1 j2 => ?_, q2⟩
        by_cases z : j = k
        · subst z; exact m
        · exact q1 j (by omega) j2
/-- the only child of o that names an application -/
def Un (tg ln pr : Nat → Nat) (c o q : Nat) : Prop := o < q ∧ q < c ∧ Mt tg ln pr o 79 5 16 q ∧ ∀ j, o < j → j < c → Mt tg ln pr o 79 5 16 j → j = q
theorem idin_eq {σ τ : x_M} {len c o : Nat} {tg ln dp vs pr : Nat → Nat} (h1 : PS σ τ len c tg ln dp vs pr) (h2 : c ≤ 24) (h3 : σ 3 5 = nI c) (ho : o < c) : (∃ q, tg o = 97 ∧ Un tg ln pr c o q ∧ fX2_identifierIn σ (nI o) = some (nI q)) ∨ ((tg o = 97 → ∀ q, ¬ Un tg ln pr c o q) ∧ fX2_identifierIn σ (nI o) = some (-1)) := by
  obtain ⟨⟨p1, -⟩, r1, -⟩ := h1 o ho
  rw [fX2_identifierIn, x_at_nI (by omega) (by decide), p1, show (97 : Int32) = nI 97 from rfl]
  by_cases t : tg o = 97
  rotate_left
  · rw [q_ne t (by omega) (by decide)]
    exact Or.inr ⟨fun z => absurd z t, rfl⟩
  rw [t, q_eq rfl, fX2_childFrom, nI_succ1]
  have hc := cf_loop x_fuel σ τ len c o 79 5 16 (o + 1) tg ln dp vs pr h1 h2 h3 (by omega) (by decide) (by decide) (by decide) (by omega) (by rw [xf3]; omega)
  rw [show nI 79 = (79 : Int32) from rfl, show nI 5 = (5 : Int32) from rfl, show nI 16 = (16 : Int32) from rfl] at hc
  rcases hc with ⟨q, q1, q2, q3, q4, q5⟩ | ⟨q1, q2⟩
  · rw [q5, bind_some, if_neg (nI_nm (by omega) (by decide)), fX2_childFrom, nI_succ1]
    have hc2 := cf_loop x_fuel σ τ len c o 79 5 16 (q + 1) tg ln dp vs pr h1 h2 h3 (by omega) (by decide) (by decide) (by decide) (by omega) (by rw [xf3]; omega)
    rw [show nI 79 = (79 : Int32) from rfl, show nI 5 = (5 : Int32) from rfl, show nI 16 = (16 : Int32) from rfl] at hc2
    rcases hc2 with ⟨q', g1, g2, g3, g4, g5⟩ | ⟨g1, g2⟩
    · rw [g5, bind_some, if_neg (nI_nm (by omega) (by decide))]
      refine Or.inr ⟨fun _ q'' hu => ?_, rfl⟩
      have z1 := hu.2.2.2 q (by omega) q2 q3
      have z2 := hu.2.2.2 q' (by omega) g2 g3
      omega
    · rw [g2, bind_some, if_pos rfl]
      refine Or.inl ⟨q, rfl, ⟨by omega, q2, q3, fun j j1 j2 jm => ?_⟩, rfl⟩
      rcases Nat.lt_or_ge j q with z | z
      · exact absurd jm (q4 j (by omega) z)
      · rcases Nat.eq_or_lt_of_le z with z | z
        · exact z.symm
        · exact absurd jm (g1 j (by omega) j2)
  · rw [q2, bind_some, if_pos rfl]
    exact Or.inr ⟨fun _ q hu => q1 q (by have := hu.1; omega) hu.2.1 hu.2.2.1, rfl⟩
/-- under an open object: the depth tells the children -/
theorem ch_dp {σ τ : x_M} {len c : Nat} {tg ln dp vs pr : Nat → Nat} (h1 : PS σ τ len c tg ln dp vs pr) {o k : Nat} (hk : k < c) (hok : o < k) (hr : ∀ j, o < j → j < k → dp o < dp j) : dp k = dp o + 1 ↔ pr k = o + 1 := by
  obtain ⟨-, r1, r2, r3, r4, r5, r6, r7⟩ := h1 k hk
  constructor
  · intro hd
    rcases Nat.eq_zero_or_pos (pr k) with z | z
    · have := r6 z; omega
    · obtain ⟨q, hq⟩ : ∃ q, pr k = q + 1 := ⟨pr k - 1, by omega⟩
      obtain ⟨g1, g2⟩ := r7 q hq
      rcases Nat.lt_or_ge o q with z1 | z1
      · have := hr q z1 (by omega); omega
      · rcases Nat.eq_or_lt_of_le z1 with z2 | z2
        · rw [hq, z2]
        · have := g2 o z2 hok; omega
  · intro hp
    exact (r7 o hp).1
theorem ch_end {σ τ : x_M} {len c : Nat} {tg ln dp vs pr : Nat → Nat} (h1 : PS σ τ len c tg ln dp vs pr) {o k : Nat} (hok : o < k) (hd : dp k ≤ dp o) : ∀ j, k ≤ j → j < c → pr j ≠ o + 1 := by
  intro j j1 j2 hp
  obtain ⟨-, r1, r2, r3, r4, r5, r6, r7⟩ := h1 j j2
  obtain ⟨g1, g2⟩ := r7 o hp
  rcases Nat.eq_or_lt_of_le j1 with z | z
  · subst z; omega
  · have := g2 k hok z; omega
theorem nm_loop : ∀ (n : Nat) (σ τ : x_M) (len c o k m : Nat) (f : Int32) (tg ln dp vs pr : Nat → Nat), PS σ τ len c tg ln dp vs pr → c ≤ 24 → τ 0 2 = nI c → o < c → o < k → k ≤ c → m ≤ k → c - k < n → (∀ j, o < j → j < k → dp o < dp j) → ((m = 0 ∧ ∀ j, o < j → j < k → ¬ Mt tg ln pr o 79 5 16 j) ∨ (m = 1 ∧ ∃ q, f = nI q ∧ o < q ∧ q < k ∧ Mt tg ln pr o 79 5 16 q ∧ ∀ j, o < j → j < k → Mt tg ln pr o 79 5 16 j → j = q) ∨ (2 ≤ m ∧ ∃ q q', q ≠ q' ∧ o < q ∧ q < k ∧ o < q' ∧ q' < k ∧ Mt tg ln pr o 79 5 16 q ∧ Mt tg ln pr o 79 5 16 q')) → (∃ q, Un tg ln pr c o q ∧ fX8_nameOf_10 τ n (nI o) f (nI m) (nI k) = some (nI q)) ∨ ((∀ q, ¬ Un tg ln pr c o q) ∧ fX8_nameOf_10 τ n (nI o) f (nI m) (nI k) = some (-4)) := by
  intro n
  induction n with
  | zero => intro σ τ len c o k m f tg ln dp vs pr h1 h2 h3 h4 h5 h6 h7 h8; omega
  | succ n ih =>
    intro σ τ len c o k m f tg ln dp vs pr h1 h2 h3 h4 h5 h6 h7 h8 h9 h10
    -- the end
    have fin : (∀ j, k ≤ j → j < c → ¬ Mt tg ln pr o 79 5 16 j) → (∃ q, Un tg ln pr c o q ∧ fX8_nameOf_119 τ f (nI m) = some (nI q)) ∨ ((∀ q, ¬ Un tg ln pr c o q) ∧ fX8_nameOf_119 τ f (nI m) = some (-4)) := by
      intro hn
      rw [fX8_nameOf_119, show (1 : Int32) = nI 1 from rfl]
      rcases h10 with ⟨g1, g2⟩ | ⟨g1, q, g2, g3, g4, g5, g6⟩ | ⟨g1, q, q', g2, g3, g4, g5, g6, g7, g8⟩
      · rw [q_ne (by omega) (by omega) (by decide)]
        refine Or.inr ⟨fun q hu => ?_, rfl⟩
        rcases Nat.lt_or_ge q k with z | z
        · exact g2 q hu.1 z hu.2.2.1
        · exact hn q z hu.2.1 hu.2.2.1
      · rw [q_eq (by rw [g1]), g2]
        refine Or.inl ⟨q, ⟨g3, by omega, g5, fun j j1 j2 jm => ?_⟩, rfl⟩
        rcases Nat.lt_or_ge j k with z | z
        · exact g6 j j1 z jm
        · exact absurd jm (hn j z j2)
      · rw [q_ne (by omega) (by omega) (by decide)]
        refine Or.inr ⟨fun z hu => ?_, rfl⟩
        have z1 := hu.2.2.2 q g3 (by omega) g7
        have z2 := hu.2.2.2 q' g5 (by omega) g8
        exact g2 (z1.trans z2.symm)
    rw [fX8_nameOf_10, h3]
    rcases Nat.lt_or_ge k c with h | h
    rotate_left
    · rw [q_le h (by omega)]
      exact fin (fun j j1 j2 => by omega)
    obtain ⟨⟨p1, p2, p3, p4, p5, p6, p7, p8, p9⟩, r1, r2, r3, r4, r5, r6, r7⟩ := h1 k h
    obtain ⟨⟨-, -, -, -, -, o6, -⟩, -, -, o3, -⟩ := h1 o h4
    have hi1 : x_inb (nI k) 24 = true := x_inb_nI (by omega) (by decide)
    have hi2 : x_inb (nI o) 24 = true := x_inb_nI (by omega) (by decide)
    have hcn : c - (k + 1) < n := by clear h10; omega
    have hmk : m ≤ k + 1 := by clear h10; omega
    have hok' : o < k + 1 := by clear h10; omega
    rw [q_nle h (by omega)]
    simp only [hi1, hi2, if_true]
    rw [nI_clamp (by omega), nI_clamp (by omega), p6, o6, p2, p4, nI_succ1]
    rcases Nat.lt_or_ge (dp o) (dp k) with c1 | c1
    rotate_left
    · rw [q_le c1 (by omega)]
      exact fin (fun j j1 j2 jm => ch_end h1 h5 c1 j j1 j2 jm.1)
    rw [q_nle c1 (by omega)]
    have hcd := ch_dp h1 h h5 h9
    have h9' : ∀ j, o < j → j < k + 1 → dp o < dp j := fun j j1 j2 => by
      by_cases z : j = k
      · subst z; exact c1
      · exact h9 j j1 (by omega)
    have hno : ¬ Mt tg ln pr o 79 5 16 k → fX8_nameOf_85 τ (fX8_nameOf_10 τ n) (nI o) f (nI m) (nI k) = fX8_nameOf_10 τ n (nI o) f (nI m) (nI (k + 1)) ∧ ((∃ q, Un tg ln pr c o q ∧ fX8_nameOf_10 τ n (nI o) f (nI m) (nI (k + 1)) = some (nI q)) ∨ ((∀ q, ¬ Un tg ln pr c o q) ∧ fX8_nameOf_10 τ n (nI o) f (nI m) (nI (k + 1)) = some (-4))) := by
      intro hm
      refine ⟨by rw [fX8_nameOf_85, fX8_nameOf_86, if_pos rfl, fX8_nameOf_99, if_pos rfl, Int32.add_zero, nI_succ1], ?_⟩
      refine ih σ τ len c o (k + 1) m f tg ln dp vs pr h1 h2 h3 h4 hok' h hmk hcn h9' ?_
      rcases h10 with ⟨g1, g2⟩ | ⟨g1, q, g2, g3, g4, g5, g6⟩ | ⟨g1, q, q', g2, g3, g4, g5, g6, g7, g8⟩
      · refine Or.inl ⟨g1, fun j j1 j2 jm => ?_⟩
        by_cases z : j = k
        · subst z; exact hm jm
        · exact g2 j j1 (by omega) jm
      · refine Or.inr (Or.inl ⟨g1, q, g2, g3, by omega, g5, fun j j1 j2 jm => ?_⟩)
        by_cases z : j = k
        · subst z; exact absurd jm hm
        · exact g6 j j1 (by omega) jm
      · exact Or.inr (Or.inr ⟨g1, q, q', g2, g3, by omega, g5, by omega, g7, g8⟩)
    by_cases c2 : dp k = dp o + 1
    rotate_left
    · rw [q_ne c2 (by omega) (by omega)]
      obtain ⟨e1, e2⟩ := hno (fun jm => c2 (hcd.mpr jm.1))
      rw [e1]; exact e2
    rw [q_eq (by rw [c2]), show (79 : Int32) = nI 79 from rfl]
    by_cases c3 : tg k = 79
    rotate_left
    · rw [q_ne c3 (by omega) (by decide)]
      obtain ⟨e1, e2⟩ := hno (fun jm => c3 jm.2.1)
      rw [e1]; exact e2
    rw [q_eq (by rw [c3])]
    have hin : fX8_in (nI (ln k)) 5 16 = decide (5 ≤ ln k ∧ ln k ≤ 16) := by
      rw [fX8_in, show (5 : Int32) = nI 5 from rfl, show (16 : Int32) = nI 16 from rfl]
      by_cases z1 : ln k < 5
      · rw [q_lt z1 (by decide), decide_eq_false (by omega)]
      · rw [q_nlt (by omega) (by omega)]
        by_cases z2 : 16 < ln k
        · rw [q_lt z2 (by omega), decide_eq_false (by omega)]
        · rw [q_nlt (by omega) (by decide), decide_eq_true (by omega)]
    rw [hin]
    by_cases c4 : 5 ≤ ln k ∧ ln k ≤ 16
    rotate_left
    · rw [decide_eq_false c4, if_pos b2i_f]
      obtain ⟨e1, e2⟩ := hno (fun jm => c4 ⟨jm.2.2.1, jm.2.2.2⟩)
      rw [e1]; exact e2
    rw [decide_eq_true c4, if_neg b2i_t0, fX8_nameOf_86, if_neg (by decide), fX8_nameOf_99, if_neg (by decide), nI_succ1, nI_succ1]
    have hm : Mt tg ln pr o 79 5 16 k := ⟨hcd.mp c2, c3, c4.1, c4.2⟩
    refine ih σ τ len c o (k + 1) (m + 1) (nI k) tg ln dp vs pr h1 h2 h3 h4 hok' h (Nat.succ_le_succ h7) hcn h9' ?_
    rcases h10 with ⟨g1, g2⟩ | ⟨g1, q, g2, g3, g4, g5, g6⟩ | ⟨g1, q, q', g2, g3, g4, g5, g6, g7, g8⟩
    · refine Or.inr (Or.inl ⟨by omega, k, rfl, h5, by omega, hm, fun j j1 j2 jm => ?_⟩)
      by_cases z : j = k
      · exact z
      · exact absurd jm (g2 j j1 (by omega))
    · exact Or.inr (Or.inr ⟨by omega, q, k, by omega, g3, by omega, h5, by omega, g5, hm⟩)
    · exact Or.inr (Or.inr ⟨by omega, q, q', g2, g3, by omega, g5, by omega, g7, g8⟩)
theorem pb_loop : ∀ (n : Nat) (σ τ : x_M) (len c o k : Nat) (by' : Nat → Nat) (tg ln dp vs pr : Nat → Nat), PS σ τ len c tg ln dp vs pr → c ≤ 24 → τ 0 2 = nI c → o < c → o < k → k ≤ c → len ≤ 120 → (∀ k, τ 1 k = nI (by' k)) → c - k < n → (∀ j, o < j → j < k → dp o < dp j) → (∃ q, k ≤ q ∧ q < c ∧ Mt tg ln pr o 135 1 1 q ∧ (∀ j, k ≤ j → j < q → ¬ Mt tg ln pr o 135 1 1 j) ∧ fX8_priorityByte_4 τ n (nI o) (nI k) = some (nI (by' (vs q)))) ∨ ((∀ j, k ≤ j → j < c → ¬ Mt tg ln pr o 135 1 1 j) ∧ fX8_priorityByte_4 τ n (nI o) (nI k) = some 0) := by
  intro n
  induction n with
  | zero => intro σ τ len c o k by' tg ln dp vs pr h1 h2 h3 h4 h5 h6 h7 h7b h8; omega
  | succ n ih =>
    intro σ τ len c o k by' tg ln dp vs pr h1 h2 h3 h4 h5 h6 h7 h7b h8 h9
    rw [fX8_priorityByte_4, h3]
    rcases Nat.lt_or_ge k c with h | h
    rotate_left
    · rw [q_le h (by omega)]
      exact Or.inr ⟨fun j j1 j2 => by omega, rfl⟩
    obtain ⟨⟨p1, p2, p3, p4, p5, p6, p7, p8, p9⟩, r1, r2, r3, r4, r5, r6, r7⟩ := h1 k h
    obtain ⟨⟨-, -, -, -, -, o6, -⟩, -, -, o3, -⟩ := h1 o h4
    have hi1 : x_inb (nI k) 24 = true := x_inb_nI (by omega) (by decide)
    have hi2 : x_inb (nI o) 24 = true := x_inb_nI (by omega) (by decide)
    rw [q_nle h (by omega)]
    simp only [hi1, hi2, if_true]
    rw [nI_clamp (by omega), nI_clamp (by omega), p6, o6, p2, p4, p8, nI_succ1, nI_succ1]
    rcases Nat.lt_or_ge (dp o) (dp k) with c1 | c1
    rotate_left
    · rw [q_le c1 (by omega)]
      exact Or.inr ⟨fun j j1 j2 jm => ch_end h1 h5 c1 j j1 j2 jm.1, rfl⟩
    rw [q_nle c1 (by omega)]
    have hcd := ch_dp h1 h h5 h9
    have h9' : ∀ j, o < j → j < k + 1 → dp o < dp j := fun j j1 j2 => by
      by_cases z : j = k
      · subst z; exact c1
      · exact h9 j j1 (by omega)
    have hno : ¬ Mt tg ln pr o 135 1 1 k → (∃ q, k ≤ q ∧ q < c ∧ Mt tg ln pr o 135 1 1 q ∧ (∀ j, k ≤ j → j < q → ¬ Mt tg ln pr o 135 1 1 j) ∧ fX8_priorityByte_4 τ n (nI o) (nI (k + 1)) = some (nI (by' (vs q)))) ∨ ((∀ j, k ≤ j → j < c → ¬ Mt tg ln pr o 135 1 1 j) ∧ fX8_priorityByte_4 τ n (nI o) (nI (k + 1)) = some 0) := by
      intro hm
      rcases ih σ τ len c o (k + 1) by' tg ln dp vs pr h1 h2 h3 h4 (by omega) h h7 h7b (by omega) h9' with ⟨q, q1, q2, q3, q4, q5⟩ | ⟨q1, q2⟩
      · refine Or.inl ⟨q, by omega, q2, q3, fun j j1 j2 => ?_, q5⟩
        by_cases z : j = k
        · subst z; exact hm
        · exact q4 j (by omega) j2
      · refine Or.inr ⟨fun j j1 j2 => ?_, q2⟩
        by_cases z : j = k
        · subst z; exact hm
        · exact q1 j (by omega) j2
    by_cases c2 : dp k = dp o + 1
    rotate_left
    · rw [q_ne c2 (by omega) (by omega)]
      exact hno (fun jm => c2 (hcd.mpr jm.1))
    rw [q_eq (by rw [c2]), show (135 : Int32) = nI 135 from rfl]
    by_cases c3 : tg k = 135
    rotate_left
    · rw [q_ne c3 (by omega) (by decide)]
      exact hno (fun jm => c3 jm.2.1)
    rw [q_eq (by rw [c3]), show (1 : Int32) = nI 1 from rfl]
    by_cases c4 : ln k = 1
    rotate_left
    · rw [q_ne c4 (by omega) (by decide)]
      exact hno (fun jm => c4 (by have := jm.2.2.1; have := jm.2.2.2; omega))
    rw [q_eq (by rw [c4]), g_in (by omega) (by decide), nI_clamp (by omega), h7b]
    exact Or.inl ⟨k, Nat.le_refl _, h, ⟨hcd.mp c2, c3, by omega, by omega⟩, fun j j1 j2 => by omega, rfl⟩
/-- what is read off the objects: each one's identifier (0: none), and its priority byte -/
theorem app_ex {tg ln dp vs pr : Nat → Nat} {len c : Nat} (hc : c ≤ 24) (o : Nat) : ∃ i : Nat, (o < c → (i = 0 ∨ ∃ q, i = q + 1 ∧ q < c ∧ 5 ≤ ln q ∧ ln q ≤ 16) ∧ ∀ σ τ : x_M, PS σ τ len c tg ln dp vs pr → σ 3 5 = nI c → τ 0 2 = nI c → fX2_identifierIn σ (nI o) = some (pI i) ∧ (tg o ≠ 97 → i = 0) ∧ (tg o = 97 → fX8_nameOf τ (nI o) = some (if i = 0 then -4 else nI (i - 1)))) := by
  by_cases ho : o < c
  rotate_left
  · exact ⟨0, fun h => absurd h ho⟩
  have hM : ∀ σ τ : x_M, PS σ τ len c tg ln dp vs pr → τ 0 2 = nI c → (∃ q, Un tg ln pr c o q ∧ fX8_nameOf τ (nI o) = some (nI q)) ∨ ((∀ q, ¬ Un tg ln pr c o q) ∧ fX8_nameOf τ (nI o) = some (-4)) := by
    intro σ τ h1 h2
    rw [fX8_nameOf, nI_succ1, show (0 : Int32) = nI 0 from rfl]
    exact nm_loop x_fuel σ τ len c o (o + 1) 0 (-4) tg ln dp vs pr h1 hc h2 ho (by omega) ho (by omega) (by rw [xf3]; omega) (fun j j1 j2 => by omega) (Or.inl ⟨rfl, fun j j1 j2 => by omega⟩)
  by_cases t : tg o = 97 ∧ ∃ q, Un tg ln pr c o q
  · obtain ⟨t1, q, hu⟩ := t
    refine ⟨q + 1, fun _ => ⟨Or.inr ⟨q, rfl, hu.2.1, hu.2.2.1.2.2.1, hu.2.2.1.2.2.2⟩, fun σ τ h1 h2 h3 => ⟨?_, fun z => absurd t1 z, fun _ => ?_⟩⟩⟩
    · rcases idin_eq h1 hc h2 ho with ⟨q', g1, g2, g3⟩ | ⟨g1, g2⟩
      · have : q' = q := hu.2.2.2 q' g2.1 g2.2.1 g2.2.2.1
        rw [g3, this]; rfl
      · exact absurd hu (g1 t1 q)
    · rw [if_neg (by omega), Nat.add_sub_cancel]
      rcases hM σ τ h1 h3 with ⟨q', g2, g3⟩ | ⟨g1, g2⟩
      · have : q' = q := hu.2.2.2 q' g2.1 g2.2.1 g2.2.2.1
        rw [g3, this]
      · exact absurd hu (g1 q)
  · refine ⟨0, fun _ => ⟨Or.inl rfl, fun σ τ h1 h2 h3 => ⟨?_, fun _ => rfl, fun t1 => ?_⟩⟩⟩
    · rcases idin_eq h1 hc h2 ho with ⟨q', g1, g2, g3⟩ | ⟨g1, g2⟩
      · exact absurd ⟨g1, q', g2⟩ t
      · rw [g2]; rfl
    · rw [if_pos rfl]
      rcases hM σ τ h1 h3 with ⟨q', g2, g3⟩ | ⟨g1, g2⟩
      · exact absurd ⟨t1, q', g2⟩ t
      · exact g2
theorem ind_ex {tg ln dp vs pr by' : Nat → Nat} {len c : Nat} (hc : c ≤ 24) (hlen : len ≤ 120) (hby : ∀ k, by' k < 256) (o : Nat) : ∃ b : Nat, b < 256 ∧ (o < c → ∀ σ τ : x_M, PS σ τ len c tg ln dp vs pr → σ 3 5 = nI c → τ 0 2 = nI c → (∀ k, σ 2 k = nI (by' k)) → τ 1 = σ 2 → fX1_indicatorIn σ (nI o) = some (nI b) ∧ fX8_priorityByte τ (nI o) = some (nI b)) := by
  by_cases ho : o < c
  rotate_left
  · exact ⟨0, by decide, fun h => absurd h ho⟩
  have hX : ∀ σ τ : x_M, PS σ τ len c tg ln dp vs pr → σ 3 5 = nI c → (∀ k, σ 2 k = nI (by' k)) → (∃ q, o + 1 ≤ q ∧ q < c ∧ Mt tg ln pr o 135 1 1 q ∧ (∀ j, o + 1 ≤ j → j < q → ¬ Mt tg ln pr o 135 1 1 j) ∧ fX1_indicatorIn σ (nI o) = some (nI (by' (vs q)))) ∨ ((∀ j, o + 1 ≤ j → j < c → ¬ Mt tg ln pr o 135 1 1 j) ∧ fX1_indicatorIn σ (nI o) = some 0) := by
    intro σ τ h1 h2 h3
    have hcf := cf_loop x_fuel σ τ len c o 135 1 1 (o + 1) tg ln dp vs pr h1 hc h2 (by omega) (by decide) (by decide) (by decide) (by omega) (by rw [xf3]; omega)
    rw [show nI 135 = (135 : Int32) from rfl, show nI 1 = (1 : Int32) from rfl] at hcf
    rw [fX1_indicatorIn, fX2_priorityIn, fX2_childFrom, nI_succ1]
    rcases hcf with ⟨q, q1, q2, q3, q4, q5⟩ | ⟨q1, q2⟩
    · obtain ⟨⟨p1, p2, p3, p4, p5, p6, p7, p8, p9⟩, r1, r2, r3, r4, -⟩ := h1 q q2
      have hl := q3.2.2.1
      refine Or.inl ⟨q, q1, q2, q3, q4, ?_⟩
      rw [q5, bind_some, bind_some, if_neg (nI_nm (by omega) (by decide)), x_at_nI (by omega) (by decide), p7, x_at_nI (by omega) (by decide), h3]
    · refine Or.inr ⟨q1, ?_⟩
      rw [q2, bind_some, bind_some, if_pos rfl]
  have hM : ∀ σ τ : x_M, PS σ τ len c tg ln dp vs pr → τ 0 2 = nI c → (∀ k, τ 1 k = nI (by' k)) → (∃ q, o + 1 ≤ q ∧ q < c ∧ Mt tg ln pr o 135 1 1 q ∧ (∀ j, o + 1 ≤ j → j < q → ¬ Mt tg ln pr o 135 1 1 j) ∧ fX8_priorityByte τ (nI o) = some (nI (by' (vs q)))) ∨ ((∀ j, o + 1 ≤ j → j < c → ¬ Mt tg ln pr o 135 1 1 j) ∧ fX8_priorityByte τ (nI o) = some 0) := by
    intro σ τ h1 h2 h3
    rw [fX8_priorityByte, nI_succ1]
    exact pb_loop x_fuel σ τ len c o (o + 1) by' tg ln dp vs pr h1 hc h2 ho (by omega) ho hlen h3 (by rw [xf3]; omega) (fun j j1 j2 => by omega)
  by_cases t : ∃ q, o + 1 ≤ q ∧ q < c ∧ Mt tg ln pr o 135 1 1 q ∧ (∀ j, o + 1 ≤ j → j < q → ¬ Mt tg ln pr o 135 1 1 j)
  · obtain ⟨q, t1, t2, t3, t4⟩ := t
    have same : ∀ q', o + 1 ≤ q' → Mt tg ln pr o 135 1 1 q' → (∀ j, o + 1 ≤ j → j < q' → ¬ Mt tg ln pr o 135 1 1 j) → q' = q := by
      intro q' a1 a2 a3
      rcases (show q' = q ∨ q' < q ∨ q < q' by omega) with z | z | z
      · exact z
      · exact absurd a2 (t4 q' a1 z)
      · exact absurd t3 (a3 q t1 z)
    refine ⟨by' (vs q), hby _, fun _ σ τ h1 h2 h3 h4 h5 => ⟨?_, ?_⟩⟩
    · rcases hX σ τ h1 h2 h4 with ⟨q', a1, a2, a3, a4, a5⟩ | ⟨a1, a2⟩
      · rw [a5, same q' a1 a3 a4]
      · exact absurd t3 (a1 q t1 t2)
    · rcases hM σ τ h1 h3 (fun k => by rw [h5]; exact h4 k) with ⟨q', a1, a2, a3, a4, a5⟩ | ⟨a1, a2⟩
      · rw [a5, same q' a1 a3 a4]
      · exact absurd t3 (a1 q t1 t2)
  · refine ⟨0, by decide, fun _ σ τ h1 h2 h3 h4 h5 => ⟨?_, ?_⟩⟩
    · rcases hX σ τ h1 h2 h4 with ⟨q', a1, a2, a3, a4, a5⟩ | ⟨a1, a2⟩
      · exact absurd ⟨q', a1, a2, a3, a4⟩ t
      · rw [a2]; rfl
    · rcases hM σ τ h1 h3 (fun k => by rw [h5]; exact h4 k) with ⟨q', a1, a2, a3, a4, a5⟩ | ⟨a1, a2⟩
      · exact absurd ⟨q', a1, a2, a3, a4⟩ t
      · rw [a2]; rfl
