/-! ===== pure basics ===== -/
theorem i_le {a b : Int32} : a ≤ b ↔ a.toInt ≤ b.toInt := Int32.le_iff_toInt_le
theorem i_lt {a b : Int32} : a < b ↔ a.toInt < b.toInt := Int32.lt_iff_toInt_lt
theorem i_eq {a b : Int32} : a = b ↔ a.toInt = b.toInt := Int32.toInt_inj.symm
theorem i_nlt {a b : Int32} : ¬ a < b ↔ b ≤ a := by rw [i_lt, i_le]; omega
theorem i_nle {a b : Int32} : ¬ a ≤ b ↔ b < a := by rw [i_lt, i_le]; omega
theorem b2i_0 {b : Bool} : b2i b = 0 ↔ b = false := by cases b <;> decide
theorem b2i_f : b2i false = 0 := rfl
theorem b2i_t : b2i true = 1 := rfl
theorem b2i_t0 : ¬ b2i true = 0 := by decide
theorem b2i_p {b : Bool} : b2i b ≤ 0 ↔ b = false := by cases b <;> decide
theorem x_at_nI {N k : Nat} {f : Nat → Int32} (h : k < N) (hN : N < 2 ^ 31) : x_at N f (nI k) = f k := by
  have hk : k < 2 ^ 31 := Nat.lt_trans h hN
  rw [x_at, if_neg (nI_pos hk), if_neg (show ¬ Int32.ofNat N ≤ nI k from nI_ge h hN), nI_clamp hk]
theorem x_at_neg {N : Nat} {f : Nat → Int32} {i : Int32} (h : i < 0) : x_at N f i = 0 := by rw [x_at, if_pos h]
theorem x_pt_nI {N k : Nat} {f : Nat → Int32} {v : Int32} (h : k < N) (hN : N < 2 ^ 31) : x_pt N f (nI k) v = upd f k v := by
  have hk : k < 2 ^ 31 := Nat.lt_trans h hN
  rw [x_pt, if_neg (nI_pos hk), if_neg (show ¬ Int32.ofNat N ≤ nI k from nI_ge h hN), nI_clamp hk]
theorem pu_nI {σ : x_M} {c N k : Nat} {v : Int32} (h : k < N) (hN : N < 2 ^ 31) : pu σ c N (nI k) v = up2 σ c k v := by
  funext a
  unfold pu up2
  rw [x_pt_nI h hN]
theorem x_inb_nI {k N : Nat} (h : k < N) (hN : N < 2 ^ 31) : x_inb (nI k) N = true := by
  have e := nI_toInt (n := k) (Nat.lt_trans h hN)
  unfold x_inb
  rw [e, Bool.and_eq_true, decide_eq_true_eq, decide_eq_true_eq]
  omega
theorem g_in {β : Type} {k N : Nat} {P : Option β} (h : k < N) (hN : N < 2 ^ 31) : (if x_inb (nI k) N = true then P else none) = P := if_pos (x_inb_nI h hN)
theorem up_s {σ : x_M} {c j : Nat} {v : Int32} : up2 σ c j v c = upd (σ c) j v := by unfold up2; rw [if_pos rfl]
theorem up_n {σ : x_M} {c j a : Nat} {v : Int32} (h : a ≠ c) : up2 σ c j v a = σ a := by unfold up2; rw [if_neg h]
theorem upd_s {f : Nat → Int32} {k : Nat} {v : Int32} : upd f k v k = v := pk_us
theorem upd_n {f : Nat → Int32} {k j : Nat} {v : Int32} (h : j ≠ k) : upd f k v j = f j := pk_un h
theorem q_le {β : Type} {a b : Nat} {P N : β} (h : a ≤ b) (hb : b < 2 ^ 31) : (if nI a ≤ nI b then P else N) = P := if_pos (nI_le h hb)
theorem q_nle {β : Type} {a b : Nat} {P N : β} (h : b < a) (ha : a < 2 ^ 31) : (if nI a ≤ nI b then P else N) = N := if_neg (nI_ge h ha)
theorem q_lt {β : Type} {a b : Nat} {P N : β} (h : a < b) (hb : b < 2 ^ 31) : (if nI a < nI b then P else N) = P := if_pos (nI_lt h hb)
theorem q_nlt {β : Type} {a b : Nat} {P N : β} (h : b ≤ a) (ha : a < 2 ^ 31) : (if nI a < nI b then P else N) = N := if_neg (nI_nlt h ha)
theorem q_eq {β : Type} {a b : Int32} {P N : β} (h : a = b) : (if a = b then P else N) = P := if_pos h
theorem q_ne {β : Type} {a b : Nat} {P N : β} (h : a ≠ b) (ha : a < 2 ^ 31) (hb : b < 2 ^ 31) : (if nI a = nI b then P else N) = N := if_neg (fun e => h ((nI_eq ha hb).mp e))
theorem nI_nm {k : Nat} {m : Int32} (h : k < 2 ^ 31) (hm : m < 0) : ¬ nI k = m := by
  intro e
  rw [← e] at hm
  exact nI_pos h hm
theorem in_t {p lo hi : Int32} (h1 : lo ≤ p) (h2 : p ≤ hi) : fX8_in p lo hi = true := by
  rw [fX8_in, if_neg (i_nlt.mpr h1), if_neg (i_nlt.mpr h2)]
theorem in_f1 {p lo hi : Int32} (h1 : p < lo) : fX8_in p lo hi = false := by
  rw [fX8_in, if_pos h1]
theorem in_f2 {p lo hi : Int32} (h1 : hi < p) : fX8_in p lo hi = false := by
  rw [fX8_in]
  by_cases h : p < lo
  · rw [if_pos h]
  · rw [if_neg h, if_pos h1]
/-- an int between two small ones is a natural number -/
theorem i_nat {p hi : Int32} {n : Nat} (hn : hi.toInt = n) (h1 : ¬ p < 0) (h2 : p ≤ hi) : ∃ k, k ≤ n ∧ p = nI k := nI_of2 hn h1 h2
theorem nI_pred1 {n : Nat} (h : 0 < n) : nI n - 1 = nI (n - 1) := by
  obtain ⟨m, rfl⟩ : ∃ m, n = m + 1 := ⟨n - 1, by omega⟩
  rw [nI_pred]; rfl
theorem nI_succ1 (n : Nat) : nI n + 1 = nI (n + 1) := (nI_succ n).symm
theorem bind_some {α β : Type} {a : α} {k : α → Option β} : Option.bind (some a) k = k a := rfl
/-! ===== what the class's memory and the reference's have in common ===== -/
def S1 (n : Int32) (f : Nat → Int32) (n' : Int32) (f' : Nat → Int32) : Prop := n' = n ∧ f' = f ∧ (∃ k, k ≤ 120 ∧ n = nI k) ∧ ∀ k, ∃ b, b < 256 ∧ f k = nI b
def S2 (n : Int32) (ln vl ind : Nat → Int32) (n' : Int32) (ln' vl' pr' cf' : Nat → Int32) : Prop := n' = n ∧ ln' = ln ∧ vl' = vl ∧ (∀ k, pr' k = ind k &&& 15) ∧ (∀ k, cf' k = ind k >>> (7 &&& 31)) ∧ (∃ k, k ≤ 6 ∧ n = nI k) ∧ ∀ k, ∃ b, b < 256 ∧ ind k = nI b
def S3 (cd : Nat → Int32) (sel ct nw : Int32) (cd' : Nat → Int32) (sel' ct' nw' : Int32) : Prop := cd' = cd ∧ ct' = ct ∧ nw' = nw ∧ ((sel = -1 ∧ sel' = -4) ∨ (sel' = sel ∧ 0 ≤ sel))
def S4 (n : Int32) (ln vl pt : Nat → Int32) (n' : Int32) (ln' vl' pt' : Nat → Int32) : Prop := n' = n ∧ ln' = ln ∧ vl' = vl ∧ pt' = pt ∧ (∃ k, k ≤ 5 ∧ n = nI k) ∧ ∀ k, ∃ b, b ≤ 16 ∧ ln k = nI b
def S5 (cd : Nat → Int32) (fl lo up tg on : Int32) (cd' : Nat → Int32) (fl' lo' up' tg' on' : Int32) : Prop := cd' = cd ∧ fl' = fl ∧ lo' = lo ∧ up' = up ∧ tg' = tg ∧ on' = on
def S6 (tn rs am : Int32) (cn sm : Nat → Int32) (qn : Int32) (qs : Nat → Int32) (tn' rs' am' pd' : Int32) (cn' sm' : Nat → Int32) (qn' : Int32) (qs' : Nat → Int32) : Prop := tn' = tn ∧ rs' = rs ∧ am' = am ∧ (∀ k, k < 3 → cn' k = cn k) ∧ (∀ k, k < 3 → sm' k = sm k) ∧ qn' = qn ∧ qs' = qs ∧ (∃ k, k ≤ 999 ∧ tn = nI k) ∧ ∃ (pd : Bool) (q : Nat), pd' = b2i pd ∧ cn 3 = b2i pd ∧ sm 3 = (if pd = true then am else 0) ∧ qn = nI q ∧ q ≤ 3 ∧ (pd = true → q ≤ 2)
def Sim (σ τ : x_M) : Prop := S1 (σ 1 1) (σ 2) (τ 0 0) (τ 1) ∧ S2 (σ 10 1) (σ 11) (σ 12) (σ 14) (τ 0 8) (τ 8) (τ 7) (τ 9) (τ 10) ∧ S3 (σ 13) (σ 9 2) (σ 9 3) (σ 9 4) (τ 11) (τ 0 26) (τ 0 14) (τ 0 15) ∧ S4 (σ 16 1) (σ 17) (σ 18) (σ 20) (τ 0 16) (τ 13) (τ 12) (τ 14) ∧ S5 (σ 19) (σ 15 2) (σ 15 3) (σ 15 4) (σ 15 5) (σ 15 6) (τ 15) (τ 0 21) (τ 0 22) (τ 0 23) (τ 0 24) (τ 0 25) ∧ S6 (σ 21 2) (σ 21 3) (σ 21 4) (σ 22) (σ 23) (σ 24 0) (σ 25) (τ 0 27) (τ 0 28) (τ 0 29) (τ 0 30) (τ 17) (τ 18) (τ 0 32) (τ 16)
/-- an operation on both sides: the same answer, and alike again -/
def Opp (x m : Option (Int32 × x_M)) : Prop := ∃ (r : Int32) (σ' τ' : x_M), x = some (r, σ') ∧ m = some (r, τ') ∧ Sim σ' τ'
theorem Opp.mk {r : Int32} {σ τ : x_M} (h : Sim σ τ) : Opp (some (r, σ)) (some (r, τ)) := ⟨r, σ, τ, rfl, rfl, h⟩
