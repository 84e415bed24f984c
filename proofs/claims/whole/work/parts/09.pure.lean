/-! plain facts on ints, sets of small numbers, choices -/
theorem pu_le {a b : Nat} (hb : b < 2 ^ 31) (h : a ≤ b) : nI a ≤ nI b := (nI_leI (by omega) hb).mpr h
theorem pu_of {v : Int32} {m : Nat} (hm : m < 2 ^ 31) (h0 : 0 ≤ v) (h1 : v ≤ nI m) : ∃ k, k ≤ m ∧ v = nI k := by
  obtain ⟨k, hk, rfl⟩ := nI_of (Int32.not_lt.mpr h0)
  exact ⟨k, (nI_leI hk hm).mp h1, rfl⟩
theorem pu_0 {k : Nat} (hk : k < 2 ^ 31) : 0 ≤ nI k := nI_pos' hk
/-- 0 .. m -/
theorem pu_r0 {v : Int32} {m : Nat} (hm : m < 2 ^ 31) : (0 ≤ v ∧ v ≤ nI m) ↔ ∃ k, k ≤ m ∧ v = nI k := by
  constructor
  · rintro ⟨h0, h1⟩
    exact pu_of hm h0 h1
  · rintro ⟨k, hk, rfl⟩
    exact ⟨pu_0 (by omega), pu_le hm hk⟩
theorem pu_m1 {m : Nat} : nI (m + 1) - 1 = nI m := nI_pred m
theorem pu_neg (m : Nat) (h : m = 0) : nI m - 1 = -1 := by subst h; decide
/-- 0 .. m - 1 -/
theorem pu_r1 {v : Int32} {m : Nat} (hm : m < 2 ^ 31) : (0 ≤ v ∧ v ≤ nI m - 1) ↔ ∃ k, k < m ∧ v = nI k := by
  cases m with
  | zero =>
    constructor
    · rintro ⟨h0, h1⟩
      have h2 : v ≤ -1 := h1
      exact absurd (Int32.le_trans h0 h2) (by decide)
    · rintro ⟨k, hk, -⟩
      omega
  | succ m =>
    rw [pu_m1, pu_r0 (by omega)]
    constructor
    · rintro ⟨k, hk, e⟩
      exact ⟨k, by omega, e⟩
    · rintro ⟨k, hk, e⟩
      exact ⟨k, by omega, e⟩
theorem pu_neg1_or {v : Int32} (h : -1 ≤ v) : v = -1 ∨ 0 ≤ v := by
  have h1 := Int32.le_iff_toInt_le.mp h
  have e1 : (-1 : Int32).toInt = -1 := by decide
  rw [e1] at h1
  by_cases h2 : v.toInt = -1
  · exact Or.inl (Int32.toInt_inj.mp (h2.trans e1.symm))
  · refine Or.inr (Int32.le_iff_toInt_le.mpr ?_)
    have e0 : (0 : Int32).toInt = 0 := by decide
    rw [e0]
    omega
theorem pu_m1_le {v : Int32} (h : 0 ≤ v) : -1 ≤ v := Int32.le_trans (by decide) h
/-- -1 .. m - 1 -/
theorem pu_rm {v : Int32} {m : Nat} (hm : m < 2 ^ 31) : (-1 ≤ v ∧ v ≤ nI m - 1) ↔ (v = -1 ∨ ∃ k, k < m ∧ v = nI k) := by
  constructor
  · rintro ⟨h0, h1⟩
    rcases pu_neg1_or h0 with h | h
    · exact Or.inl h
    · exact Or.inr ((pu_r1 hm).mp ⟨h, h1⟩)
  · rintro (rfl | ⟨k, hk, rfl⟩)
    · refine ⟨Int32.le_refl _, ?_⟩
      cases m with
      | zero => decide
      | succ m =>
        rw [pu_m1]
        exact pu_m1_le (pu_0 (by omega))
    · obtain ⟨h1, h2⟩ := (pu_r1 (v := nI k) hm).mpr ⟨k, hk, rfl⟩
      exact ⟨pu_m1_le h1, h2⟩
theorem pu_ne1 {k : Nat} (hk : k < 2 ^ 31) : nI k ≠ -1 := fun e => by
  have := nI_pos' hk
  rw [e] at this
  exact absurd this (by decide)
theorem pu_inj {a b : Nat} (ha : a < 2 ^ 31) (hb : b < 2 ^ 31) (h : nI a = nI b) : a = b := (nI_eq ha hb).mp h
theorem pu_lt {a b : Nat} (ha : a < 2 ^ 31) (hb : b < 2 ^ 31) : nI a < nI b ↔ a < b := nI_ltI ha hb
/-- held within bounds -/
def pu_held (v a b : Int32) : Int32 := if v < a then a else if b < v then b else v
theorem pu_held_mm {v a b : Int32} (h : a ≤ b) : am_imax a (am_imin b v) = pu_held v a b := by
  unfold am_imax am_imin pu_held
  by_cases h1 : v < a
  · have h2 : v < b := Int32.lt_of_lt_of_le h1 h
    rw [if_pos h2, if_pos h1, if_neg (Int32.not_lt.mpr (Int32.le_of_lt h1))]
  · rw [if_neg h1]
    by_cases h2 : b < v
    · rw [if_pos h2, if_neg (Int32.not_lt.mpr (Int32.le_of_lt h2))]
      by_cases h3 : a < b
      · rw [if_pos h3]
      · rw [if_neg h3]
        exact Int32.le_antisymm h (Int32.not_lt.mp h3)
    · rw [if_neg h2]
      by_cases h3 : v < b
      · rw [if_pos h3]
        by_cases h4 : a < v
        · rw [if_pos h4]
        · rw [if_neg h4]
          exact Int32.le_antisymm (Int32.not_lt.mp h1) (Int32.not_lt.mp h4)
      · rw [if_neg h3]
        have e : v = b := Int32.le_antisymm (Int32.not_lt.mp h2) (Int32.not_lt.mp h3)
        subst e
        by_cases h4 : a < v
        · rw [if_pos h4]
        · rw [if_neg h4]
          exact Int32.le_antisymm h (Int32.not_lt.mp h4)
theorem pu_held_lo {v a b : Int32} (h : a ≤ b) : a ≤ pu_held v a b := by
  unfold pu_held
  split
  · exact Int32.le_refl _
  · split
    · exact h
    · exact Int32.not_lt.mp (by assumption)
/-- sets of numbers below 7, as numbers below 128 -/
def pu_clr (P j : Nat) : Nat := P &&& (127 ^^^ (1 <<< j))
def pu_set (P j : Nat) : Nat := P ||| (1 <<< j)
theorem pu_clr_i : ∀ P, P < 128 → ∀ j, j < 7 → nI P &&& ((1 <<< (nI j &&& 31)) ^^^ -1) = nI (pu_clr P j) := by decide +kernel
theorem pu_set_i : ∀ P, P < 128 → ∀ j, j < 7 → nI P ||| (1 <<< (nI j &&& 31)) = nI (pu_set P j) := by decide +kernel
theorem pu_bit_i : ∀ P, P < 128 → ∀ j, j < 7 → (nI P >>> (nI j &&& 31)) &&& 1 = (if P.testBit j then 1 else 0) := by decide +kernel
theorem pu_bit2_i : ∀ P, P < 128 → ∀ j, j < 7 → nI P &&& (1 <<< (nI j &&& 31)) = (if P.testBit j then nI (2 ^ j) else 0) := by decide +kernel
theorem pu_clr_lt : ∀ P, P < 128 → ∀ j, j < 7 → pu_clr P j < 128 := by decide +kernel
theorem pu_set_lt : ∀ P, P < 128 → ∀ j, j < 7 → pu_set P j < 128 := by decide +kernel
theorem pu_clr_bit : ∀ P, P < 128 → ∀ j, j < 7 → ∀ k, k < 7 → (pu_clr P j).testBit k = (P.testBit k && !(k == j)) := by decide +kernel
theorem pu_set_bit : ∀ P, P < 128 → ∀ j, j < 7 → ∀ k, k < 7 → (pu_set P j).testBit k = (P.testBit k || (k == j)) := by decide +kernel
theorem pu_all_i : ∀ c, c < 8 → (1 <<< (nI c &&& 31)) - 1 = nI (2 ^ c - 1) := by decide +kernel
theorem pu_all_bit : ∀ c, c < 8 → ∀ k, k < 7 → (2 ^ c - 1).testBit k = decide (k < c) := by decide +kernel
theorem pu_all_lt : ∀ c, c < 8 → 2 ^ c - 1 < 128 := by decide +kernel
theorem pu_ext : ∀ P, P < 128 → ∀ R, R < 128 → (∀ k, k < 7 → P.testBit k = R.testBit k) → P = R := by
  intro P hP R hR h
  apply Nat.eq_of_testBit_eq
  intro i
  by_cases hi : i < 7
  · exact h i hi
  · have h2 : 2 ^ 7 ≤ 2 ^ i := Nat.pow_le_pow_right (by omega) (by omega)
    rw [Nat.testBit_lt_two_pow (by omega), Nat.testBit_lt_two_pow (by omega)]
/-- the one that is picked: of those that hang the most like, of several the least; -1: none hangs -/
def pu_pick (hg : Nat → Bool) (lk : Nat → Int32) (n : Nat) (v : Int32) : Prop :=
  (v = -1 ∧ ∀ c, c < n → hg c = false) ∨ ∃ j, j < n ∧ v = nI j ∧ hg j = true ∧ ∀ c, c < n → hg c = true → lk c ≤ lk j ∧ (lk c = lk j → j ≤ c)
theorem pu_pick_uniq {hg hg' : Nat → Bool} {lk lk' : Nat → Int32} {n : Nat} {v w : Int32} (h : pu_pick hg lk n v) (h2 : pu_pick hg' lk' n w) (e1 : ∀ c, c < n → hg c = hg' c) (e2 : ∀ c, c < n → hg c = true → lk c = lk' c) : v = w := by
  rcases h with ⟨rfl, h⟩ | ⟨j, hj, rfl, h3, h4⟩ <;> rcases h2 with ⟨rfl, h2⟩ | ⟨i, hi, rfl, h5, h6⟩
  · rfl
  · rw [← e1 i hi, h i hi] at h5
    cases h5
  · rw [e1 j hj, h2 j hj] at h3
    cases h3
  · have hi1 : hg i = true := by rw [e1 i hi]; exact h5
    have hj1 : hg' j = true := by rw [← e1 j hj]; exact h3
    have a1 := h4 i hi hi1
    have a2 := h6 j hj hj1
    rw [← e2 i hi hi1, ← e2 j hj h3] at a2
    have e := Int32.le_antisymm a1.1 a2.1
    have b1 := a1.2 e
    have b2 := a2.2 e.symm
    rw [show i = j by omega]
