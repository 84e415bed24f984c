/-! what holds between the class's cells and the reference's -/
/-- a step of the reference's pile (what, with) and the class's item -/
def re_op (a w it : Int32) : Prop := (a = 1 ∧ w = it ∧ 0 ≤ it) ∨ (a = 2 ∧ ∃ k, k < 3 ∧ w = nI k ∧ it = -1 - nI k) ∨ (a = 3 ∧ it = -33) ∨ (it = -a ∧ (a = 43 ∨ a = 45 ∨ a = 42 ∨ a = 47 ∨ a = 37 ∨ a = 60 ∨ a = 61 ∨ a = 62 ∨ a = 38 ∨ a = 124))
def re_lawF (l c r : Nat → Int32) (lo hi s : Int32) (p : List Int32) : Prop := c 1 = nI p.length ∧ (∀ j (hj : j < p.length), r j = p[j]) ∧ p.length ≤ 60 ∧ l 0 = lo ∧ l 1 = hi ∧ l 4 = s ∧ (s = 0 ∨ pu_wf p 0 = some 1)
def re_law (l c r m : Nat → Int32) (at_ : Nat) (lo hi s : Int32) (p : List Int32) : Prop := re_lawF l c r lo hi s p ∧
  (s = 0 ∧ m at_ = 0 ∨ s = 1 ∧ m at_ = nI p.length ∧ 0 < p.length ∧ ∀ i (hi : i < p.length), re_op (m (at_ + 1 + i)) (m (at_ + 61 + i)) p[i])
/-- a house and a row of the reference; o: the house's own ints; w z s e: wit, size, smell, has; k q u: kind, mark, owner; tS tR: the tape; aS aR: what waits; l c r: the laws; m: the row -/
def re_house (n c t tp wt : Nat) (s0 s1 : Int32) (p0 p1 : List Int32) (o w z s e k q u tS tR aS aR l0 c0 r0 l1 c1 r1 m : Nat → Int32) : Prop :=
  (o 10 = nI n ∧ m 2 = nI n ∧ n ≤ 7) ∧ (o 11 = nI c ∧ m 3 = nI c ∧ c ≤ 7) ∧ (o 12 = nI t ∧ m 0 = nI t ∧ t ≤ 9999) ∧ (o 13 = m 4 ∧ o 14 = m 1) ∧
  (∀ g, g < 7 → w g = m (7 + 4 * g) ∧ z g = m (7 + 4 * g + 1) ∧ s g = m (7 + 4 * g + 2) ∧ e g = m (7 + 4 * g + 3)) ∧
  (∀ j, j < 7 → k j = m (35 + 3 * j) ∧ q j = m (35 + 3 * j + 1) ∧ u j = m (35 + 3 * j + 2)) ∧
  (∀ g, g < n → (∃ x, x < 10 ∧ w g = nI x) ∧ (∃ x, x < 10 ∧ z g = nI x) ∧ (∃ x, x < 4 ∧ s g = nI x) ∧ (e g = -1 ∨ ∃ j, j < c ∧ e g = nI j)) ∧
  (∀ j, j < c → (∃ x, x < 7 ∧ k j = nI x) ∧ (∃ x, x < 10 ∧ q j = nI x) ∧ (u j = -1 ∨ ∃ g, g < n ∧ u j = nI g)) ∧
  (tS 1 = nI tp ∧ m 5 = nI tp ∧ tp ≤ 60 ∧ ∀ i, i < tp → tR i = m (56 + i)) ∧
  (aS 1 = nI wt ∧ m 6 = nI wt ∧ wt ≤ 24 ∧ ∀ i, i < wt → aR i = m (116 + i)) ∧
  re_law l0 c0 r0 m 140 0 99 s0 p0 ∧ re_law l1 c1 r1 m 261 (-99) 99 s1 p1
def re_H (h : am_HI) (n c t tp wt : Nat) (s0 s1 : Int32) (p0 p1 : List Int32) : Prop := re_house n c t tp wt s0 s1 p0 p1 (h 1) (h 2) (h 3) (h 4) (h 5) (h 6) (h 7) (h 8) (h 9) (h 10) (h 11) (h 12) (h 14) (h 15) (h 16) (h 19) (h 20) (h 21) (h 75)
def re_K (h : am_HI) (n c t tp wt : Nat) (s0 s1 : Int32) (p0 p1 : List Int32) : Prop := re_house n c t tp wt s0 s1 p0 p1 (h 24) (h 25) (h 26) (h 27) (h 28) (h 29) (h 30) (h 31) (h 32) (h 33) (h 34) (h 35) (h 37) (h 38) (h 39) (h 42) (h 43) (h 44) (h 76)
/-- images: how many calls at most; k0, k1: the kept laws' bounds -/
def re_im (N : Nat) (x md : Nat → Int32) (K : Prop) (k0 k1 : Nat → Int32) : Prop := (∃ im, im ≤ N ∧ x 8 = nI im ∧ md 2 = nI im ∧ (0 < im → K)) ∧ k0 0 = 0 ∧ k0 1 = 99 ∧ k1 0 = -99 ∧ k1 1 = 99
def re_er (a b : Nat → Int32) : Prop := ∀ k, 1 ≤ k → k ≤ 6 → a k = b k
/-- a sheet: o its object, r its numbers -/
def re_sh (s : Nat) (o r b z c : Nat → Int32) : Prop := ∃ l, l ≤ 24 ∧ o 2 = nI l ∧ z s = nI l ∧ o 1 = b s ∧ (b s = 0 ∧ l = 0 ∨ b s = 8 ∨ b s = 16 ∨ b s = 32) ∧ ∀ i, i < 24 → r i = c (24 * s + i)
def re_tr (tS tR md r : Nat → Int32) : Prop := ∃ l, l ≤ 30 ∧ tS 1 = nI l ∧ md 25 = nI l ∧ ∀ i, i < l → tR i = r i
def am_Rel (N : Nat) (h : am_HI) : Prop :=
  (∃ n c t tp wt s0 s1 p0 p1, re_H h n c t tp wt s0 s1 p0 p1) ∧ re_im N (h 0) (h 74) (∃ n c t tp wt s0 s1 p0 p1, re_K h n c t tp wt s0 s1 p0 p1) (h 37) (h 42) ∧ re_er (h 73) (h 77) ∧
  re_sh 0 (h 65) (h 66) (h 78) (h 79) (h 80) ∧ re_sh 1 (h 67) (h 68) (h 78) (h 79) (h 80) ∧ re_sh 2 (h 69) (h 70) (h 78) (h 79) (h 80) ∧ re_sh 3 (h 71) (h 72) (h 78) (h 79) (h 80) ∧ re_tr (h 62) (h 63) (h 74) (h 91)
theorem re_hs {h : am_HI} {n c t tp wt : Nat} {s0 s1 : Int32} {p0 p1 : List Int32} (H : re_H h n c t tp wt s0 s1 p0 p1) : am_hs h n c t s0 s1 p0 p1 :=
  ⟨H.1.1, H.2.1.1, H.2.2.1.1, H.1.2.2, H.2.1.2.2, H.2.2.1.2.2, H.2.2.2.2.2.2.2.2.2.2.1.1, H.2.2.2.2.2.2.2.2.2.2.2.1, fun g hg => (H.2.2.2.2.2.2.1 g hg).2.1, fun j hj => (H.2.2.2.2.2.2.2.1 j hj).2.1, fun g hg => (H.2.2.2.2.2.2.1 g hg).2.2.2⟩
