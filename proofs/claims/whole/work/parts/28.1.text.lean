/-! reading a text: a stretch of the class's steps for each part of a text -/
theorem tx_wf {it : Int32} {k k2 : Nat} (h2 : pu_dp it k = some k2) : ∀ (c : List Int32) (d : Nat), pu_wf c d = some k → pu_wf (c ++ [it]) d = some k2
  | [], d, h => by
    have e : d = k := by
      unfold pu_wf at h
      exact Option.some.inj h
    subst e
    show pu_wf [it] d = some k2
    unfold pu_wf
    rw [h2]
    rfl
  | x :: c, d, h => by
    show pu_wf (x :: (c ++ [it])) d = some k2
    unfold pu_wf at h ⊢
    cases hx : pu_dp x d with
    | none => rw [hx] at h; cases h
    | some d2 =>
      rw [hx] at h
      exact tx_wf h2 c d2 h
def tx_W (p : Nat) (c c2 : List Int32) : Prop := ∀ k, pu_wf c 0 = some k → k ≤ p → pu_wf c2 0 = some (k + 1)
/-- a part at the level L, read from p on (c is out, o are open), ends at p2 (c2 is out) -/
def tx_G (B : Nat → Int32) (tp u L p : Nat) (c : List Int32) (o p2 : Nat) (c2 : List Int32) : Prop := p < p2 ∧ p2 ≤ tp ∧ tx_W p c c2 ∧
  ∀ s, tx_op s = o → tx_lev (tx_hd s) < L → tx_hd s ≠ 33 → ∃ c1 s1, tx_to B tp u (true, c, s, p) (false, c1, s1, p2) ∧ tx_so L s1 c1 = (c2, s) ∧ (p2 < tp → L < tx_lev (B p2) → tx_sg B c1 s1 p2 = none)
def tx_E (B : Nat → Int32) (tp u L p : Nat) (c : List Int32) (o p2 : Nat) (c2 : List Int32) : Prop := p < p2 ∧ p2 ≤ tp ∧ tx_W p c c2 ∧
  ∀ s, tx_op s = o → tx_lev (tx_hd s) < L → tx_hd s ≠ 33 → ∃ c1 s1, tx_to B tp u (true, c, s, p) (false, c1, s1, p2) ∧ tx_so L s1 c1 = (c2, s) ∧ (p2 < tp → L ≤ tx_lev (B p2) → tx_sg B c1 s1 p2 = none)
def tx_F (B : Nat → Int32) (tp u L p : Nat) (c : List Int32) (o p2 : Nat) : Prop := ∀ s, tx_op s = o → tx_lev (tx_hd s) < L → tx_hd s ≠ 33 → tx_is B tp u (true, c, s, p) (Sum.inl p2)
def tx_EQ (B : Nat → Int32) (tp u p : Nat) (c : List Int32) (o p2 : Nat) (c2 : List Int32) : Prop := p < p2 ∧ p2 ≤ tp ∧ tx_W p c c2 ∧ ∀ s, tx_op s = o → tx_to B tp u (true, c, s, p) (tx_dn c2 s p2)
def tx_FQ (B : Nat → Int32) (tp u p : Nat) (c : List Int32) (o p2 : Nat) : Prop := ∀ s, tx_op s = o → tx_is B tp u (true, c, s, p) (Sum.inl p2)
section TxE
variable {B : Nat → Int32} {tp u L p p2 p3 o : Nat} {c c2 c3 : List Int32}
theorem tx_lev_le (b : Int32) : tx_lev b ≤ 5 := by
  unfold tx_lev
  split
  · omega
  · split
    · omega
    · split
      · omega
      · split
        · omega
        · split <;> omega
theorem tx_lev_41 {b : Int32} (h : 0 < tx_lev b) : b ≠ 41 := by
  rintro rfl
  exact absurd h (by decide)
theorem tx_lev_n33 {b : Int32} (h : 0 < tx_lev b) : b ≠ 33 := by
  rintro rfl
  exact absurd h (by decide)
/-- a sign that binds its two sides -/
theorem tx_lev_dp {b : Int32} (h : 0 < tx_lev b) {k : Nat} (hk : 2 ≤ k) : pu_dp (-b) k = some (k - 1) := by
  have h1 : ¬ (0 ≤ -b) ∧ ¬ (-3 ≤ -b) ∧ ¬ (-b = -33) := by
    unfold tx_lev at h
    split at h
    · rename_i e; subst e; decide
    · split at h
      · rename_i e; subst e; decide
      · split at h
        · rename_i e; rcases e with e | e | e <;> subst e <;> decide
        · split at h
          · rename_i e; rcases e with e | e <;> subst e <;> decide
          · split at h
            · rename_i e; rcases e with e | e | e <;> subst e <;> decide
            · omega
  unfold pu_dp
  rw [if_neg h1.1, if_neg h1.2.1, if_neg h1.2.2, if_pos hk]
theorem tx_dp_push {it : Int32} (h : -3 ≤ it) {k : Nat} (hk : k < 60) : pu_dp it k = some (k + 1) := by
  unfold pu_dp
  by_cases h0 : 0 ≤ it
  · rw [if_pos h0, if_pos hk]
  · rw [if_neg h0, if_pos h, if_pos hk]
theorem tx_nm_dig {b : Int32} {k : Nat} (h : tx_nm u b = some k) : tx_dig b = false ∧ k < 3 := by
  unfold tx_nm at h
  split at h
  · split at h
    · rename_i e; subst e; cases h; decide
    · split at h
      · rename_i e; subst e; cases h; decide
      · split at h
        · rename_i e; subst e; cases h; decide
        · cases h
  · split at h
    · rename_i e; subst e; cases h; decide
    · split at h
      · rename_i e; subst e; cases h; decide
      · split at h
        · rename_i e; subst e; cases h; decide
        · cases h
theorem tq_num (htp : tp ≤ 60) (hp : p < tp) (hd : tx_dig (B p) = true) : tx_EQ B tp u p c o (tx_num B tp 4 0 p).2 (c ++ [nI (tx_num B tp 4 0 p).1]) := by
  have hlt : p < (tx_num B tp 4 0 p).2 := tx_num_lt hp hd
  have hv : (tx_num B tp 4 0 p).1 < 10000 := tx_num_b 4 0 p (by decide)
  refine ⟨hlt, (tx_num_le 4 0 p (by omega)).2, fun k hk hkp => tx_wf (tx_dp_push (Int32.le_trans (by decide) (pu_0 (by omega))) (by omega)) c 0 hk, fun s _ => tx_to_st (S2 := tx_dn (c ++ [nI (tx_num B tp 4 0 p).1]) s (tx_num B tp 4 0 p).2) ?_ hp hlt⟩
  show tx_pt B tp u c s p = _
  exact if_pos hd
theorem tq_name {k : Nat} (htp : tp ≤ 60) (hp : p < tp) (hn : tx_nm u (B p) = some k) : tx_EQ B tp u p c o (p + 1) (c ++ [-1 - nI k]) := by
  obtain ⟨hd, hk3⟩ := tx_nm_dig hn
  have hit : -3 ≤ (-1 : Int32) - nI k := by
    have : ∀ k, k < 3 → -3 ≤ (-1 : Int32) - nI k := by decide
    exact this k hk3
  refine ⟨by omega, by omega, fun q hq hqp => tx_wf (tx_dp_push hit (by omega)) c 0 hq, fun s _ => tx_to_st (S2 := tx_dn (c ++ [-1 - nI k]) s (p + 1)) ?_ hp (Nat.lt_succ_self p)⟩
  show tx_pt B tp u c s p = _
  unfold tx_pt
  rw [hd, hn]
  rfl
theorem tq_no (hp : p < tp) (hd : tx_dig (B p) = false) (hn : tx_nm u (B p) = none) (ho : ¬ ((B p = 33 ∨ B p = 40) ∧ o < 5)) : tx_FQ B tp u p c o p := fun s hs => by
  refine tx_is_no (S := (true, c, s, p)) ?_ hp
  show tx_pt B tp u c s p = none
  unfold tx_pt
  rw [hd, hn, hs]
  exact if_neg ho
theorem tq_end (hp : p = tp) : tx_FQ B tp u p c o p := fun s _ => by
  have h := tx_is_ew (B := B) (u := u) (S := (true, c, s, p)) (show tp ≤ p by omega)
  rw [show tx_ew tp (true, c, s, p) = Sum.inl p from by rw [hp]; rfl] at h
  exact h
theorem tq_step (hp : p < tp) (hb : B p = 33 ∨ B p = 40) (ho : o < 5) (s : List Int32) (hs : tx_op s = o) : tx_to B tp u (true, c, s, p) (true, c, B p :: s, p + 1) := by
  refine tx_to_st (S2 := (true, c, B p :: s, p + 1)) ?_ hp (Nat.lt_succ_self p)
  show tx_pt B tp u c s p = _
  have hd : tx_dig (B p) = false := by rcases hb with e | e <;> rw [e] <;> decide
  have hn : tx_nm u (B p) = none := by
    unfold tx_nm
    rcases hb with e | e <;> rw [e] <;> split <;> rfl
  unfold tx_pt
  rw [hd, hn]
  show (if (B p = 33 ∨ B p = 40) ∧ tx_op s < 5 then some (true, c, B p :: s, p + 1) else none) = _
  exact if_pos ⟨hb, by omega⟩
theorem tq_not (hp : p < tp) (hb : B p = 33) (ho : o < 5) (h : tx_EQ B tp u (p + 1) c (o + 1) p2 c2) : tx_EQ B tp u p c o p2 (c2 ++ [-33]) := by
  obtain ⟨h1, h2, h3, h4⟩ := h
  refine ⟨by omega, h2, fun k hk hkp => tx_wf (k := k + 1) ?_ c2 0 (h3 k hk (by omega)), fun s hs => tx_to_tr (tq_step hp (Or.inl hb) ho s hs) ?_⟩
  · unfold pu_dp
    rw [if_neg (by decide), if_neg (by decide), if_pos rfl, if_pos (by omega)]
  · have q := h4 (33 :: s) (by rw [tx_op_o (Or.inl rfl), hs])
    rw [hb]
    exact q
theorem tq_notF (hp : p < tp) (hb : B p = 33) (ho : o < 5) (h : tx_FQ B tp u (p + 1) c (o + 1) p2) : tx_FQ B tp u p c o p2 := fun s hs => by
  refine tq_step hp (Or.inl hb) ho s hs _ ?_
  rw [hb]
  exact h (33 :: s) (by rw [tx_op_o (Or.inl rfl), hs])
theorem tq_par (hp : p < tp) (hb : B p = 40) (ho : o < 5) (h : tx_E B tp u 1 (p + 1) c (o + 1) p2 c2) (hp2 : p2 < tp) (hb2 : B p2 = 41) : tx_EQ B tp u p c o (p2 + 1) c2 := by
  obtain ⟨h1, h2, h3, h4⟩ := h
  refine ⟨by omega, by omega, fun k hk hkp => h3 k hk (by omega), fun s hs => ?_⟩
  obtain ⟨c1, s1, a1, a2, -⟩ := h4 (40 :: s) (by rw [tx_op_o (Or.inr rfl), hs]) (by show tx_lev 40 < 1; decide) (by show (40 : Int32) ≠ 33; decide)
  refine tx_to_tr (tq_step hp (Or.inr hb) ho s hs) ?_
  rw [hb]
  refine tx_to_tr a1 (tx_to_st (S2 := tx_dn c2 s (p2 + 1)) ?_ hp2 (Nat.lt_succ_self p2))
  show tx_sg B c1 s1 p2 = _
  unfold tx_sg
  rw [if_pos hb2, a2]
  exact if_pos rfl
theorem tq_parN (hp : p < tp) (hb : B p = 40) (ho : o < 5) (h : tx_E B tp u 1 (p + 1) c (o + 1) p2 c2) (hn : ¬ (p2 < tp ∧ B p2 = 41)) : tx_FQ B tp u p c o p2 := fun s hs => by
  obtain ⟨h1, h2, h3, h4⟩ := h
  obtain ⟨c1, s1, a1, a2, a3⟩ := h4 (40 :: s) (by rw [tx_op_o (Or.inr rfl), hs]) (by show tx_lev 40 < 1; decide) (by show (40 : Int32) ≠ 33; decide)
  refine tq_step hp (Or.inr hb) ho s hs _ ?_
  rw [hb]
  refine a1 _ ?_
  by_cases hp2 : p2 < tp
  · refine tx_is_no (S := (false, c1, s1, p2)) ?_ hp2
    show tx_sg B c1 s1 p2 = none
    by_cases hl : 1 ≤ tx_lev (B p2)
    · exact a3 hp2 hl
    · unfold tx_sg
      rw [if_neg (fun q => hn ⟨hp2, q⟩), if_pos (by omega)]
  · have e : p2 = tp := by omega
    have q := tx_is_ew (B := B) (u := u) (S := (false, c1, s1, p2)) (show tp ≤ p2 by omega)
    rw [show tx_ew tp (false, c1, s1, p2) = Sum.inl p2 from by
      unfold tx_ew
      rw [if_neg (show ¬ (false = true) by decide), a2, if_neg (by simp), e]] at q
    exact q
theorem tq_parF (hp : p < tp) (hb : B p = 40) (ho : o < 5) (h : tx_F B tp u 1 (p + 1) c (o + 1) p2) : tx_FQ B tp u p c o p2 := fun s hs => by
  refine tq_step hp (Or.inr hb) ho s hs _ ?_
  rw [hb]
  exact h (40 :: s) (by rw [tx_op_o (Or.inr rfl), hs]) (by show tx_lev 40 < 1; decide) (by show (40 : Int32) ≠ 33; decide)
theorem te_6 (h : tx_EQ B tp u p c o p2 c2) : tx_E B tp u 6 p c o p2 c2 := by
  obtain ⟨h1, h2, h3, h4⟩ := h
  refine ⟨h1, h2, h3, fun s hs _ h33 => ⟨c2, s, ?_, tx_so_top (by have := tx_lev_le (tx_hd s); omega), fun _ q => absurd q (by have := tx_lev_le (B p2); omega)⟩⟩
  have q := h4 s hs
  unfold tx_dn at q
  rw [tx_cn_no h33] at q
  exact q
theorem te_6F (h : tx_FQ B tp u p c o p2) : tx_F B tp u 6 p c o p2 := fun s hs _ _ => h s hs
theorem te_G (h : tx_E B tp u (L + 1) p c o p2 c2) : tx_G B tp u L p c o p2 c2 := by
  obtain ⟨h1, h2, h3, h4⟩ := h
  refine ⟨h1, h2, h3, fun s hs hl h33 => ?_⟩
  obtain ⟨c1, s1, a1, a2, a3⟩ := h4 s hs (by omega) h33
  refine ⟨c1, s1, a1, ?_, a3⟩
  rw [← tx_so_so (Nat.le_succ L), a2]
  exact tx_so_top hl
theorem te_F (h : tx_F B tp u (L + 1) p c o p2) : tx_F B tp u L p c o p2 := fun s hs hl h33 => h s hs (by omega) h33
theorem te_x (h : tx_G B tp u L p c o p2 c2) (hx : p2 < tp → tx_lev (B p2) ≠ L) : tx_E B tp u L p c o p2 c2 := by
  obtain ⟨h1, h2, h3, h4⟩ := h
  refine ⟨h1, h2, h3, fun s hs hl h33 => ?_⟩
  obtain ⟨c1, s1, a1, a2, a3⟩ := h4 s hs hl h33
  exact ⟨c1, s1, a1, a2, fun q1 q2 => a3 q1 (by have := hx q1; omega)⟩
theorem te_sg {c1 s1 s : List Int32} (hL : 0 < L) (hL3 : L ≠ 3) (hp2 : p2 < tp) (hb : tx_lev (B p2) = L) (a2 : tx_so L s1 c1 = (c2, s)) : tx_to B tp u (false, c1, s1, p2) (true, c2, B p2 :: s, p2 + 1) := by
  refine tx_to_st (S2 := (true, c2, B p2 :: s, p2 + 1)) ?_ hp2 (Nat.lt_succ_self p2)
  show tx_sg B c1 s1 p2 = _
  unfold tx_sg
  rw [if_neg (tx_lev_41 (by omega)), if_neg (by omega), if_neg (by omega), hb, a2]
theorem te_W (hL : 0 < tx_lev (B p2)) (h1 : p < p2) (h : tx_W p c c2) (h2 : tx_W (p2 + 1) c2 c3) : tx_W p c (c3 ++ [-(B p2)]) := fun k hk hkp => tx_wf (k := k + 1 + 1) (tx_lev_dp hL (by omega)) c3 0 (h2 (k + 1) (h k hk hkp) (by omega))
theorem te_s (hL : 0 < L) (hL3 : L ≠ 3) (h : tx_G B tp u L p c o p2 c2) (hp2 : p2 < tp) (hb : tx_lev (B p2) = L) (h' : tx_E B tp u (L + 1) (p2 + 1) c2 o p3 c3) : tx_G B tp u L p c o p3 (c3 ++ [-(B p2)]) := by
  obtain ⟨h1, h2, h3, h4⟩ := h
  obtain ⟨i1, i2, i3, i4⟩ := h'
  refine ⟨by omega, i2, te_W (by omega) h1 h3 i3, fun s hs hl h33 => ?_⟩
  obtain ⟨c1, s1, a1, a2, a3⟩ := h4 s hs hl h33
  obtain ⟨d1, t1, b1, b2, b3⟩ := i4 (B p2 :: s) (by rw [tx_op_lev (by omega), hs]) (by show tx_lev (B p2) < L + 1; omega) (tx_lev_n33 (b := B p2) (by omega))
  refine ⟨d1, t1, tx_to_tr a1 (tx_to_tr (te_sg hL hL3 hp2 hb a2) b1), ?_, b3⟩
  rw [← tx_so_so (Nat.le_succ L), b2]
  exact tx_so_push (by omega) hl
theorem te_sF (hL : 0 < L) (hL3 : L ≠ 3) (h : tx_G B tp u L p c o p2 c2) (hp2 : p2 < tp) (hb : tx_lev (B p2) = L) (h' : tx_F B tp u (L + 1) (p2 + 1) c2 o p3) : tx_F B tp u L p c o p3 := fun s hs hl h33 => by
  obtain ⟨h1, h2, h3, h4⟩ := h
  obtain ⟨c1, s1, a1, a2, a3⟩ := h4 s hs hl h33
  refine a1 _ (te_sg hL hL3 hp2 hb a2 _ ?_)
  exact h' (B p2 :: s) (by rw [tx_op_lev (by omega), hs]) (by show tx_lev (B p2) < L + 1; omega) (tx_lev_n33 (b := B p2) (by omega))
theorem te_sg3 {c1 s1 s : List Int32} (hp2 : p2 < tp) (hb : tx_lev (B p2) = 3) (a2 : tx_so 4 s1 c1 = (c2, s)) (hl : tx_lev (tx_hd s) < 3) : tx_to B tp u (false, c1, s1, p2) (true, c2, B p2 :: s, p2 + 1) := by
  refine tx_to_st (S2 := (true, c2, B p2 :: s, p2 + 1)) ?_ hp2 (Nat.lt_succ_self p2)
  show tx_sg B c1 s1 p2 = _
  unfold tx_sg
  rw [if_neg (tx_lev_41 (by omega)), if_neg (by omega), if_pos hb, a2]
  have q : ¬ (tx_lev (tx_hd s) = 3) := by omega
  exact if_neg q
theorem te_3 (h : tx_E B tp u 4 p c o p2 c2) (hp2 : p2 < tp) (hb : tx_lev (B p2) = 3) (h' : tx_E B tp u 4 (p2 + 1) c2 o p3 c3) : tx_E B tp u 3 p c o p3 (c3 ++ [-(B p2)]) := by
  obtain ⟨h1, h2, h3, h4⟩ := h
  obtain ⟨i1, i2, i3, i4⟩ := h'
  refine ⟨by omega, i2, te_W (by omega) h1 h3 i3, fun s hs hl h33 => ?_⟩
  obtain ⟨c1, s1, a1, a2, a3⟩ := h4 s hs (by omega) h33
  obtain ⟨d1, t1, b1, b2, b3⟩ := i4 (B p2 :: s) (by rw [tx_op_lev (by omega), hs]) (by show tx_lev (B p2) < 4; omega) (tx_lev_n33 (b := B p2) (by omega))
  refine ⟨d1, t1, tx_to_tr a1 (tx_to_tr (te_sg3 hp2 hb a2 hl) b1), ?_, fun q1 q2 => ?_⟩
  · rw [← tx_so_so (show 3 ≤ 4 by decide), b2]
    exact tx_so_push (by omega) hl
  · by_cases q : 4 ≤ tx_lev (B p3)
    · exact b3 q1 q
    · unfold tx_sg
      rw [if_neg (tx_lev_41 (by omega)), if_neg (by omega), if_pos (by omega), b2]
      exact if_pos hb
theorem te_3F (h : tx_E B tp u 4 p c o p2 c2) (hp2 : p2 < tp) (hb : tx_lev (B p2) = 3) (h' : tx_F B tp u 4 (p2 + 1) c2 o p3) : tx_F B tp u 3 p c o p3 := fun s hs hl h33 => by
  obtain ⟨h1, h2, h3, h4⟩ := h
  obtain ⟨c1, s1, a1, a2, a3⟩ := h4 s hs (by omega) h33
  refine a1 _ (te_sg3 hp2 hb a2 hl _ ?_)
  exact h' (B p2 :: s) (by rw [tx_op_lev (by omega), hs]) (by show tx_lev (B p2) < 4; omega) (tx_lev_n33 (b := B p2) (by omega))
/-- the whole text -/
theorem te_ok (h : tx_E B tp u 1 0 [] 0 p2 c2) (hp : p2 = tp) : tx_is B tp u (true, [], [], 0) (Sum.inr c2) ∧ pu_wf c2 0 = some 1 := by
  obtain ⟨h1, h2, h3, h4⟩ := h
  refine ⟨?_, h3 0 rfl (Nat.le_refl _)⟩
  obtain ⟨c1, s1, a1, a2, a3⟩ := h4 [] rfl (by decide) (by decide)
  refine a1 _ ?_
  have q := tx_is_ew (B := B) (u := u) (S := (false, c1, s1, p2)) (show tp ≤ p2 by omega)
  rw [show tx_ew tp (false, c1, s1, p2) = Sum.inr c2 from by
    unfold tx_ew
    rw [if_neg (show ¬ (false = true) by decide), a2, if_pos rfl]] at q
  exact q
theorem te_no (h : tx_E B tp u 1 0 [] 0 p2 c2) (hp : p2 < tp) : tx_is B tp u (true, [], [], 0) (Sum.inl p2) := by
  obtain ⟨h1, h2, h3, h4⟩ := h
  obtain ⟨c1, s1, a1, a2, a3⟩ := h4 [] rfl (by decide) (by decide)
  refine a1 _ (tx_is_no (S := (false, c1, s1, p2)) ?_ hp)
  show tx_sg B c1 s1 p2 = none
  by_cases hl : 1 ≤ tx_lev (B p2)
  · exact a3 hp hl
  · unfold tx_sg
    by_cases q : B p2 = 41
    · rw [if_pos q, a2]
      exact if_neg (show ¬ (tx_hd [] = 40) by decide)
    · rw [if_neg q, if_pos (by omega)]
end TxE
