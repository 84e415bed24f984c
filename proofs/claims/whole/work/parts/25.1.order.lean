/-! the best order: the reference's side -/
def rd_st (h X : am_HI) (n : Nat) (s : od_S) (dp : Nat) (path : Nat → Int32) : Prop :=
  (∀ a, [74, 89, 90].elem a = false → X a = h a) ∧ (∀ i, i ≠ 22 → i ≠ 23 → X 74 i = h 74 i) ∧ X 74 23 = (if s.1 = true then 1 else 0) ∧ X 74 22 = s.2.1 ∧ (s.1 = true → ∀ i, i < n → X 90 i = s.2.2 i) ∧ (∀ i, i < dp → X 89 i = path i)
theorem rd_st_up {h X : am_HI} {n : Nat} {s : od_S} {dp : Nat} {path : Nat → Int32} {v : Int32} (hX : rd_st h X n s dp path) : rd_st h (am_u X 89 dp v) n s (dp + 1) (upd path dp v) := by
  obtain ⟨h1, h2, h3, h4, h5, h6⟩ := hX
  refine ⟨fun a ha => (am_u_off _ _ _ (am_nel ha rfl)).trans (h1 a ha), h2, h3, h4, h5, fun i hi => ?_⟩
  show upd (X 89) dp v i = upd path dp v i
  unfold upd
  by_cases e : i = dp
  · rw [if_pos e, if_pos e]
  · rw [if_neg e, if_neg e]
    exact h6 i (by omega)
theorem rd_st_dn {h X : am_HI} {n : Nat} {s : od_S} {dp : Nat} {path : Nat → Int32} {v : Int32} (hX : rd_st h X n s (dp + 1) (upd path dp v)) : rd_st h X n s dp path := by
  obtain ⟨h1, h2, h3, h4, h5, h6⟩ := hX
  refine ⟨h1, h2, h3, h4, h5, fun i hi => ?_⟩
  rw [h6 i (by omega)]
  exact pk_un (by omega)
theorem lp_mkeep {L : Nat} {xs : Nat → Int32} {d ms b : Nat} {Q : am_Q} {Z : am_HI} {n : Nat} {sum G W : Int32} (hn7 : n ≤ 7) (kk : ∀ r, (∀ k, k < n → r k = Z 89 k) → Q none (am_S b) (am_ur Z 90 r)) :
    ∀ (m i : Nat) (r : Nat → Int32) (hr : ∀ k, k < i → r k = Z 89 k), i + m = n → am_wp L xs d 0 ms 188 40 [.ref 74, .int (nI n), .int G, .int W, .int sum, .int (nI i), am_du] [] (am_S b) (am_ur Z 90 r) Q := by
  intro m
  induction m with
  | zero =>
    intro i r hr hi
    refine wp_run 2 (pc' := 43) (ls' := [.ref 74, .int (nI n), .int G, .int W, .int sum, .int (nI i), am_du]) (st' := [.int (nI n), .int (nI i)]) rfl ?_
    refine wp_icmp_t rfl (show (nI n) ≤ (nI i) from (nI_leI (a := n) (b := i) (by omega) (by omega)).mpr (by omega)) ?_
    refine wp_retv rfl ?_
    have e9 : i = n := by omega
    rw [e9] at hr
    exact kk r hr
  | succ m ih =>
    intro i r hr hi
    refine wp_run 2 (pc' := 43) (ls' := [.ref 74, .int (nI n), .int G, .int W, .int sum, .int (nI i), am_du]) (st' := [.int (nI n), .int (nI i)]) rfl ?_
    refine wp_icmp_f rfl (show ¬ ((nI n) ≤ (nI i)) from mt (nI_leI (a := n) (b := i) (by omega) (by omega)).mp (by omega)) ?_
    refine wp_run 1 (pc' := 47) (ls' := [.ref 74, .int (nI n), .int G, .int W, .int sum, .int (nI i), am_du]) (st' := [.ref 74]) rfl ?_
    refine wp_getr 90 rfl rfl rfl ?_
    refine wp_run 2 (pc' := 53) (ls' := [.ref 74, .int (nI n), .int G, .int W, .int sum, .int (nI i), am_du]) (st' := [.ref 74, .int (nI i), .ref 90]) rfl ?_
    refine wp_getr 89 rfl rfl rfl ?_
    refine wp_run 1 (pc' := 58) (ls' := [.ref 74, .int (nI n), .int G, .int W, .int sum, .int (nI i), am_du]) (st' := [.int (nI i), .ref 89, .int (nI i), .ref 90]) rfl ?_
    refine wp_ald (i := i) (Z 89 i) rfl rfl rfl rfl (by omega) rfl ?_
    refine wp_ast rfl rfl rfl (by omega) rfl ?_
    refine wp_run 2 (pc' := 40) (ls' := [.ref 74, .int (nI n), .int G, .int W, .int sum, .int ((nI i) + 1), am_du]) (st' := []) rfl ?_
    rw [show (((nI i) + 1) : Int32) = (nI (i + 1)) from nI_add i 1]
    rw [am_ur_u]
    refine ih (i + 1) _ (fun k hk => ?_) (by omega)
    rcases Nat.lt_succ_iff_lt_or_eq.mp hk with q | q
    · rw [pk_un (by omega)]; exact hr k q
    · rw [q, pk_us]
def rd_is (L : Nat) (xs : Nat → Int32) (h : am_HI) (LK MK : Nat → Nat → Int32) (c n k : Nat) : Prop := ∀ (d ms b dp G P W : Nat) (sum : Int32) (path : Nat → Int32) (s : od_S) (X : am_HI) (Q : am_Q), k + 2 ≤ d → k + dp = n → G < 128 → P < 128 → W < 128 → (∀ j, j < c → P.testBit j = !W.testBit j) → rd_st h X n s dp path → (∀ X2, rd_st h X2 n (od_go LK MK c n k dp G P sum path s) dp path → Q none (am_S b) X2) → am_wp L xs d 0 ms 188 0 [.ref 74, .int (nI dp), .int (nI G), .int (nI W), .int sum, am_du, am_du] [] (am_S b) X Q
theorem sp_orders (L : Nat) (xs : Nat → Int32) {h : am_HI} {n c : Nat} {LK MK : Nat → Nat → Int32} (hn7 : n ≤ 7) (hc7 : c ≤ 7) (hm2 : h 75 2 = nI n) (hm3 : h 75 3 = nI c) (hl : ∀ g, g < n → ∀ j, j < c → h 87 (7 * g + j) = LK j g) (hm : ∀ g, g < n → ∀ j, j < c → h 86 (7 * g + j) = MK j g) : ∀ k, rd_is L xs h LK MK c n k := by
  intro k
  induction k with
  | zero =>
    intro d ms b dp G P W sum path s X Q hd hk hG hP hW hbits hX kk
    have hdp : dp = n := by omega
    subst hdp
    obtain ⟨h1, h2, h3, h4, h5, h6⟩ := id hX
    by_cases hf : s.1 = true
    · skip
      rw [if_pos hf] at h3
      refine wp_run 2 (pc' := 2) (ls' := [.ref 74, .int (nI dp), .int (nI G), .int (nI W), .int sum, am_du, am_du]) (st' := [.ref 74, .int (nI dp)]) rfl ?_
      refine wp_getr 75 rfl rfl rfl ?_
      refine wp_run 1 (pc' := 6) (ls' := [.ref 74, .int (nI dp), .int (nI G), .int (nI W), .int sum, am_du, am_du]) (st' := [.int 2, .ref 75, .int (nI dp)]) rfl ?_
      refine wp_ald (i := 2) (nI dp) (show X 75 2 = nI dp from by rw [hX.1 75 rfl]; exact hm2) rfl rfl rfl (by decide) rfl ?_
      refine wp_icmp_f rfl (show ¬ (¬ (nI dp) = (nI dp)) from (fun q => q ((nI_eq (a := dp) (b := dp) (by omega) (by omega)).mpr (by omega)))) ?_
      refine wp_run 1 (pc' := 11) (ls' := [.ref 74, .int (nI dp), .int (nI G), .int (nI W), .int sum, am_du, am_du]) (st' := [.ref 74]) rfl ?_
      refine wp_geti (a := 23) 1 h3 rfl rfl rfl ?_
      refine wp_if_f rfl (show ¬ ((1 : Int32) = 0) from by decide) ?_
      refine wp_run 2 (pc' := 20) (ls' := [.ref 74, .int (nI dp), .int (nI G), .int (nI W), .int sum, am_du, am_du]) (st' := [.ref 74, .int sum]) rfl ?_
      refine wp_geti (a := 22) s.2.1 h4 rfl rfl rfl ?_
      refine wp_icmp rfl (fun (cq23 : sum ≤ s.2.1) => ?_) (fun (cq23 : ¬ (sum ≤ s.2.1)) => ?_)
      · skip
        have hle : sum ≤ s.2.1 := cq23
        refine wp_retv rfl ?_
        refine kk X ?_
        rw [show od_go LK MK c dp 0 dp G P sum path s = s from od_kp_k hf hle]
        exact hX
      · skip
        have hno : s.1 = true → ¬ sum ≤ s.2.1 := fun _ => cq23
        refine wp_run 2 (pc' := 28) (ls' := [.ref 74, .int (nI dp), .int (nI G), .int (nI W), .int sum, am_du, am_du]) (st' := [.int 1, .ref 74]) rfl ?_
        refine wp_putz rfl (Or.inr rfl) rfl ?_
        refine wp_run 2 (pc' := 34) (ls' := [.ref 74, .int (nI dp), .int (nI G), .int (nI W), .int sum, am_du, am_du]) (st' := [.int sum, .ref 74]) rfl ?_
        refine wp_puti rfl rfl ?_
        refine wp_run 2 (pc' := 40) (ls' := [.ref 74, .int (nI dp), .int (nI G), .int (nI W), .int sum, .int 0, am_du]) (st' := []) rfl ?_
        have hp := fun kq => lp_mkeep (L := L) (xs := xs) (d := d) (ms := ms) (b := b) (Q := Q) (Z := (am_u (am_u X 74 23 1) 74 22 sum)) (n := dp) (sum := sum) (G := nI G) (W := nI W) hn7 kq dp 0 ((am_u (am_u X 74 23 1) 74 22 sum) 90) (fun k hk => by omega) (by omega)
        rw [← am_ur_self] at hp
        refine hp (fun r hr => kk _ ?_)
        rw [show od_go LK MK c dp 0 dp G P sum path s = (true, sum, path) from od_kp_n hno]
        refine ⟨fun a ha => ?_, fun i i1 i2 => ?_, rfl, rfl, fun _ i hi => (hr i hi).trans (h6 i hi), h6⟩
        · rw [am_ur_off _ _ (am_nel ha rfl), am_u_off _ _ _ (am_nel ha rfl), am_u_off _ _ _ (am_nel ha rfl)]
          exact h1 a ha
        · rw [am_ur_off _ _ (by decide)]
          show upd (upd (X 74) 23 1) 22 sum i = _
          rw [pk_un i1, pk_un i2]
          exact h2 i i1 i2
    · skip
      rw [if_neg hf] at h3
      have hno : s.1 = true → ¬ sum ≤ s.2.1 := fun q => absurd q hf
      refine wp_run 2 (pc' := 2) (ls' := [.ref 74, .int (nI dp), .int (nI G), .int (nI W), .int sum, am_du, am_du]) (st' := [.ref 74, .int (nI dp)]) rfl ?_
      refine wp_getr 75 rfl rfl rfl ?_
      refine wp_run 1 (pc' := 6) (ls' := [.ref 74, .int (nI dp), .int (nI G), .int (nI W), .int sum, am_du, am_du]) (st' := [.int 2, .ref 75, .int (nI dp)]) rfl ?_
      refine wp_ald (i := 2) (nI dp) (show X 75 2 = nI dp from by rw [hX.1 75 rfl]; exact hm2) rfl rfl rfl (by decide) rfl ?_
      refine wp_icmp_f rfl (show ¬ (¬ (nI dp) = (nI dp)) from (fun q => q ((nI_eq (a := dp) (b := dp) (by omega) (by omega)).mpr (by omega)))) ?_
      refine wp_run 1 (pc' := 11) (ls' := [.ref 74, .int (nI dp), .int (nI G), .int (nI W), .int sum, am_du, am_du]) (st' := [.ref 74]) rfl ?_
      refine wp_geti (a := 23) 0 h3 rfl rfl rfl ?_
      refine wp_if_t rfl (show (0 : Int32) = 0 from by decide) ?_
      refine wp_run 2 (pc' := 28) (ls' := [.ref 74, .int (nI dp), .int (nI G), .int (nI W), .int sum, am_du, am_du]) (st' := [.int 1, .ref 74]) rfl ?_
      refine wp_putz rfl (Or.inr rfl) rfl ?_
      refine wp_run 2 (pc' := 34) (ls' := [.ref 74, .int (nI dp), .int (nI G), .int (nI W), .int sum, am_du, am_du]) (st' := [.int sum, .ref 74]) rfl ?_
      refine wp_puti rfl rfl ?_
      refine wp_run 2 (pc' := 40) (ls' := [.ref 74, .int (nI dp), .int (nI G), .int (nI W), .int sum, .int 0, am_du]) (st' := []) rfl ?_
      have hp := fun kq => lp_mkeep (L := L) (xs := xs) (d := d) (ms := ms) (b := b) (Q := Q) (Z := (am_u (am_u X 74 23 1) 74 22 sum)) (n := dp) (sum := sum) (G := nI G) (W := nI W) hn7 kq dp 0 ((am_u (am_u X 74 23 1) 74 22 sum) 90) (fun k hk => by omega) (by omega)
      rw [← am_ur_self] at hp
      refine hp (fun r hr => kk _ ?_)
      rw [show od_go LK MK c dp 0 dp G P sum path s = (true, sum, path) from od_kp_n hno]
      refine ⟨fun a ha => ?_, fun i i1 i2 => ?_, rfl, rfl, fun _ i hi => (hr i hi).trans (h6 i hi), h6⟩
      · rw [am_ur_off _ _ (am_nel ha rfl), am_u_off _ _ _ (am_nel ha rfl), am_u_off _ _ _ (am_nel ha rfl)]
        exact h1 a ha
      · rw [am_ur_off _ _ (by decide)]
        show upd (upd (X 74) 23 1) 22 sum i = _
        rw [pk_un i1, pk_un i2]
        exact h2 i i1 i2
  | succ k ih =>
    intro d ms b dp G P W sum path s X Q hd hk hG hP hW hbits hX kk
    have hlp : ∀ (m i : Nat) (X : am_HI) (u6 : Value), i + m = n → rd_st h X n (od_fold (fun g s => if G.testBit g = true then s else od_go LK MK c n k (dp + 1) (pu_set G g) (ab_nx P (od_pk LK c P g)) (od_mr MK (od_pk LK c P g) g sum) (upd path dp (nI g)) s) i s) dp path → am_wp L xs d 0 ms 188 70 [.ref 74, .int (nI dp), .int (nI G), .int (nI W), .int sum, .int (nI i), u6] [] (am_S b) X Q := by
      intro m
      induction m with
      | zero =>
        intro i X u6 hi hX
        have e75 := hX.1 75 rfl
        have e86 := hX.1 86 rfl
        have e87 := hX.1 87 rfl
        refine wp_run 2 (pc' := 73) (ls' := [.ref 74, .int (nI dp), .int (nI G), .int (nI W), .int sum, .int (nI i), u6]) (st' := [.ref 74, .int (nI i)]) rfl ?_
        refine wp_getr 75 rfl rfl rfl ?_
        refine wp_run 1 (pc' := 77) (ls' := [.ref 74, .int (nI dp), .int (nI G), .int (nI W), .int sum, .int (nI i), u6]) (st' := [.int 2, .ref 75, .int (nI i)]) rfl ?_
        refine wp_ald (i := 2) (nI n) (show X 75 2 = nI n from by rw [e75]; exact hm2) rfl rfl rfl (by decide) rfl ?_
        refine wp_icmp_t rfl (show (nI n) ≤ (nI i) from (nI_leI (a := n) (b := i) (by omega) (by omega)).mpr (by omega)) ?_
        refine wp_retv rfl ?_
        have e9 : i = n := by omega
        rw [e9] at hX
        exact kk X hX
      | succ m ih2 =>
        intro i X u6 hi hX
        have e75 := hX.1 75 rfl
        have e86 := hX.1 86 rfl
        have e87 := hX.1 87 rfl
        refine wp_run 2 (pc' := 73) (ls' := [.ref 74, .int (nI dp), .int (nI G), .int (nI W), .int sum, .int (nI i), u6]) (st' := [.ref 74, .int (nI i)]) rfl ?_
        refine wp_getr 75 rfl rfl rfl ?_
        refine wp_run 1 (pc' := 77) (ls' := [.ref 74, .int (nI dp), .int (nI G), .int (nI W), .int sum, .int (nI i), u6]) (st' := [.int 2, .ref 75, .int (nI i)]) rfl ?_
        refine wp_ald (i := 2) (nI n) (show X 75 2 = nI n from by rw [e75]; exact hm2) rfl rfl rfl (by decide) rfl ?_
        refine wp_icmp_f rfl (show ¬ ((nI n) ≤ (nI i)) from mt (nI_leI (a := n) (b := i) (by omega) (by omega)).mp (by omega)) ?_
        refine wp_run 5 (pc' := 87) (ls' := [.ref 74, .int (nI dp), .int (nI G), .int (nI W), .int sum, .int (nI i), u6]) (st' := [.int (((nI G) >>> ((nI i) &&& 31)) &&& 1)]) rfl ?_
        refine wp_if rfl (fun (cq87 : ¬ (((nI G) >>> ((nI i) &&& 31)) &&& 1) = 0) => ?_) (fun (cq87 : ¬ (¬ (((nI G) >>> ((nI i) &&& 31)) &&& 1) = 0)) => ?_)
        · skip
          have hbit : G.testBit i = true := by
            rw [pu_bit_i G hG i (by omega)] at cq87
            cases q : G.testBit i
            · rw [q] at cq87; exact absurd rfl cq87
            · rfl
          refine wp_run 2 (pc' := 70) (ls' := [.ref 74, .int (nI dp), .int (nI G), .int (nI W), .int sum, .int ((nI i) + 1), u6]) (st' := []) rfl ?_
          rw [show (((nI i) + 1) : Int32) = (nI (i + 1)) from nI_add i 1]
          refine ih2 (i + 1) X _ (by omega) ?_
          rw [show od_fold (fun g s => if G.testBit g = true then s else od_go LK MK c n k (dp + 1) (pu_set G g) (ab_nx P (od_pk LK c P g)) (od_mr MK (od_pk LK c P g) g sum) (upd path dp (nI g)) s) (i + 1) s = od_fold (fun g s => if G.testBit g = true then s else od_go LK MK c n k (dp + 1) (pu_set G g) (ab_nx P (od_pk LK c P g)) (od_mr MK (od_pk LK c P g) g sum) (upd path dp (nI g)) s) i s from if_pos hbit]
          exact hX
        · skip
          replace cq87 := Decidable.not_not.mp cq87
          have hbit : G.testBit i = false := by
            rw [pu_bit_i G hG i (by omega)] at cq87
            cases q : G.testBit i
            · rfl
            · rw [q] at cq87; cases cq87
          refine wp_run 3 (pc' := 94) (ls' := [.ref 74, .int (nI dp), .int (nI G), .int (nI W), .int sum, .int (nI i), u6]) (st' := [.int (nI W), .int (nI i), .ref 74]) rfl ?_
          refine wp_callV (o := 74) (as := [.int (nI i), .int (nI W)]) (rest := []) (els := [.ref 74, .int (nI i), .int (nI W), am_du, am_du, am_du]) rfl rfl rfl rfl rfl rfl rfl rfl (by omega) ?_
          refine sp_tableGets (h := X) (W := W) (g := i) (c := c) (by rw [e75]; exact hm3) hc7 (by omega) hW (fun v1 hp1 => ?_)
          have ev : (od_pk LK c P i) = v1 := pu_pk_of hc7 hp1 (fun k hk => hbits k hk) (fun k hk => by rw [e87]; exact (hl i (by omega) k hk).symm)
          subst ev
          show am_wp L xs _ _ _ _ 97 [.ref 74, .int (nI dp), .int (nI G), .int (nI W), .int sum, .int (nI i), u6] [.int (od_pk LK c P i)] (am_S b) X _
          rcases od_pk_or (LK := LK) (P := P) (g := i) hc7 with e5 | ⟨j, hj, e5⟩
          · skip
            rw [e5]
            refine wp_run 2 (pc' := 100) (ls' := [.ref 74, .int (nI dp), .int (nI G), .int (nI W), .int sum, .int (nI i), .int (-1)]) (st' := [.ref 74]) rfl ?_
            refine wp_getr 89 rfl rfl rfl ?_
            refine wp_run 2 (pc' := 106) (ls' := [.ref 74, .int (nI dp), .int (nI G), .int (nI W), .int sum, .int (nI i), .int (-1)]) (st' := [.int (nI i), .int (nI dp), .ref 89]) rfl ?_
            refine wp_ast rfl rfl rfl (by omega) rfl ?_
            refine wp_run 9 (pc' := 117) (ls' := [.ref 74, .int (nI dp), .int (nI G), .int (nI W), .int sum, .int (nI i), .int (-1)]) (st' := [.int ((nI G) ||| (1 <<< ((nI i) &&& 31))), .int ((nI dp) + 1), .ref 74]) rfl ?_
            rw [show (((nI dp) + 1) : Int32) = (nI (dp + 1)) from nI_add dp 1]
            rw [show (((nI G) ||| (1 <<< ((nI i) &&& 31))) : Int32) = nI (pu_set G i) from pu_set_i G hG i (by omega)]
            refine wp_run 1 (pc' := 119) (ls' := [.ref 74, .int (nI dp), .int (nI G), .int (nI W), .int sum, .int (nI i), .int (-1)]) (st' := [.int (-1), .int (nI (pu_set G i)), .int (nI (dp + 1)), .ref 74]) rfl ?_
            refine wp_if_f rfl (show ¬ (0 ≤ ((-1) : Int32)) from by decide) ?_
            refine wp_run 2 (pc' := 132) (ls' := [.ref 74, .int (nI dp), .int (nI G), .int (nI W), .int sum, .int (nI i), .int (-1)]) (st' := [.int (nI W), .int (nI (pu_set G i)), .int (nI (dp + 1)), .ref 74]) rfl ?_
            refine wp_run 1 (pc' := 134) (ls' := [.ref 74, .int (nI dp), .int (nI G), .int (nI W), .int sum, .int (nI i), .int (-1)]) (st' := [.int (-1), .int (nI W), .int (nI (pu_set G i)), .int (nI (dp + 1)), .ref 74]) rfl ?_
            refine wp_if_f rfl (show ¬ (0 ≤ ((-1) : Int32)) from by decide) ?_
            refine wp_run 2 (pc' := 158) (ls' := [.ref 74, .int (nI dp), .int (nI G), .int (nI W), .int sum, .int (nI i), .int (-1)]) (st' := [.int sum, .int (nI W), .int (nI (pu_set G i)), .int (nI (dp + 1)), .ref 74]) rfl ?_
            have es : (sum : Int32) = od_mr MK (od_pk LK c P i) i sum := (od_mr_0 e5).symm
            have ep : P = ab_nx P (od_pk LK c P i) := (od_nx_0 e5).symm
            have hP2 : P < 128 := hP
            have hW2 : W < 128 := hW
            have hb2 := hbits
            refine wp_callV (o := 74) (as := [.int (nI (dp + 1)), .int (nI (pu_set G i)), .int (nI W), .int sum]) (rest := []) (els := [.ref 74, .int (nI (dp + 1)), .int (nI (pu_set G i)), .int (nI W), .int sum, am_du, am_du]) rfl rfl rfl rfl rfl rfl rfl rfl (by omega) ?_
            refine ih _ _ _ _ _ _ _ _ _ _ _ _ (by omega) (by omega) (pu_set_lt G hG i (by omega)) hP2 hW2 hb2 (rd_st_up hX) (fun X2 hX2 => ?_)
            have hX3 : rd_st h X2 n (od_go LK MK c n k (dp + 1) (pu_set G i) (ab_nx P (od_pk LK c P i)) (od_mr MK (od_pk LK c P i) i sum) (upd path dp (nI i)) (od_fold (fun g s => if G.testBit g = true then s else od_go LK MK c n k (dp + 1) (pu_set G g) (ab_nx P (od_pk LK c P g)) (od_mr MK (od_pk LK c P g) g sum) (upd path dp (nI g)) s) i s)) (dp + 1) (upd path dp (nI i)) := by
              rw [← ep, ← es]
              exact hX2
            show am_wp L xs _ _ _ _ 161 [.ref 74, .int (nI dp), .int (nI G), .int (nI W), .int sum, .int (nI i), .int (-1)] [] (am_S b) X2 _
            refine wp_run 2 (pc' := 70) (ls' := [.ref 74, .int (nI dp), .int (nI G), .int (nI W), .int sum, .int ((nI i) + 1), .int (-1)]) (st' := []) rfl ?_
            rw [show (((nI i) + 1) : Int32) = (nI (i + 1)) from nI_add i 1]
            refine ih2 (i + 1) X2 _ (by omega) ?_
            rw [show od_fold (fun g s => if G.testBit g = true then s else od_go LK MK c n k (dp + 1) (pu_set G g) (ab_nx P (od_pk LK c P g)) (od_mr MK (od_pk LK c P g) g sum) (upd path dp (nI g)) s) (i + 1) s = od_go LK MK c n k (dp + 1) (pu_set G i) (ab_nx P (od_pk LK c P i)) (od_mr MK (od_pk LK c P i) i sum) (upd path dp (nI i)) (od_fold (fun g s => if G.testBit g = true then s else od_go LK MK c n k (dp + 1) (pu_set G g) (ab_nx P (od_pk LK c P g)) (od_mr MK (od_pk LK c P g) g sum) (upd path dp (nI g)) s) i s) from if_neg (by rw [hbit]; decide)]
            exact rd_st_dn hX3
          · skip
            rw [e5]
            refine wp_run 2 (pc' := 100) (ls' := [.ref 74, .int (nI dp), .int (nI G), .int (nI W), .int sum, .int (nI i), .int (nI j)]) (st' := [.ref 74]) rfl ?_
            refine wp_getr 89 rfl rfl rfl ?_
            refine wp_run 2 (pc' := 106) (ls' := [.ref 74, .int (nI dp), .int (nI G), .int (nI W), .int sum, .int (nI i), .int (nI j)]) (st' := [.int (nI i), .int (nI dp), .ref 89]) rfl ?_
            refine wp_ast rfl rfl rfl (by omega) rfl ?_
            refine wp_run 9 (pc' := 117) (ls' := [.ref 74, .int (nI dp), .int (nI G), .int (nI W), .int sum, .int (nI i), .int (nI j)]) (st' := [.int ((nI G) ||| (1 <<< ((nI i) &&& 31))), .int ((nI dp) + 1), .ref 74]) rfl ?_
            rw [show (((nI dp) + 1) : Int32) = (nI (dp + 1)) from nI_add dp 1]
            rw [show (((nI G) ||| (1 <<< ((nI i) &&& 31))) : Int32) = nI (pu_set G i) from pu_set_i G hG i (by omega)]
            refine wp_run 1 (pc' := 119) (ls' := [.ref 74, .int (nI dp), .int (nI G), .int (nI W), .int sum, .int (nI i), .int (nI j)]) (st' := [.int (nI j), .int (nI (pu_set G i)), .int (nI (dp + 1)), .ref 74]) rfl ?_
            refine wp_if_t rfl (show 0 ≤ (nI j) from (nI_leI (a := 0) (b := j) (by omega) (by omega)).mpr (by omega)) ?_
            refine wp_run 5 (pc' := 132) (ls' := [.ref 74, .int (nI dp), .int (nI G), .int (nI W), .int sum, .int (nI i), .int (nI j)]) (st' := [.int ((nI W) ||| (1 <<< ((nI j) &&& 31))), .int (nI (pu_set G i)), .int (nI (dp + 1)), .ref 74]) rfl ?_
            rw [show (((nI W) ||| (1 <<< ((nI j) &&& 31))) : Int32) = nI (pu_set W j) from pu_set_i W hW j (by omega)]
            refine wp_run 1 (pc' := 134) (ls' := [.ref 74, .int (nI dp), .int (nI G), .int (nI W), .int sum, .int (nI i), .int (nI j)]) (st' := [.int (nI j), .int (nI (pu_set W j)), .int (nI (pu_set G i)), .int (nI (dp + 1)), .ref 74]) rfl ?_
            refine wp_if_t rfl (show 0 ≤ (nI j) from (nI_leI (a := 0) (b := j) (by omega) (by omega)).mpr (by omega)) ?_
            refine wp_run 2 (pc' := 145) (ls' := [.ref 74, .int (nI dp), .int (nI G), .int (nI W), .int sum, .int (nI i), .int (nI j)]) (st' := [.ref 74, .int sum, .int (nI (pu_set W j)), .int (nI (pu_set G i)), .int (nI (dp + 1)), .ref 74]) rfl ?_
            refine wp_getr 86 rfl rfl rfl ?_
            refine wp_run 5 (pc' := 156) (ls' := [.ref 74, .int (nI dp), .int (nI G), .int (nI W), .int sum, .int (nI i), .int (nI j)]) (st' := [.int ((7 * (nI i)) + (nI j)), .ref 86, .int sum, .int (nI (pu_set W j)), .int (nI (pu_set G i)), .int (nI (dp + 1)), .ref 74]) rfl ?_
            rw [show ((7 * (nI i)) : Int32) = (nI (7 * i)) from pk_mul 7 i]
            rw [show (((nI (7 * i)) + (nI j)) : Int32) = (nI ((7 * i) + j)) from nI_add (7 * i) j]
            refine wp_ald (i := ((7 * i) + j)) (MK j i) (by rw [show ((am_u X 89 dp (nI i)) : am_HI) 86 = X 86 from rfl, e86]; exact hm i (by omega) j hj) rfl rfl rfl (by omega) rfl ?_
            refine wp_run 1 (pc' := 158) (ls' := [.ref 74, .int (nI dp), .int (nI G), .int (nI W), .int sum, .int (nI i), .int (nI j)]) (st' := [.int (sum + (MK j i)), .int (nI (pu_set W j)), .int (nI (pu_set G i)), .int (nI (dp + 1)), .ref 74]) rfl ?_
            have es : ((sum + (MK j i)) : Int32) = od_mr MK (od_pk LK c P i) i sum := (od_mr_1 e5 (by omega)).symm
            have ep : (pu_clr P j) = ab_nx P (od_pk LK c P i) := (od_nx_1 e5 (by omega)).symm
            have hP2 : (pu_clr P j) < 128 := pu_clr_lt P hP j (by omega)
            have hW2 : (pu_set W j) < 128 := pu_set_lt W hW j (by omega)
            have hb2 : ∀ q, q < c → (pu_clr P j).testBit q = !(pu_set W j).testBit q := fun q hq => by
              rw [pu_clr_bit P hP j (by omega) q (by omega), pu_set_bit W hW j (by omega) q (by omega), hbits q hq]
              cases W.testBit q <;> cases (q == j) <;> rfl
            refine wp_callV (o := 74) (as := [.int (nI (dp + 1)), .int (nI (pu_set G i)), .int (nI (pu_set W j)), .int (sum + (MK j i))]) (rest := []) (els := [.ref 74, .int (nI (dp + 1)), .int (nI (pu_set G i)), .int (nI (pu_set W j)), .int (sum + (MK j i)), am_du, am_du]) rfl rfl rfl rfl rfl rfl rfl rfl (by omega) ?_
            refine ih _ _ _ _ _ _ _ _ _ _ _ _ (by omega) (by omega) (pu_set_lt G hG i (by omega)) hP2 hW2 hb2 (rd_st_up hX) (fun X2 hX2 => ?_)
            have hX3 : rd_st h X2 n (od_go LK MK c n k (dp + 1) (pu_set G i) (ab_nx P (od_pk LK c P i)) (od_mr MK (od_pk LK c P i) i sum) (upd path dp (nI i)) (od_fold (fun g s => if G.testBit g = true then s else od_go LK MK c n k (dp + 1) (pu_set G g) (ab_nx P (od_pk LK c P g)) (od_mr MK (od_pk LK c P g) g sum) (upd path dp (nI g)) s) i s)) (dp + 1) (upd path dp (nI i)) := by
              rw [← ep, ← es]
              exact hX2
            show am_wp L xs _ _ _ _ 161 [.ref 74, .int (nI dp), .int (nI G), .int (nI W), .int sum, .int (nI i), .int (nI j)] [] (am_S b) X2 _
            refine wp_run 2 (pc' := 70) (ls' := [.ref 74, .int (nI dp), .int (nI G), .int (nI W), .int sum, .int ((nI i) + 1), .int (nI j)]) (st' := []) rfl ?_
            rw [show (((nI i) + 1) : Int32) = (nI (i + 1)) from nI_add i 1]
            refine ih2 (i + 1) X2 _ (by omega) ?_
            rw [show od_fold (fun g s => if G.testBit g = true then s else od_go LK MK c n k (dp + 1) (pu_set G g) (ab_nx P (od_pk LK c P g)) (od_mr MK (od_pk LK c P g) g sum) (upd path dp (nI g)) s) (i + 1) s = od_go LK MK c n k (dp + 1) (pu_set G i) (ab_nx P (od_pk LK c P i)) (od_mr MK (od_pk LK c P i) i sum) (upd path dp (nI i)) (od_fold (fun g s => if G.testBit g = true then s else od_go LK MK c n k (dp + 1) (pu_set G g) (ab_nx P (od_pk LK c P g)) (od_mr MK (od_pk LK c P g) g sum) (upd path dp (nI g)) s) i s) from if_neg (by rw [hbit]; decide)]
            exact rd_st_dn hX3
    refine wp_run 2 (pc' := 2) (ls' := [.ref 74, .int (nI dp), .int (nI G), .int (nI W), .int sum, am_du, am_du]) (st' := [.ref 74, .int (nI dp)]) rfl ?_
    refine wp_getr 75 rfl rfl rfl ?_
    refine wp_run 1 (pc' := 6) (ls' := [.ref 74, .int (nI dp), .int (nI G), .int (nI W), .int sum, am_du, am_du]) (st' := [.int 2, .ref 75, .int (nI dp)]) rfl ?_
    refine wp_ald (i := 2) (nI n) (show X 75 2 = nI n from by rw [hX.1 75 rfl]; exact hm2) rfl rfl rfl (by decide) rfl ?_
    refine wp_icmp_t rfl (show ¬ (nI dp) = (nI n) from mt (nI_eq (a := dp) (b := n) (by omega) (by omega)).mp (by omega)) ?_
    refine wp_run 2 (pc' := 70) (ls' := [.ref 74, .int (nI dp), .int (nI G), .int (nI W), .int sum, .int 0, am_du]) (st' := []) rfl ?_
    exact hlp n 0 X _ (by omega) hX
