/-! rules for walking the abstract machine -/
theorem wp_b {L : Nat} {xs : Nat → Int32} {d mc ms M pc nx a b c : Nat} {k : Int32} {sw : List (Int × Nat)} {i : ClassFile.Instr} {ls ls' st st' : List Value} {sh : am_SH} {hi : am_HI} {Q : am_Q}
    (h : am_ins M pc = some (i, nx, a, b, c, k, sw)) (hb : am_b i a k ls st = some (ls', st')) (kk : am_wp L xs d mc ms M nx ls' st' sh hi Q) : am_wp L xs d mc ms M pc ls st sh hi Q := by
  apply am_fold
  unfold am_F
  rw [h]
  cases i <;> first | (dsimp only [am_b] at hb; cases hb; done) | (dsimp only; rw [hb]; exact kk)
def am_isgoto (i : ClassFile.Instr) : Bool := match i with
  | .goto _ => true
  | _ => false
/-- a stretch of instructions on locals and stack, jumps among them -/
def am_run : Nat → Nat → Nat → List Value → List Value → Option (Nat × List Value × List Value)
  | 0, _, pc, ls, st => some (pc, ls, st)
  | n + 1, M, pc, ls, st => match am_ins M pc with
    | none => none
    | some (i, nx, a, _, _, k, _) => bif am_isgoto i then am_run n M a ls st else match am_b i a k ls st with
      | none => none
      | some (ls', st') => am_run n M nx ls' st'
theorem wp_goto {L : Nat} {xs : Nat → Int32} {d mc ms M pc nx a b c : Nat} {k : Int32} {sw : List (Int × Nat)} {off : Int} {ls st : List Value} {sh : am_SH} {hi : am_HI} {Q : am_Q}
    (h : am_ins M pc = some (.goto off, nx, a, b, c, k, sw)) (kk : am_wp L xs d mc ms M a ls st sh hi Q) : am_wp L xs d mc ms M pc ls st sh hi Q := by
  apply am_fold
  unfold am_F
  rw [h]
  exact kk
theorem wp_run {L : Nat} {xs : Nat → Int32} {d mc ms M : Nat} {sh : am_SH} {hi : am_HI} {Q : am_Q} : ∀ (n : Nat) {pc pc' : Nat} {ls ls' st st' : List Value}, am_run n M pc ls st = some (pc', ls', st') → am_wp L xs d mc ms M pc' ls' st' sh hi Q → am_wp L xs d mc ms M pc ls st sh hi Q
  | 0, pc, pc', ls, ls', st, st', h, kk => by
    cases h
    exact kk
  | n + 1, pc, pc', ls, ls', st, st', h, kk => by
    unfold am_run at h
    cases hins : am_ins M pc with
    | none => rw [hins] at h; cases h
    | some e =>
      obtain ⟨i, nx, a, b, c, k, sw⟩ := e
      rw [hins] at h
      dsimp only at h
      cases hg : am_isgoto i with
      | true =>
        rw [hg] at h
        dsimp only [cond_true] at h
        cases i <;> first | (cases hg; done) | exact wp_goto hins (wp_run n h kk)
      | false =>
        rw [hg] at h
        dsimp only [cond_false] at h
        cases hb : am_b i a k ls st with
        | none => rw [hb] at h; cases h
        | some o =>
          obtain ⟨l2, s2⟩ := o
          rw [hb] at h
          exact wp_b hins hb (wp_run n h kk)
section AmRules
variable {L : Nat} {xs : Nat → Int32} {d mc ms M pc nx a b c : Nat} {k : Int32} {sw : List (Int × Nat)} {off : Int} {ls st : List Value} {sh : am_SH} {hi : am_HI} {Q : am_Q}
theorem wp_icmp {cd : ClassFile.Cond} {x y : Int32} (h : am_ins M pc = some (.if_icmp cd off, nx, a, b, c, k, sw)) (kt : am_cmp cd x y → am_wp L xs d mc ms M a ls st sh hi Q) (kf : ¬ am_cmp cd x y → am_wp L xs d mc ms M nx ls st sh hi Q) :
    am_wp L xs d mc ms M pc ls (.int y :: .int x :: st) sh hi Q := by
  apply am_fold
  unfold am_F
  rw [h]
  exact ⟨kt, kf⟩
theorem wp_if {cd : ClassFile.Cond} {x : Int32} (h : am_ins M pc = some (.ifCond cd off, nx, a, b, c, k, sw)) (kt : am_cmp cd x 0 → am_wp L xs d mc ms M a ls st sh hi Q) (kf : ¬ am_cmp cd x 0 → am_wp L xs d mc ms M nx ls st sh hi Q) :
    am_wp L xs d mc ms M pc ls (.int x :: st) sh hi Q := by
  apply am_fold
  unfold am_F
  rw [h]
  exact ⟨kt, kf⟩
theorem wp_icmp_t {cd : ClassFile.Cond} {x y : Int32} (h : am_ins M pc = some (.if_icmp cd off, nx, a, b, c, k, sw)) (hc : am_cmp cd x y) (kt : am_wp L xs d mc ms M a ls st sh hi Q) :
    am_wp L xs d mc ms M pc ls (.int y :: .int x :: st) sh hi Q := wp_icmp h (fun _ => kt) (fun q => absurd hc q)
theorem wp_icmp_f {cd : ClassFile.Cond} {x y : Int32} (h : am_ins M pc = some (.if_icmp cd off, nx, a, b, c, k, sw)) (hc : ¬ am_cmp cd x y) (kf : am_wp L xs d mc ms M nx ls st sh hi Q) :
    am_wp L xs d mc ms M pc ls (.int y :: .int x :: st) sh hi Q := wp_icmp h (fun q => absurd q hc) (fun _ => kf)
theorem wp_if_t {cd : ClassFile.Cond} {x : Int32} (h : am_ins M pc = some (.ifCond cd off, nx, a, b, c, k, sw)) (hc : am_cmp cd x 0) (kt : am_wp L xs d mc ms M a ls st sh hi Q) :
    am_wp L xs d mc ms M pc ls (.int x :: st) sh hi Q := wp_if h (fun _ => kt) (fun q => absurd hc q)
theorem wp_if_f {cd : ClassFile.Cond} {x : Int32} (h : am_ins M pc = some (.ifCond cd off, nx, a, b, c, k, sw)) (hc : ¬ am_cmp cd x 0) (kf : am_wp L xs d mc ms M nx ls st sh hi Q) :
    am_wp L xs d mc ms M pc ls (.int x :: st) sh hi Q := wp_if h (fun q => absurd q hc) (fun _ => kf)
theorem am_sw_miss : ∀ (sw : List (Int × Nat)) (a : Nat) (z : Int), (∀ q ∈ sw, q.1 ≠ z) → am_sw sw a z = a
  | [], _, _, _ => rfl
  | (q, t) :: r, a, z, h => by
    simp only [am_sw]
    rw [if_neg (h _ List.mem_cons_self)]
    exact am_sw_miss r a z fun q hq => h q (List.mem_cons_of_mem _ hq)
theorem am_sw_hit : ∀ (sw : List (Int × Nat)) (a : Nat) (z : Int), (∃ q ∈ sw, q.1 = z) → ∃ q ∈ sw, q.1 = z ∧ am_sw sw a z = q.2
  | [], _, _, h => by obtain ⟨q, hq, _⟩ := h; cases hq
  | (q, t) :: r, a, z, h => by
    simp only [am_sw]
    by_cases hz : q = z
    · rw [if_pos hz]
      exact ⟨(q, t), List.mem_cons_self, hz, rfl⟩
    · rw [if_neg hz]
      obtain ⟨q2, h1, h2⟩ := h
      rcases List.mem_cons.mp h1 with rfl | h1
      · exact absurd h2 hz
      · obtain ⟨q3, h3, h4, h5⟩ := am_sw_hit r a z ⟨q2, h1, h2⟩
        exact ⟨q3, List.mem_cons_of_mem _ h3, h4, h5⟩
def am_swi (i : ClassFile.Instr) : Bool := match i with
  | .tableswitch _ _ _ _ => true
  | .lookupswitch _ _ => true
  | _ => false
theorem wp_sw {i : ClassFile.Instr} {x : Int32} (h : am_ins M pc = some (i, nx, a, b, c, k, sw)) (hi2 : am_swi i = true) (kk : am_wp L xs d mc ms M (am_sw sw a x.toInt) ls st sh hi Q) : am_wp L xs d mc ms M pc ls (.int x :: st) sh hi Q := by
  apply am_fold
  unfold am_F
  rw [h]
  cases i <;> first | (cases hi2; done) | exact kk
/-- a switch, case by case: the keys as ints -/
theorem wp_switch {i : ClassFile.Instr} {x : Int32} (ts : List (Int32 × Nat)) (h : am_ins M pc = some (i, nx, a, b, c, k, sw)) (hi2 : am_swi i = true) (hts : ts.map (fun q => (q.1.toInt, q.2)) = sw) (kt : ∀ q ∈ ts, x = q.1 → am_wp L xs d mc ms M q.2 ls st sh hi Q)
    (kd : (∀ q ∈ ts, x ≠ q.1) → am_wp L xs d mc ms M a ls st sh hi Q) : am_wp L xs d mc ms M pc ls (.int x :: st) sh hi Q := by
  refine wp_sw h hi2 ?_
  by_cases hx : ∃ q ∈ sw, q.1 = x.toInt
  · obtain ⟨q, h1, h2, h3⟩ := am_sw_hit sw a x.toInt hx
    rw [h3]
    rw [← hts] at h1
    obtain ⟨q2, h4, rfl⟩ := List.mem_map.mp h1
    exact kt q2 h4 (Int32.toInt_inj.mp h2).symm
  · rw [am_sw_miss sw a x.toInt fun q hq he => hx ⟨q, hq, he⟩]
    refine kd fun q hq he => hx ⟨(q.1.toInt, q.2), ?_, by rw [he]⟩
    rw [← hts]
    exact List.mem_map.mpr ⟨q, hq, rfl⟩
theorem wp_idiv {x y : Int32} (h : am_ins M pc = some (.idiv, nx, a, b, c, k, sw)) (hy : ¬ y = 0) (kk : am_wp L xs d mc ms M nx ls (.int (x / y) :: st) sh hi Q) : am_wp L xs d mc ms M pc ls (.int y :: .int x :: st) sh hi Q := by
  apply am_fold
  unfold am_F
  rw [h]
  exact ⟨hy, kk⟩
theorem wp_irem {x y : Int32} (h : am_ins M pc = some (.irem, nx, a, b, c, k, sw)) (hy : ¬ y = 0) (kk : am_wp L xs d mc ms M nx ls (.int (am_rem x y) :: st) sh hi Q) : am_wp L xs d mc ms M pc ls (.int y :: .int x :: st) sh hi Q := by
  apply am_fold
  unfold am_F
  rw [h]
  exact ⟨hy, kk⟩
def am_objb (sh : am_SH) (r c : Nat) : Bool := match sh[r]? with
  | some (t, n, z) => t == c && n == am_nf c && Nat.blt c 10 && z.length == am_nf c
  | none => false
theorem am_objb_ok {r : Nat} (h : am_objb sh r c = true) : am_obj sh r c := by
  unfold am_objb at h
  split at h
  · rename_i t n z hz
    simp only [Bool.and_eq_true, beq_iff_eq] at h
    obtain ⟨⟨⟨rfl, rfl⟩, h3⟩, h4⟩ := h
    exact ⟨z, hz, Nat.le_of_ble_eq_true h3, h4⟩
  · cases h
theorem wp_geti {j o : Nat} (v : Int32) (hv : hi o a = v) (h : am_ins M pc = some (.getfield j, nx, a, b, c, k, sw)) (hb : Nat.beq b 2 = false) (ho : am_objb sh o c = true) (kk : am_wp L xs d mc ms M nx ls (.int v :: st) sh hi Q) : am_wp L xs d mc ms M pc ls (.ref o :: st) sh hi Q := by
  apply am_fold
  unfold am_F
  rw [h]
  refine ⟨am_objb_ok ho, ?_⟩
  rw [if_neg (fun e => by rw [e] at hb; cases hb), hv]
  exact kk
theorem wp_getr {j o : Nat} (r : Nat) (h : am_ins M pc = some (.getfield j, nx, a, 2, c, k, sw)) (ho : am_objb sh o c = true) (hr : am_rf sh o a = r + 1) (kk : am_wp L xs d mc ms M nx ls (.ref r :: st) sh hi Q) : am_wp L xs d mc ms M pc ls (.ref o :: st) sh hi Q := by
  apply am_fold
  unfold am_F
  rw [h]
  refine ⟨am_objb_ok ho, ?_⟩
  rw [if_pos rfl, hr]
  exact kk
theorem wp_puti {j o : Nat} {x : Int32} (h : am_ins M pc = some (.putfield j, nx, a, 0, c, k, sw)) (ho : am_objb sh o c = true) (kk : am_wp L xs d mc ms M nx ls st sh (am_u hi o a x) Q) : am_wp L xs d mc ms M pc ls (.int x :: .ref o :: st) sh hi Q := by
  apply am_fold
  unfold am_F
  rw [h]
  exact ⟨am_objb_ok ho, by decide, (fun e => by cases e), kk⟩
theorem wp_putz {j o : Nat} {x : Int32} (h : am_ins M pc = some (.putfield j, nx, a, 1, c, k, sw)) (hx : x = 0 ∨ x = 1) (ho : am_objb sh o c = true) (kk : am_wp L xs d mc ms M nx ls st sh (am_u hi o a x) Q) : am_wp L xs d mc ms M pc ls (.int x :: .ref o :: st) sh hi Q := by
  apply am_fold
  unfold am_F
  rw [h]
  exact ⟨am_objb_ok ho, by decide, (fun _ => hx), kk⟩
theorem wp_putr {j o q : Nat} {sh' : am_SH} (h : am_ins M pc = some (.putfield j, nx, a, 2, c, k, sw)) (ho : am_objb sh o c = true) (hs : am_sr sh o a (q + 1) = sh') (kk : am_wp L xs d mc ms M nx ls st sh' hi Q) : am_wp L xs d mc ms M pc ls (.ref q :: .ref o :: st) sh hi Q := by
  apply am_fold
  unfold am_F
  rw [h]
  exact ⟨am_objb_ok ho, rfl, by rw [hs]; exact kk⟩
theorem wp_gets {j : Nat} (h : am_ins M pc = some (.getstatic j, nx, a, b, c, k, sw)) (kk : am_wp L xs d mc ms M nx ls (.ref a :: st) sh hi Q) : am_wp L xs d mc ms M pc ls st sh hi Q := by
  apply am_fold
  unfold am_F
  rw [h]
  exact kk
theorem am_in_nI {i n : Nat} (h : i < n) (hn : n < 2 ^ 31) : vp_in (nI i) n ∧ (nI i).toNatClampNeg = i := ⟨vp_in_nI h hn, nI_clamp (Nat.lt_trans h hn)⟩
/-- a read of a row of ints, at a place that is a number -/
theorem wp_ald {o n i : Nat} {x : Int32} {z : List Nat} (v : Int32) (hv : hi o i = v) (h : am_ins M pc = some (.iaload, nx, a, b, c, k, sw)) (hz : sh[o]? = some (20, n, z)) (hx : x = nI i) (hi2 : i < n) (hn : Nat.blt n 100000 = true) (kk : am_wp L xs d mc ms M nx ls (.int v :: st) sh hi Q) :
    am_wp L xs d mc ms M pc ls (.int x :: .ref o :: st) sh hi Q := by
  have hn2 : n < 2 ^ 31 := Nat.lt_trans (Nat.le_of_ble_eq_true hn) (by decide)
  obtain ⟨h1, h2⟩ := am_in_nI hi2 hn2
  apply am_fold
  unfold am_F
  rw [h, hx]
  refine ⟨n, hi o, Or.inl ⟨z, hz, rfl⟩, h1, ?_⟩
  rw [h2, hv]
  exact kk
theorem wp_ald1 {i : Nat} {x : Int32} (v : Int32) (hv : am_tab1 i = v) (h : am_ins M pc = some (.iaload, nx, a, b, c, k, sw)) (hx : x = nI i) (hi2 : i < 7) (kk : am_wp L xs d mc ms M nx ls (.int v :: st) sh hi Q) : am_wp L xs d mc ms M pc ls (.int x :: .ref 1001 :: st) sh hi Q := by
  obtain ⟨h1, h2⟩ := am_in_nI hi2 (by decide)
  apply am_fold
  unfold am_F
  rw [h, hx]
  refine ⟨7, am_tab1, Or.inr (Or.inr (Or.inl ⟨rfl, rfl, rfl⟩)), h1, ?_⟩
  rw [h2, hv]
  exact kk
theorem wp_ald2 {i : Nat} {x : Int32} (v : Int32) (hv : am_tab2 i = v) (h : am_ins M pc = some (.iaload, nx, a, b, c, k, sw)) (hx : x = nI i) (hi2 : i < 28) (kk : am_wp L xs d mc ms M nx ls (.int v :: st) sh hi Q) : am_wp L xs d mc ms M pc ls (.int x :: .ref 1002 :: st) sh hi Q := by
  obtain ⟨h1, h2⟩ := am_in_nI hi2 (by decide)
  apply am_fold
  unfold am_F
  rw [h, hx]
  refine ⟨28, am_tab2, Or.inr (Or.inr (Or.inr ⟨rfl, rfl, rfl⟩)), h1, ?_⟩
  rw [h2, hv]
  exact kk
theorem wp_ald3 {i : Nat} {x : Int32} (v : Int32) (hv : am_tab3 i = v) (h : am_ins M pc = some (.caload, nx, a, b, c, k, sw)) (hx : x = nI i) (hi2 : i < 6) (kk : am_wp L xs d mc ms M nx ls (.int v :: st) sh hi Q) : am_wp L xs d mc ms M pc ls (.int x :: .ref 1003 :: st) sh hi Q := by
  obtain ⟨h1, h2⟩ := am_in_nI hi2 (by decide)
  apply am_fold
  unfold am_F
  rw [h, hx]
  refine ⟨rfl, h1, ?_⟩
  rw [h2, hv]
  exact kk
theorem wp_ald0 {i : Nat} {x : Int32} (h : am_ins M pc = some (.iaload, nx, a, b, c, k, sw)) (hL : L ≤ 3072) (hx : x = nI i) (hi2 : i < L) (kk : am_wp L xs d mc ms M nx ls (.int (xs i) :: st) sh hi Q) : am_wp L xs d mc ms M pc ls (.int x :: .ref 1000 :: st) sh hi Q := by
  obtain ⟨h1, h2⟩ := am_in_nI hi2 (Nat.lt_of_le_of_lt hL (by decide))
  apply am_fold
  unfold am_F
  rw [h, hx]
  refine ⟨L, xs, Or.inr (Or.inl ⟨rfl, rfl, rfl⟩), h1, ?_⟩
  rw [h2]
  exact kk
theorem wp_ast {o n i : Nat} {x y : Int32} {z : List Nat} (h : am_ins M pc = some (.iastore, nx, a, b, c, k, sw)) (hz : sh[o]? = some (20, n, z)) (hx : x = nI i) (hi2 : i < n) (hn : Nat.blt n 100000 = true) (kk : am_wp L xs d mc ms M nx ls st sh (am_u hi o i y) Q) :
    am_wp L xs d mc ms M pc ls (.int y :: .int x :: .ref o :: st) sh hi Q := by
  have hn2 : n < 2 ^ 31 := Nat.lt_trans (Nat.le_of_ble_eq_true hn) (by decide)
  obtain ⟨h1, h2⟩ := am_in_nI hi2 hn2
  apply am_fold
  unfold am_F
  rw [h, hx]
  refine ⟨n, z, hz, h1, ?_⟩
  rw [h2]
  exact kk
theorem wp_aald {o i r t n : Nat} {x : Int32} {z : List Nat} (h : am_ins M pc = some (.aaload, nx, a, b, c, k, sw)) (hz : sh[o]? = some (t, n, z)) (ht : t = 21 ∨ t = 22) (hx : x = nI i) (hi2 : i < n) (hn : Nat.blt n 100000 = true) (hr : z.getD i 0 = r + 1) (kk : am_wp L xs d mc ms M nx ls (.ref r :: st) sh hi Q) :
    am_wp L xs d mc ms M pc ls (.int x :: .ref o :: st) sh hi Q := by
  have hn2 : n < 2 ^ 31 := Nat.lt_trans (Nat.le_of_ble_eq_true hn) (by decide)
  obtain ⟨h1, h2⟩ := am_in_nI hi2 hn2
  apply am_fold
  unfold am_F
  rw [h, hx]
  refine ⟨t, n, z, hz, ht, h1, ?_⟩
  rw [h2, hr]
  exact kk
theorem wp_len {o n : Nat} {z : List Nat} (h : am_ins M pc = some (.arraylength, nx, a, b, c, k, sw)) (hz : sh[o]? = some (20, n, z)) (kk : am_wp L xs d mc ms M nx ls (.int (nI n) :: st) sh hi Q) : am_wp L xs d mc ms M pc ls (.ref o :: st) sh hi Q := by
  apply am_fold
  unfold am_F
  rw [h]
  exact ⟨n, Or.inl ⟨z, hz⟩, kk⟩
theorem wp_len0 (h : am_ins M pc = some (.arraylength, nx, a, b, c, k, sw)) (kk : am_wp L xs d mc ms M nx ls (.int (nI L) :: st) sh hi Q) : am_wp L xs d mc ms M pc ls (.ref 1000 :: st) sh hi Q := by
  apply am_fold
  unfold am_F
  rw [h]
  exact ⟨L, Or.inr (Or.inl ⟨rfl, rfl⟩), kk⟩
theorem wp_len3 (h : am_ins M pc = some (.arraylength, nx, a, b, c, k, sw)) (kk : am_wp L xs d mc ms M nx ls (.int (nI 6) :: st) sh hi Q) : am_wp L xs d mc ms M pc ls (.ref 1003 :: st) sh hi Q := by
  apply am_fold
  unfold am_F
  rw [h]
  exact ⟨6, Or.inr (Or.inr ⟨rfl, rfl⟩), kk⟩
theorem wp_callV {j o : Nat} {as els rest : List Value} (h : am_ins M pc = some (.invokevirtual j, nx, a, b, c, k, sw)) (h1 : (st.take b).reverse = .ref o :: as) (h2 : st.drop b = rest) (h3 : Nat.ble b st.length = true) (h4 : Nat.ble (am_cats rest) 8 = true) (h5 : am_en (c / 256) (.ref o :: as) = els) (h6 : Nat.beq els.length (c / 256) = true)
    (ho : am_objb sh o (c / 16 % 16) = true) (hd : 1 ≤ d) (kk : am_wp L xs (d - 1) 0 0 a 0 els [] sh hi (fun r sh' hi' => am_wp L xs d mc ms M nx ls (r.toList ++ rest) sh' hi' Q)) : am_wp L xs d mc ms M pc ls st sh hi Q := by
  apply am_fold
  unfold am_F
  rw [h]
  refine ⟨Nat.le_of_ble_eq_true h3, ⟨o, by rw [h1]; rfl, am_objb_ok ho⟩, ?_⟩
  rw [h1, h2]
  refine ⟨Nat.le_of_ble_eq_true h4, by rw [h5]; exact Nat.eq_of_beq_eq_true h6, d - 1, 0, mc, 0, ms, _, by omega, by omega, by omega, by rw [h5]; exact kk, fun r sh' hi' hr => hr⟩
theorem wp_callS {j : Nat} {as els rest : List Value} (h : am_ins M pc = some (.invokestatic j, nx, a, b, c, k, sw)) (hc : Nat.blt 200 c = true) (h1 : (st.take b).reverse = as) (h2 : st.drop b = rest) (h3 : Nat.ble b st.length = true) (h4 : Nat.ble (am_cats rest) 8 = true) (h5 : am_en (c / 256) as = els) (h6 : Nat.beq els.length (c / 256) = true)
    (hd : 1 ≤ d) (kk : am_wp L xs (d - 1) 0 0 a 0 els [] sh hi (fun r sh' hi' => am_wp L xs d mc ms M nx ls (r.toList ++ rest) sh' hi' Q)) : am_wp L xs d mc ms M pc ls st sh hi Q := by
  have hc2 : 200 < c := Nat.le_of_ble_eq_true hc
  apply am_fold
  unfold am_F
  rw [h]
  dsimp only
  rw [if_neg (by omega), if_neg (by omega), if_neg (by omega), if_neg (by omega)]
  refine ⟨Nat.le_of_ble_eq_true h3, ?_⟩
  rw [h1, h2]
  refine ⟨Nat.le_of_ble_eq_true h4, by rw [h5]; exact Nat.eq_of_beq_eq_true h6, d - 1, 0, mc, 0, ms, _, by omega, by omega, by omega, by rw [h5]; exact kk, fun r sh' hi' hr => hr⟩
theorem wp_callI {j o : Nat} {as els rest : List Value} (m1 m2 n1 n2 : Nat) (h : am_ins M pc = some (.invokespecial j, nx, a, b, c, k, sw)) (hc : Nat.blt 200 c = true) (h1 : (st.take b).reverse = .ref o :: as) (h2 : st.drop b = rest) (h3 : Nat.ble b st.length = true) (h4 : Nat.ble (am_cats rest) 8 = true) (h5 : am_en (c / 256) (.ref o :: as) = els) (h6 : Nat.beq els.length (c / 256) = true)
    (hd : 1 ≤ d) (hm : m1 + m2 = mc) (hn : n1 + n2 ≤ ms) (kk : am_wp L xs (d - 1) m1 n1 a 0 els [] sh hi (fun r sh' hi' => am_wp L xs d m2 n2 M nx ls (r.toList ++ rest) sh' hi' Q)) : am_wp L xs d mc ms M pc ls st sh hi Q := by
  have hc2 : 200 < c := Nat.le_of_ble_eq_true hc
  apply am_fold
  unfold am_F
  rw [h]
  dsimp only
  rw [if_neg (by omega)]
  refine ⟨Nat.le_of_ble_eq_true h3, ⟨o, by rw [h1]; rfl⟩, ?_⟩
  rw [h1, h2]
  refine ⟨Nat.le_of_ble_eq_true h4, by rw [h5]; exact Nat.eq_of_beq_eq_true h6, d - 1, m1, m2, n1, n2, _, by omega, hm, hn, by rw [h5]; exact kk, fun r sh' hi' hr => hr⟩
theorem wp_max {j : Nat} {x y : Int32} (h : am_ins M pc = some (.invokestatic j, nx, a, b, 10, k, sw)) (h4 : Nat.ble (am_cats st) 8 = true) (hd : 1 ≤ d) (kk : am_wp L xs d mc ms M nx ls (.int (am_imax x y) :: st) sh hi Q) : am_wp L xs d mc ms M pc ls (.int y :: .int x :: st) sh hi Q := by
  apply am_fold
  unfold am_F
  rw [h]
  dsimp only
  rw [if_neg (by decide), if_pos rfl]
  exact ⟨hd, Nat.le_of_ble_eq_true h4, kk⟩
theorem wp_min {j : Nat} {x y : Int32} (h : am_ins M pc = some (.invokestatic j, nx, a, b, 11, k, sw)) (h4 : Nat.ble (am_cats st) 8 = true) (hd : 1 ≤ d) (kk : am_wp L xs d mc ms M nx ls (.int (am_imin x y) :: st) sh hi Q) : am_wp L xs d mc ms M pc ls (.int y :: .int x :: st) sh hi Q := by
  apply am_fold
  unfold am_F
  rw [h]
  dsimp only
  rw [if_neg (by decide), if_neg (by decide), if_pos rfl]
  exact ⟨hd, Nat.le_of_ble_eq_true h4, kk⟩
theorem wp_abs {j : Nat} {x : Int32} (h : am_ins M pc = some (.invokestatic j, nx, a, b, 12, k, sw)) (h4 : Nat.ble (am_cats st) 8 = true) (hd : 1 ≤ d) (kk : am_wp L xs d mc ms M nx ls (.int (am_iabs x) :: st) sh hi Q) : am_wp L xs d mc ms M pc ls (.int x :: st) sh hi Q := by
  apply am_fold
  unfold am_F
  rw [h]
  dsimp only
  rw [if_neg (by decide), if_neg (by decide), if_neg (by decide), if_pos rfl]
  exact ⟨hd, Nat.le_of_ble_eq_true h4, kk⟩
theorem wp_copy {j q o n0 n1 sp dp n : Nat} {xn xs1 xd : Int32} {z0 z1 : List Nat} (h : am_ins M pc = some (.invokestatic j, nx, a, b, 8, k, sw)) (h0 : sh[q]? = some (20, n0, z0)) (h1 : sh[o]? = some (20, n1, z1)) (e1 : xs1 = nI sp) (e2 : xd = nI dp) (e3 : xn = nI n) (b1 : sp + n ≤ n0) (b2 : dp + n ≤ n1) (b3 : n0 < 100000) (b4 : n1 < 100000) (h4 : Nat.ble (am_cats st) 8 = true) (hd : 1 ≤ d)
    (kk : am_wp L xs d mc ms M nx ls st sh (am_ur hi o (va_cpy (hi q) (hi o) sp dp n)) Q) : am_wp L xs d mc ms M pc ls (.int xn :: .int xd :: .ref o :: .int xs1 :: .ref q :: st) sh hi Q := by
  subst e1; subst e2; subst e3
  have g1 : (nI sp).toNatClampNeg = sp := nI_clamp (by omega)
  have g2 : (nI dp).toNatClampNeg = dp := nI_clamp (by omega)
  have g3 : (nI n).toNatClampNeg = n := nI_clamp (by omega)
  apply am_fold
  unfold am_F
  rw [h]
  dsimp only
  rw [if_pos rfl]
  refine ⟨n0, n1, z0, z1, h0, h1, nI_pos (by omega), nI_pos (by omega), nI_pos (by omega), by rw [g1, g3]; exact b1, by rw [g2, g3]; exact b2, hd, Nat.le_of_ble_eq_true h4, ?_⟩
  rw [g1, g2, g3]
  exact kk
theorem wp_ret {v : Int32} (h : am_ins M pc = some (.ireturn, nx, a, 0, c, k, sw)) (kk : Q (some (.int v)) sh hi) : am_wp L xs d 0 ms M pc ls [.int v] sh hi Q := by
  apply am_fold
  unfold am_F
  rw [h]
  exact ⟨rfl, (fun e => by cases e), kk⟩
theorem wp_retz {v : Int32} (h : am_ins M pc = some (.ireturn, nx, a, 1, c, k, sw)) (hv : v = 0 ∨ v = 1) (kk : Q (some (.int v)) sh hi) : am_wp L xs d 0 ms M pc ls [.int v] sh hi Q := by
  apply am_fold
  unfold am_F
  rw [h]
  exact ⟨rfl, (fun _ => hv), kk⟩
theorem wp_retv (h : am_ins M pc = some (.return_, nx, a, b, c, k, sw)) (kk : Q none sh hi) : am_wp L xs d 0 ms M pc ls [] sh hi Q := by
  apply am_fold
  unfold am_F
  rw [h]
  exact ⟨rfl, kk⟩
end AmRules
