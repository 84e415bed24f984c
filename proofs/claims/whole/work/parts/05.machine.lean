/-! the abstract machine: a world of cells told by a shape (class, length, references) and by its ints; 'wp' is the least predicate that its steps close -/
abbrev am_SH : Type := List (Nat × Nat × List Nat)
abbrev am_HI : Type := Nat → Nat → Int32
abbrev am_Q : Type := Option Value → am_SH → am_HI → Prop
abbrev am_P : Type := Nat → Nat → Nat → Nat → Nat → List Value → List Value → am_SH → am_HI → am_Q → Prop
def am_u (h : am_HI) (a i : Nat) (v : Int32) : am_HI := fun b => if b = a then upd (h b) i v else h b
def am_ur (h : am_HI) (a : Nat) (f : Nat → Int32) : am_HI := fun b => if b = a then f else h b
def am_rv : Nat → Value
  | 0 => .null
  | k + 1 => .ref k
def am_rf (sh : am_SH) (r k : Nat) : Nat := match sh[r]? with
  | some (_, _, z) => z.getD k 0
  | none => 0
def am_sr (sh : am_SH) (r k v : Nat) : am_SH := match sh[r]? with
  | some (t, n, z) => sh.set r (t, n, z.set k v)
  | none => sh
def am_obj (sh : am_SH) (r c : Nat) : Prop := ∃ z, sh[r]? = some (c, am_nf c, z) ∧ c < 10 ∧ z.length = am_nf c
def am_tab1 : Nat → Int32 := fun i => ([-1, 0, 0, 0, 1, 2, 0] : List Int32).getD i 0
def am_tab2 : Nat → Int32 := fun i => ([10, 11, 12, 13, 20, 0, 0, 21, 0, 30, 0, 0, 0, 0, 40, 0, 50, 0, 51, 0, 0, 60, 0, 0, 70, 71, 0, 0] : List Int32).getD i 0
def am_tab3 : Nat → Int32 := fun i => ([103, 115, 110, 100, 119, 111] : List Int32).getD i 0
/-- an int array that can be read -/
def am_ia (L : Nat) (xs : Nat → Int32) (sh : am_SH) (hi : am_HI) (r n : Nat) (f : Nat → Int32) : Prop :=
  (∃ z, sh[r]? = some (20, n, z) ∧ f = hi r) ∨ (r = 1000 ∧ n = L ∧ f = xs) ∨ (r = 1001 ∧ n = 7 ∧ f = am_tab1) ∨ (r = 1002 ∧ n = 28 ∧ f = am_tab2)
def am_al (L : Nat) (sh : am_SH) (r n : Nat) : Prop := (∃ z, sh[r]? = some (20, n, z)) ∨ (r = 1000 ∧ n = L) ∨ (r = 1003 ∧ n = 6)
def am_cmp (cd : ClassFile.Cond) (x y : Int32) : Prop := match cd with
  | .eq => x = y
  | .ne => ¬ x = y
  | .lt => x < y
  | .ge => y ≤ x
  | .gt => y < x
  | .le => x ≤ y
def am_sw : List (Int × Nat) → Nat → Int → Nat
  | [], a, _ => a
  | (q, t) :: r, a, z => if q = z then t else am_sw r a z
def am_rem (x y : Int32) : Int32 := x - x / y * y
def am_ushr (x y : Int32) : Int32 := (x.toUInt32 >>> (y.toUInt32 &&& Int32.toUInt32 31)).toInt32
def am_lushr (x : Int64) (y : Int32) : Int64 := (x.toUInt64 >>> (y.toInt64.toUInt64 &&& Int64.toUInt64 63)).toInt64
def am_st (ls : List Value) (a : Nat) (v : Value) (st : List Value) : Option (List Value × List Value) :=
  if a < ls.length then
    match a with
    | 0 => some (ls.set 0 v, st)
    | b + 1 => match ls[b]? with
      | some (.long _) => none
      | some (.double _) => none
      | _ => some (ls.set (b + 1) v, st)
  else none
/-- the instructions that touch locals and stack alone -/
def am_b (i : ClassFile.Instr) (a : Nat) (k : Int32) (ls st : List Value) : Option (List Value × List Value) :=
  match i with
  | .iconst _ => some (ls, .int k :: st)
  | .bipush _ => some (ls, .int k :: st)
  | .sipush _ => some (ls, .int k :: st)
  | .ldc _ => some (ls, .int k :: st)
  | .ldc_w _ => some (ls, .int k :: st)
  | .ldc2_w _ => some (ls, .long (Int64.ofNat a) :: st)
  | .iload _ => match ls[a]? with
    | some (.int x) => some (ls, .int x :: st)
    | _ => none
  | .iload_n _ => match ls[a]? with
    | some (.int x) => some (ls, .int x :: st)
    | _ => none
  | .lload_n _ => match ls[a]? with
    | some (.long x) => some (ls, .long x :: st)
    | _ => none
  | .aload _ => match ls[a]? with
    | some (.ref x) => some (ls, .ref x :: st)
    | _ => none
  | .aload_n _ => match ls[a]? with
    | some (.ref x) => some (ls, .ref x :: st)
    | _ => none
  | .istore _ => match st with
    | .int x :: r => am_st ls a (.int x) r
    | _ => none
  | .istore_n _ => match st with
    | .int x :: r => am_st ls a (.int x) r
    | _ => none
  | .astore _ => match st with
    | .ref x :: r => am_st ls a (.ref x) r
    | _ => none
  | .astore_n _ => match st with
    | .ref x :: r => am_st ls a (.ref x) r
    | _ => none
  | .iinc _ _ => match ls[a]? with
    | some (.int x) => am_st ls a (.int (x + k)) st
    | _ => none
  | .dup => match st with
    | .int x :: r => some (ls, .int x :: .int x :: r)
    | .ref x :: r => some (ls, .ref x :: .ref x :: r)
    | _ => none
  | .dup2 => match st with
    | .int y :: .ref x :: r => some (ls, .int y :: .ref x :: .int y :: .ref x :: r)
    | _ => none
  | .pop => match st with
    | .int _ :: r => some (ls, r)
    | _ => none
  | .iadd => match st with
    | .int y :: .int x :: r => some (ls, .int (x + y) :: r)
    | _ => none
  | .isub => match st with
    | .int y :: .int x :: r => some (ls, .int (x - y) :: r)
    | _ => none
  | .imul => match st with
    | .int y :: .int x :: r => some (ls, .int (x * y) :: r)
    | _ => none
  | .ineg => match st with
    | .int x :: r => some (ls, .int (-x) :: r)
    | _ => none
  | .ishl => match st with
    | .int y :: .int x :: r => some (ls, .int (x <<< (y &&& 31)) :: r)
    | _ => none
  | .ishr => match st with
    | .int y :: .int x :: r => some (ls, .int (x >>> (y &&& 31)) :: r)
    | _ => none
  | .iushr => match st with
    | .int y :: .int x :: r => some (ls, .int (am_ushr x y) :: r)
    | _ => none
  | .iand => match st with
    | .int y :: .int x :: r => some (ls, .int (x &&& y) :: r)
    | _ => none
  | .ior => match st with
    | .int y :: .int x :: r => some (ls, .int (x ||| y) :: r)
    | _ => none
  | .ixor => match st with
    | .int y :: .int x :: r => some (ls, .int (x ^^^ y) :: r)
    | _ => none
  | .i2l => match st with
    | .int x :: r => some (ls, .long x.toInt64 :: r)
    | _ => none
  | .l2i => match st with
    | .long x :: r => some (ls, .int x.toInt32 :: r)
    | _ => none
  | .i2b => match st with
    | .int x :: r => some (ls, .int x.toInt8.toInt32 :: r)
    | _ => none
  | .i2s => match st with
    | .int x :: r => some (ls, .int x.toInt16.toInt32 :: r)
    | _ => none
  | .lshl => match st with
    | .int y :: .long x :: r => some (ls, .long (x <<< (y.toInt64 &&& 63)) :: r)
    | _ => none
  | .lshr => match st with
    | .int y :: .long x :: r => some (ls, .long (x >>> (y.toInt64 &&& 63)) :: r)
    | _ => none
  | .lushr => match st with
    | .int y :: .long x :: r => some (ls, .long (am_lushr x y) :: r)
    | _ => none
  | .land => match st with
    | .long y :: .long x :: r => some (ls, .long (x &&& y) :: r)
    | _ => none
  | .lor => match st with
    | .long y :: .long x :: r => some (ls, .long (x ||| y) :: r)
    | _ => none
  | _ => none
def am_imax (x y : Int32) : Int32 := if x < y then y else x
def am_imin (x y : Int32) : Int32 := if y < x then y else x
def am_iabs (x : Int32) : Int32 := if 0 ≤ x then x else 0 - x
def am_du : Value := .retAddr 0
def am_en (n : Nat) (as : List Value) : List Value :=
  let l := as.flatMap fun v => if v.category = 2 then [v, am_du] else [v]
  l ++ List.replicate (n - l.length) am_du
def am_cats (st : List Value) : Nat := (st.map fun v => v.category).sum
/-- a call of method a with the arguments as (the receiver first), and what goes on behind it -/
def am_call (P : am_P) (d mc ms M nx : Nat) (ls rest : List Value) (sh : am_SH) (hi : am_HI) (Q : am_Q) (a ml : Nat) (as : List Value) : Prop :=
  am_cats rest ≤ 8 ∧ (am_en ml as).length = ml ∧ ∃ (d' m1 m2 n1 n2 : Nat) (Post : am_Q), d' + 1 ≤ d ∧ m1 + m2 = mc ∧ n1 + n2 ≤ ms ∧ P d' m1 n1 a 0 (am_en ml as) [] sh hi Post ∧
    ∀ (r : Option Value) (sh' : am_SH) (hi' : am_HI), Post r sh' hi' → P d m2 n2 M nx ls (r.toList ++ rest) sh' hi' Q
/-- one step, with P for what comes behind it -/
def am_F (L : Nat) (xs : Nat → Int32) (P : am_P) : am_P := fun d mc ms M pc ls st sh hi Q =>
  match am_ins M pc with
  | none => False
  | some (i, nx, a, b, c, k, sw) =>
    match i with
    | .goto _ => P d mc ms M a ls st sh hi Q
    | .if_icmp cd _ => match st with
      | .int y :: .int x :: r => (am_cmp cd x y → P d mc ms M a ls r sh hi Q) ∧ (¬ am_cmp cd x y → P d mc ms M nx ls r sh hi Q)
      | _ => False
    | .ifCond cd _ => match st with
      | .int x :: r => (am_cmp cd x 0 → P d mc ms M a ls r sh hi Q) ∧ (¬ am_cmp cd x 0 → P d mc ms M nx ls r sh hi Q)
      | _ => False
    | .tableswitch _ _ _ _ => match st with
      | .int x :: r => P d mc ms M (am_sw sw a x.toInt) ls r sh hi Q
      | _ => False
    | .lookupswitch _ _ => match st with
      | .int x :: r => P d mc ms M (am_sw sw a x.toInt) ls r sh hi Q
      | _ => False
    | .idiv => match st with
      | .int y :: .int x :: r => ¬ y = 0 ∧ P d mc ms M nx ls (.int (x / y) :: r) sh hi Q
      | _ => False
    | .irem => match st with
      | .int y :: .int x :: r => ¬ y = 0 ∧ P d mc ms M nx ls (.int (am_rem x y) :: r) sh hi Q
      | _ => False
    | .getfield _ => match st with
      | .ref o :: r => am_obj sh o c ∧ P d mc ms M nx ls ((if b = 2 then am_rv (am_rf sh o a) else .int (hi o a)) :: r) sh hi Q
      | _ => False
    | .putfield _ => match st with
      | .int x :: .ref o :: r => am_obj sh o c ∧ ¬ b = 2 ∧ (b = 1 → x = 0 ∨ x = 1) ∧ P d mc ms M nx ls r sh (am_u hi o a x) Q
      | .ref q :: .ref o :: r => am_obj sh o c ∧ b = 2 ∧ P d mc ms M nx ls r (am_sr sh o a (q + 1)) hi Q
      | _ => False
    | .getstatic _ => P d mc ms M nx ls (.ref a :: st) sh hi Q
    | .iaload => match st with
      | .int j :: .ref o :: r => ∃ n f, am_ia L xs sh hi o n f ∧ vp_in j n ∧ P d mc ms M nx ls (.int (f j.toNatClampNeg) :: r) sh hi Q
      | _ => False
    | .caload => match st with
      | .int j :: .ref o :: r => o = 1003 ∧ vp_in j 6 ∧ P d mc ms M nx ls (.int (am_tab3 j.toNatClampNeg) :: r) sh hi Q
      | _ => False
    | .iastore => match st with
      | .int x :: .int j :: .ref o :: r => ∃ n z, sh[o]? = some (20, n, z) ∧ vp_in j n ∧ P d mc ms M nx ls r sh (am_u hi o j.toNatClampNeg x) Q
      | _ => False
    | .arraylength => match st with
      | .ref o :: r => ∃ n, am_al L sh o n ∧ P d mc ms M nx ls (.int (Int32.ofNat n) :: r) sh hi Q
      | _ => False
    | .aaload => match st with
      | .int j :: .ref o :: r => ∃ t n z, sh[o]? = some (t, n, z) ∧ (t = 21 ∨ t = 22) ∧ vp_in j n ∧ P d mc ms M nx ls (am_rv (z.getD j.toNatClampNeg 0) :: r) sh hi Q
      | _ => False
    | .aastore => match st with
      | .ref q :: .int j :: .ref o :: r => ∃ t n z, sh[o]? = some (t, n, z) ∧ (t = 21 ∧ am_obj sh q 3 ∨ t = 22 ∧ am_obj sh q 5) ∧ n = z.length ∧ vp_in j n ∧ P d mc ms M nx ls r (am_sr sh o j.toNatClampNeg (q + 1)) hi Q
      | _ => False
    | .newarray _ => match st with
      | .int n :: r => ¬ n < 0 ∧ n.toNatClampNeg ≤ 100000 ∧ sh.length < 900 ∧ (∀ j, hi sh.length j = 0) ∧ 1 ≤ mc ∧ n.toNatClampNeg ≤ ms ∧
          P d (mc - 1) (ms - n.toNatClampNeg) M nx ls (.ref sh.length :: r) (sh ++ [(20, n.toNatClampNeg, [])]) hi Q
      | _ => False
    | .anewarray _ => match st with
      | .int n :: r => ¬ n < 0 ∧ n.toNatClampNeg ≤ 100000 ∧ sh.length < 900 ∧ 1 ≤ mc ∧ n.toNatClampNeg ≤ ms ∧
          P d (mc - 1) (ms - n.toNatClampNeg) M nx ls (.ref sh.length :: r) (sh ++ [(a, n.toNatClampNeg, List.replicate n.toNatClampNeg 0)]) hi Q
      | _ => False
    | .new _ => sh.length < 900 ∧ (∀ j, hi sh.length j = 0) ∧ 1 ≤ mc ∧ am_nf a ≤ ms ∧ am_cats st ≤ 8 ∧
          P d (mc - 1) (ms - am_nf a) M nx ls (.ref sh.length :: st) (sh ++ [(a, am_nf a, List.replicate (am_nf a) 0)]) hi Q
    | .invokevirtual _ => b ≤ st.length ∧ (∃ o, (st.take b).reverse.head? = some (.ref o) ∧ am_obj sh o (c / 16 % 16)) ∧ am_call P d mc ms M nx ls (st.drop b) sh hi Q a (c / 256) (st.take b).reverse
    | .invokestatic _ =>
      if c = 8 then match st with
        | .int n :: .int dp :: .ref o :: .int sp :: .ref q :: r => ∃ n0 n1 z0 z1, sh[q]? = some (20, n0, z0) ∧ sh[o]? = some (20, n1, z1) ∧ ¬ sp < 0 ∧ ¬ dp < 0 ∧ ¬ n < 0 ∧ sp.toNatClampNeg + n.toNatClampNeg ≤ n0 ∧ dp.toNatClampNeg + n.toNatClampNeg ≤ n1 ∧ 1 ≤ d ∧ am_cats r ≤ 8 ∧
            P d mc ms M nx ls r sh (am_ur hi o (va_cpy (hi q) (hi o) sp.toNatClampNeg dp.toNatClampNeg n.toNatClampNeg)) Q
        | _ => False
      else if c = 10 then match st with
        | .int y :: .int x :: r => 1 ≤ d ∧ am_cats r ≤ 8 ∧ P d mc ms M nx ls (.int (am_imax x y) :: r) sh hi Q
        | _ => False
      else if c = 11 then match st with
        | .int y :: .int x :: r => 1 ≤ d ∧ am_cats r ≤ 8 ∧ P d mc ms M nx ls (.int (am_imin x y) :: r) sh hi Q
        | _ => False
      else if c = 12 then match st with
        | .int x :: r => 1 ≤ d ∧ am_cats r ≤ 8 ∧ P d mc ms M nx ls (.int (am_iabs x) :: r) sh hi Q
        | _ => False
      else b ≤ st.length ∧ am_call P d mc ms M nx ls (st.drop b) sh hi Q a (c / 256) (st.take b).reverse
    | .invokespecial _ =>
      if c = 9 then match st with
        | .ref _ :: r => 1 ≤ d ∧ am_cats r ≤ 8 ∧ P d mc ms M nx ls r sh hi Q
        | _ => False
      else b ≤ st.length ∧ (∃ o, (st.take b).reverse.head? = some (.ref o)) ∧ am_call P d mc ms M nx ls (st.drop b) sh hi Q a (c / 256) (st.take b).reverse
    | .ireturn => match st with
      | [.int v] => mc = 0 ∧ (b = 1 → v = 0 ∨ v = 1) ∧ Q (some (.int v)) sh hi
      | _ => False
    | .return_ => match st with
      | [] => mc = 0 ∧ Q none sh hi
      | _ => False
    | _ => match am_b i a k ls st with
      | some (ls', st') => P d mc ms M nx ls' st' sh hi Q
      | none => False
def am_wp (L : Nat) (xs : Nat → Int32) : am_P := fun d mc ms M pc ls st sh hi Q =>
  ∀ P : am_P, (∀ d mc ms M pc ls st sh hi Q, am_F L xs P d mc ms M pc ls st sh hi Q → P d mc ms M pc ls st sh hi Q) → P d mc ms M pc ls st sh hi Q
theorem am_call_mono {P P' : am_P} (hPP : ∀ d mc ms M pc ls st sh hi Q, P d mc ms M pc ls st sh hi Q → P' d mc ms M pc ls st sh hi Q) {d mc ms M nx : Nat} {ls rest : List Value} {sh : am_SH} {hi : am_HI} {Q : am_Q} {a ml : Nat} {as : List Value}
    (h : am_call P d mc ms M nx ls rest sh hi Q a ml as) : am_call P' d mc ms M nx ls rest sh hi Q a ml as := by
  obtain ⟨h1, h2, d', m1, m2, n1, n2, Post, h3, h4, h5, h6, h7⟩ := h
  exact ⟨h1, h2, d', m1, m2, n1, n2, Post, h3, h4, h5, hPP _ _ _ _ _ _ _ _ _ _ h6, fun r sh' hi' hr => hPP _ _ _ _ _ _ _ _ _ _ (h7 r sh' hi' hr)⟩
set_option maxHeartbeats 4000000 in
theorem am_F_mono (L : Nat) (xs : Nat → Int32) {P P' : am_P} (hPP : ∀ d mc ms M pc ls st sh hi Q, P d mc ms M pc ls st sh hi Q → P' d mc ms M pc ls st sh hi Q) {d mc ms M pc : Nat} {ls st : List Value} {sh : am_SH} {hi : am_HI} {Q : am_Q}
    (h : am_F L xs P d mc ms M pc ls st sh hi Q) : am_F L xs P' d mc ms M pc ls st sh hi Q := by
  unfold am_F at h ⊢
  generalize am_ins M pc = e at h ⊢
  cases e with
  | none => exact h
  | some e =>
    obtain ⟨i, nx, a, b, c, k, sw⟩ := e
    cases i <;> dsimp only at h ⊢
    case goto => exact hPP _ _ _ _ _ _ _ _ _ _ h
    case getstatic => exact hPP _ _ _ _ _ _ _ _ _ _ h
    case if_icmp => split at h <;> first | exact h.elim | exact ⟨fun q => hPP _ _ _ _ _ _ _ _ _ _ (h.1 q), fun q => hPP _ _ _ _ _ _ _ _ _ _ (h.2 q)⟩
    case ifCond => split at h <;> first | exact h.elim | exact ⟨fun q => hPP _ _ _ _ _ _ _ _ _ _ (h.1 q), fun q => hPP _ _ _ _ _ _ _ _ _ _ (h.2 q)⟩
    case tableswitch => split at h <;> first | exact h.elim | exact hPP _ _ _ _ _ _ _ _ _ _ h
    case lookupswitch => split at h <;> first | exact h.elim | exact hPP _ _ _ _ _ _ _ _ _ _ h
    case idiv => split at h <;> first | exact h.elim | exact ⟨h.1, hPP _ _ _ _ _ _ _ _ _ _ h.2⟩
    case irem => split at h <;> first | exact h.elim | exact ⟨h.1, hPP _ _ _ _ _ _ _ _ _ _ h.2⟩
    case getfield => split at h <;> first | exact h.elim | exact ⟨h.1, hPP _ _ _ _ _ _ _ _ _ _ h.2⟩
    case putfield => split at h <;> first | exact h.elim | exact ⟨h.1, h.2.1, h.2.2.1, hPP _ _ _ _ _ _ _ _ _ _ h.2.2.2⟩ | exact ⟨h.1, h.2.1, hPP _ _ _ _ _ _ _ _ _ _ h.2.2⟩
    case iaload => split at h <;> first | exact h.elim | (obtain ⟨n, f, h1, h2, h3⟩ := h; exact ⟨n, f, h1, h2, hPP _ _ _ _ _ _ _ _ _ _ h3⟩)
    case caload => split at h <;> first | exact h.elim | exact ⟨h.1, h.2.1, hPP _ _ _ _ _ _ _ _ _ _ h.2.2⟩
    case iastore => split at h <;> first | exact h.elim | (obtain ⟨n, f, h1, h2, h3⟩ := h; exact ⟨n, f, h1, h2, hPP _ _ _ _ _ _ _ _ _ _ h3⟩)
    case arraylength => split at h <;> first | exact h.elim | (obtain ⟨n, h1, h3⟩ := h; exact ⟨n, h1, hPP _ _ _ _ _ _ _ _ _ _ h3⟩)
    case aaload => split at h <;> first | exact h.elim | (obtain ⟨t, n, f, h1, h2, h4, h3⟩ := h; exact ⟨t, n, f, h1, h2, h4, hPP _ _ _ _ _ _ _ _ _ _ h3⟩)
    case aastore => split at h <;> first | exact h.elim | (obtain ⟨t, n, f, h1, h2, h4, h5, h3⟩ := h; exact ⟨t, n, f, h1, h2, h4, h5, hPP _ _ _ _ _ _ _ _ _ _ h3⟩)
    case newarray => split at h <;> first | exact h.elim | (obtain ⟨h1, h2, h3, h4, h5, h6, h7⟩ := h; exact ⟨h1, h2, h3, h4, h5, h6, hPP _ _ _ _ _ _ _ _ _ _ h7⟩)
    case anewarray => split at h <;> first | exact h.elim | (obtain ⟨h1, h2, h3, h5, h6, h7⟩ := h; exact ⟨h1, h2, h3, h5, h6, hPP _ _ _ _ _ _ _ _ _ _ h7⟩)
    case new => (obtain ⟨h1, h2, h3, h4, h5, h7⟩ := h; exact ⟨h1, h2, h3, h4, h5, hPP _ _ _ _ _ _ _ _ _ _ h7⟩)
    case invokevirtual => exact ⟨h.1, h.2.1, am_call_mono hPP h.2.2⟩
    case invokestatic =>
      split at h
      · rename_i hc
        rw [if_pos hc]
        split at h
        · obtain ⟨n0, n1, z0, z1, h1, h2, h3, h4, h5, h6, h7, h8, h9, h10⟩ := h
          exact ⟨n0, n1, z0, z1, h1, h2, h3, h4, h5, h6, h7, h8, h9, hPP _ _ _ _ _ _ _ _ _ _ h10⟩
        · exact h.elim
      · rename_i hc
        rw [if_neg hc]
        split at h
        · rename_i hc
          rw [if_pos hc]
          split at h <;> first | exact h.elim | exact ⟨h.1, h.2.1, hPP _ _ _ _ _ _ _ _ _ _ h.2.2⟩
        · rename_i hc
          rw [if_neg hc]
          split at h
          · rename_i hc
            rw [if_pos hc]
            split at h <;> first | exact h.elim | exact ⟨h.1, h.2.1, hPP _ _ _ _ _ _ _ _ _ _ h.2.2⟩
          · rename_i hc
            rw [if_neg hc]
            split at h
            · rename_i hc
              rw [if_pos hc]
              split at h <;> first | exact h.elim | exact ⟨h.1, h.2.1, hPP _ _ _ _ _ _ _ _ _ _ h.2.2⟩
            · rename_i hc
              rw [if_neg hc]
              exact ⟨h.1, am_call_mono hPP h.2⟩
    case invokespecial =>
      split at h
      · rename_i hc
        rw [if_pos hc]
        split at h
        · exact ⟨h.1, h.2.1, hPP _ _ _ _ _ _ _ _ _ _ h.2.2⟩
        · exact h.elim
      · rename_i hc
        rw [if_neg hc]
        exact ⟨h.1, h.2.1, am_call_mono hPP h.2.2⟩
    case ireturn => split at h <;> first | exact h.elim | exact h
    case return_ => split at h <;> first | exact h.elim | exact h
    all_goals (split at h <;> first | exact h.elim | exact hPP _ _ _ _ _ _ _ _ _ _ h)
theorem am_fold {L : Nat} {xs : Nat → Int32} {d mc ms M pc : Nat} {ls st : List Value} {sh : am_SH} {hi : am_HI} {Q : am_Q} (h : am_F L xs (am_wp L xs) d mc ms M pc ls st sh hi Q) : am_wp L xs d mc ms M pc ls st sh hi Q :=
  fun P hP => hP _ _ _ _ _ _ _ _ _ _ (am_F_mono L xs (fun _ _ _ _ _ _ _ _ _ _ hw => hw P hP) h)
