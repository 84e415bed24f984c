/-! the data of the abstract machine agree with the bytecode and with the words of the tables (printed by wip/whole/gen04.py) -/
def am_nf (c : Nat) : Nat := (am_fks.getD c []).length
def am_U : List Cond := lw_tbl.filter goodWord
/-- the tables' words by part and place -/
def am_tb (j : Nat) : List Cond := bif Nat.beq j 0 then k2_sels lw_privs else bif Nat.beq j 1 then tables_1_1 else bif Nat.beq j 2 then tables_1_2 else bif Nat.beq j 3 then tables_1_3 else bif Nat.beq j 4 then tables_1_4 else bif Nat.beq j 5 then tables_1_5 else tables_1_6
theorem am_tb_mem {j : Nat} {w : Cond} (h : w ∈ am_tb j) : w ∈ lw_tbl := by
  unfold lw_tbl tables_1
  simp only [List.mem_append]
  unfold am_tb at h
  cases h0 : Nat.beq j 0 <;> rw [h0] at h
  · cases h1 : Nat.beq j 1 <;> rw [h1] at h
    · cases h2 : Nat.beq j 2 <;> rw [h2] at h
      · cases h3 : Nat.beq j 3 <;> rw [h3] at h
        · cases h4 : Nat.beq j 4 <;> rw [h4] at h
          · cases h5 : Nat.beq j 5 <;> rw [h5] at h
            · exact Or.inr (Or.inr (Or.inr (Or.inr (Or.inr (Or.inr h)))))
            · exact Or.inr (Or.inr (Or.inr (Or.inr (Or.inr (Or.inl h)))))
          · exact Or.inr (Or.inr (Or.inr (Or.inr (Or.inl h))))
        · exact Or.inr (Or.inr (Or.inr (Or.inl h)))
      · exact Or.inr (Or.inr (Or.inl h))
    · exact Or.inr (Or.inl h)
  · exact Or.inl h
def am_wn (i : Nat) (w : Cond) : Bool := decide ((am_tb (i / 1000))[i % 1000]? = some w)
def am_wd (i : Nat) (w : Cond) : Bool := am_wn i w && goodWord w
theorem am_wn_mem {i : Nat} {w : Cond} (h : am_wn i w = true) : w ∈ lw_tbl := by
  unfold am_wn at h
  exact am_tb_mem (List.mem_of_getElem? (of_decide_eq_true h))
theorem am_wd_mem {i : Nat} {w : Cond} (h : am_wd i w = true) : w ∈ am_U := by
  simp only [am_wd, Bool.and_eq_true] at h
  exact List.mem_filter.mpr ⟨am_wn_mem h.1, h.2⟩
theorem am_U_good {w : Cond} (h : w ∈ am_U) : (w.onTables && w.keeps) = true ∨ ∃ ty, w = .arrayClass ty := good_of_word (List.mem_filter.mp h).2
def am_ym (M : Nat) : MethodName := match am_mt[M]? with
  | some q => q.1
  | none => ⟨"", "", ""⟩
def am_by (M : Nat) : ByteArray := match am_mt[M]? with
  | some q => q.2.1
  | none => ⟨#[]⟩
def am_ml (M : Nat) : Nat := match am_mt[M]? with
  | some q => q.2.2.1
  | none => 0
def am_rt (M : Nat) : Option FieldType := match am_mt[M]? with
  | some q => q.2.2.2.1
  | none => none
def am_ow (M : Nat) : Nat := match am_mt[M]? with
  | some q => q.2.2.2.2.1
  | none => 0
def am_uc (M : Nat) : Nat := match am_mt[M]? with
  | some q => q.2.2.2.2.2
  | none => 0
def am_in (M : Nat) : Bool := (am_ym M).name == "<init>"
def am_fin (c k : Nat) : Bool := match am_cl[c]? with
  | some (_, T, _) => (T k).2.2.2
  | none => true
def am_sn : List (String × String) := [("ABOVE", "[I"), ("BODIES", "[I"), ("NAME_SIGNS", "[C")]
def am_np (M : Nat) : Nat := ([1, 0, 0, 1, 2, 0, 0, 0, 0, 0, 3, 3, 1, 3, 2, 1, 1, 1, 2, 2, 2, 3, 3, 1, 0, 3, 2, 1, 1, 3, 2, 1, 2, 2, 2, 2, 2, 2, 2, 2, 1, 1, 0, 0, 1, 2, 2, 2, 1, 1, 2, 0, 0, 1, 0, 1, 0, 0, 1, 0, 0, 1, 1, 0, 1, 1, 1, 4, 0, 0, 0, 1, 1, 1, 0, 1, 1, 1, 1, 3, 3, 3, 1, 1, 2, 1, 5, 1, 5, 0, 1, 1, 2, 3, 3, 2, 2, 1, 0, 3, 2, 1, 3, 5, 4, 2, 4, 1, 3, 4, 1, 3, 2, 3, 2, 5, 2, 1, 1, 1, 0, 1, 2, 1, 0, 1, 0, 1, 1, 0, 3, 3, 1, 2, 2, 1, 2, 1, 2, 2, 2, 4, 1, 3, 3, 2, 1, 2, 1, 1, 2, 2, 2, 2, 2, 2, 2, 2, 1, 0, 2, 2, 1, 0, 0, 0, 0, 0, 0, 0, 1, 2, 1, 0, 1, 4, 0, 0, 1, 1, 1, 0, 1, 1, 0, 0, 0, 1, 4, 2, 0, 1, 2, 1, 2, 1, 1, 3, 2, 2, 1, 2, 2, 2, 2, 2, 2, 2, 2, 1, 3, 3, 1, 5, 5, 1, 1, 0, 2, 0, 1, 0, 1, 1] : List Nat).getD M 0
def am_okT (pc : Nat) : Int → List Int → List (Int × Nat) → Bool
  | _, [], [] => true
  | lo, o :: os, (q, t) :: r => decide (q = lo) && decide ((pc : Int) + o = t) && am_okT pc (lo + 1) os r
  | _, _, _ => false
def am_okL (pc : Nat) : List (Int × Int) → List (Int × Nat) → Bool
  | [], [] => true
  | (p, o) :: os, (q, t) :: r => decide (q = p) && decide ((pc : Int) + o = t) && am_okL pc os r
  | _, _ => false
def am_hasM (own j a kd : Nat) : Bool := am_lm.any fun q => q.1 == own && q.2.1 == j && q.2.2.1 == a && q.2.2.2.1 == kd
def am_hasF (own j c k : Nat) : Bool := am_lf.any fun q => q.1 == own && q.2.1 == j && q.2.2.1 == c && q.2.2.2.1 == k
def am_hasC (own j c : Nat) : Bool := am_lc.any fun q => q.1 == own && q.2.1 == j && q.2.2.1 == c
def am_okI (own : Nat) (ret : Option FieldType) (ini : Bool) (pc : Nat) (i : ClassFile.Instr) (a b c : Nat) (k : Int32) (sw : List (Int × Nat)) : Bool :=
  match i with
  | .iconst n => decide (k = Int32.ofInt n)
  | .bipush n => decide (k = (Int8.ofInt n).toInt32)
  | .sipush n => decide (k = (Int16.ofInt n).toInt32)
  | .ldc j => am_lk.any fun q => q.1 == own && q.2.1 == j && decide (q.2.2.1 = k)
  | .ldc_w j => am_lk.any fun q => q.1 == own && q.2.1 == j && decide (q.2.2.1 = k)
  | .ldc2_w j => am_ll.any fun q => q.1 == own && q.2.1 == j && q.2.2.1 == a
  | .iload j => j == a
  | .aload j => j == a
  | .istore j => j == a
  | .astore j => j == a
  | .iload_n j => j.val == a
  | .aload_n j => j.val == a
  | .lload_n j => j.val == a
  | .istore_n j => j.val == a
  | .astore_n j => j.val == a
  | .iinc j n => j == a && decide (k = Int32.ofInt n)
  | .goto off => decide ((pc : Int) + off = a)
  | .if_icmp _ off => decide ((pc : Int) + off = a)
  | .ifCond _ off => decide ((pc : Int) + off = a)
  | .tableswitch df lo hi offs => decide ((pc : Int) + df = a) && decide (lo + offs.size = hi + 1) && am_okT pc lo offs.toList sw
  | .lookupswitch df ps => decide ((pc : Int) + df = a) && (ps.toList.zip (ps.toList.drop 1)).all (fun (a, next) => a.1 < next.1) && am_okL pc ps.toList sw
  | .getfield j => am_hasF own j c a && b == am_fk c a && decide (c < 10)
  | .putfield j => am_hasF own j c a && b == am_fk c a && decide (c < 10) && (!(am_fin c a) || (ini && own == c))
  | .getstatic j => am_ls.any fun q => q.1 == own && q.2.1 == j && q.2.2.1 == a
  | .newarray t => decide (t = .int)
  | .anewarray j => (a == 21 && am_hasC own j 3) || (a == 22 && am_hasC own j 5)
  | .new j => am_hasC own j a
  | .invokevirtual j => c % 16 == 0 && am_hasM own j a 0 && b == am_np a + 1 && c / 256 == am_ml a && c / 16 % 16 == am_ow a
  | .invokestatic j => if c = 8 ∨ c = 10 ∨ c = 11 ∨ c = 12 then am_hasM own j 0 c else (c % 16 == 1 || c % 16 == 2) && am_hasM own j a (c % 16) && b == am_np a && c / 256 == am_ml a
  | .invokespecial j => if c = 9 then am_hasM own j 0 9 else c % 16 == 3 && am_hasM own j a 3 && b == am_np a + 1 && c / 256 == am_ml a
  | .ireturn => (decide (ret = some .int) && b == 0) || (decide (ret = some .boolean) && b == 1)
  | .return_ => decide (ret = none)
  | _ => true
def am_ln (i : ClassFile.Instr) (n : Nat) : Nat := match i with
  | .tableswitch _ _ _ _ => n
  | .lookupswitch _ _ => n
  | .bipush _ => 2
  | .sipush _ => 3
  | .ldc _ => 2
  | .ldc_w _ => 3
  | .ldc2_w _ => 3
  | .iload _ => 2
  | .aload _ => 2
  | .istore _ => 2
  | .astore _ => 2
  | .iinc _ _ => 3
  | .goto _ => 3
  | .if_icmp _ _ => 3
  | .ifCond _ _ => 3
  | .getfield _ => 3
  | .putfield _ => 3
  | .getstatic _ => 3
  | .invokevirtual _ => 3
  | .invokestatic _ => 3
  | .invokespecial _ => 3
  | .new _ => 3
  | .anewarray _ => 3
  | .newarray _ => 2
  | _ => 1
def am_dec (bs : ByteArray) (pc nx : Nat) (i : ClassFile.Instr) : Bool := match decode bs pc with
  | .ok (i', n) => decide (i' = i) && decide (n = am_ln i n) && decide (nx = pc + n)
  | .error _ => false
def am_okP (M pc : Nat) : Bool := match am_ins M pc with
  | none => true
  | some (i, nx, a, b, c, k, sw) => am_dec (am_by M) pc nx i && am_okI (am_ow M) (am_rt M) (am_in M) pc i a b c k sw
