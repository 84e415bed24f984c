/-! the law: two objects are made; then call by call -/
theorem wp_new {L : Nat} {xs : Nat → Int32} {d mc ms M pc nx a b c : Nat} {k : Int32} {sw : List (Int × Nat)} {ls st : List Value} {sh : am_SH} {hi : am_HI} {Q : am_Q} {j : Nat} (h : am_ins M pc = some (.new j, nx, a, b, c, k, sw)) (h1 : Nat.blt sh.length 900 = true) (h2 : ∀ j, hi sh.length j = 0) (h3 : 1 ≤ mc) (h4 : am_nf a ≤ ms) (h5 : Nat.ble (am_cats st) 8 = true)
    (kk : am_wp L xs d (mc - 1) (ms - am_nf a) M nx ls (.ref sh.length :: st) (sh ++ [(a, am_nf a, List.replicate (am_nf a) 0)]) hi Q) : am_wp L xs d mc ms M pc ls st sh hi Q := by
  apply am_fold
  unfold am_F
  rw [h]
  exact ⟨Nat.le_of_ble_eq_true h1, h2, h3, h4, Nat.le_of_ble_eq_true h5, kk⟩
theorem am_Rel_s {N : Nat} {h : am_HI} (hR : am_Rel N h) : am_Rel (N + 1) h := re_keep hR (fun _ _ => rfl) hR.1
def am_GR : List (Nat × Nat × Int32) := [(24, 14, 1), (42, 1, 99), (42, 0, (-99)), (37, 1, 99), (37, 0, 0), (1, 14, 1), (19, 1, 99), (19, 0, (-99)), (14, 1, 99), (14, 0, 0)]
theorem am_row0 {k : Nat} (h : k ≠ 1) : am_lg am_GB 75 k = 0 := by
  show upd (am_lg am_GR 75) 1 1 k = 0
  rw [pk_un h]
  exact am_lg_0 am_GR (by decide) k
theorem am_z0 {a : Nat} (h : (am_GB.all fun e => !(Nat.beq e.1 a)) = true) (j : Nat) : am_lg am_GB a j = 0 := am_lg_0 am_GB h j
theorem am_Rel0 : am_Rel 0 (am_lg am_GB) := by
  have hs : ∀ s o, s < 4 → (am_GB.all fun e => !(Nat.beq e.1 o)) = true → (am_GB.all fun e => !(Nat.beq e.1 (o + 1))) = true → re_sh s (am_lg am_GB o) (am_lg am_GB (o + 1)) (am_lg am_GB 78) (am_lg am_GB 79) (am_lg am_GB 80) := fun s o _ h1 h2 =>
    ⟨0, Nat.zero_le _, am_z0 h1 2, am_z0 (by decide) s, (am_z0 h1 1).trans (am_z0 (by decide) s).symm, Or.inl ⟨am_z0 (by decide) s, rfl⟩, fun i _ => (am_z0 h2 i).trans (am_z0 (by decide) _).symm⟩
  refine ⟨⟨0, 0, 0, 0, 0, 0, 0, [], [], ?_⟩, ⟨⟨0, Nat.le_refl _, rfl, rfl, fun q => absurd q (Nat.lt_irrefl _)⟩, rfl, rfl, rfl, rfl⟩, fun k _ _ => (am_z0 (by decide) k).trans (am_z0 (by decide) k).symm, hs 0 65 (by decide) (by decide) (by decide), hs 1 67 (by decide) (by decide) (by decide), hs 2 69 (by decide) (by decide) (by decide), hs 3 71 (by decide) (by decide) (by decide), ⟨0, Nat.zero_le _, rfl, rfl, fun i hi => absurd hi (Nat.not_lt_zero _)⟩⟩
  refine ⟨⟨rfl, rfl, Nat.zero_le _⟩, ⟨rfl, rfl, Nat.zero_le _⟩, ⟨rfl, rfl, Nat.zero_le _⟩, ⟨rfl, rfl⟩, fun g _ => ?_, fun j _ => ?_, fun g hg => absurd hg (Nat.not_lt_zero _), fun j hj => absurd hj (Nat.not_lt_zero _), ⟨rfl, rfl, Nat.zero_le _, fun i hi => absurd hi (Nat.not_lt_zero _)⟩, ⟨rfl, rfl, Nat.zero_le _, fun i hi => absurd hi (Nat.not_lt_zero _)⟩,
    ⟨⟨rfl, fun j hj => absurd hj (Nat.not_lt_zero _), Nat.zero_le _, rfl, rfl, rfl, Or.inl rfl⟩, Or.inl ⟨rfl, rfl⟩⟩, ⟨⟨rfl, fun j hj => absurd hj (Nat.not_lt_zero _), Nat.zero_le _, rfl, rfl, rfl, Or.inl rfl⟩, Or.inl ⟨rfl, rfl⟩⟩⟩
  · exact ⟨(am_z0 (by decide) g).trans (am_row0 (by omega)).symm, (am_z0 (by decide) g).trans (am_row0 (by omega)).symm, (am_z0 (by decide) g).trans (am_row0 (by omega)).symm, (am_z0 (by decide) g).trans (am_row0 (by omega)).symm⟩
  · exact ⟨(am_z0 (by decide) j).trans (am_row0 (by omega)).symm, (am_z0 (by decide) j).trans (am_row0 (by omega)).symm, (am_z0 (by decide) j).trans (am_row0 (by omega)).symm⟩
theorem am_more {L i : Nat} (hL : L ≤ 3072) (hi : i ≤ 100000) : nI L - 6 < nI i ↔ L < i + 6 := by
  rw [Int32.lt_iff_toInt_lt, show (6 : Int32) = nI 6 from rfl, pk_sub_toInt (by omega) (by omega), nI_toInt (by omega)]
  omega
set_option maxHeartbeats 8000000 in
theorem lp_law {L : Nat} {xs : Nat → Int32} {ms : Nat} (hL : L ≤ 3072) :
    ∀ (m N b : Nat) (h : am_HI), am_Rel N h → 6 * N ≤ L + 6 → L < 6 * (N + m) + 6 → am_wp L xs 2000 0 ms 0 18 [.ref 1000, .ref 0, .ref 74, .int (nI (6 * N))] [] (am_S b) h (fun r _ _ => r = some (.int 1)) := by
  intro m
  induction m with
  | zero =>
    intro N b h hR hN hm
    refine wp_run 2 (pc' := 20) (ls' := [.ref 1000, .ref 0, .ref 74, .int (nI (6 * N))]) (st' := [.ref 1000, .int (nI (6 * N))]) rfl ?_
    refine wp_len0 rfl ?_
    refine wp_run 2 (pc' := 24) (ls' := [.ref 1000, .ref 0, .ref 74, .int (nI (6 * N))]) (st' := [.int ((nI L) - 6), .int (nI (6 * N))]) rfl ?_
    refine wp_icmp_t rfl (show ((nI L) - 6) < (nI (6 * N)) from (am_more hL (by omega)).mpr (by omega)) ?_
    refine wp_run 1 (pc' := 1294) (ls' := [.ref 1000, .ref 0, .ref 74, .int (nI (6 * N))]) (st' := [.int 1]) rfl ?_
    refine wp_retz rfl (Or.inr rfl) ?_
    rfl
  | succ m ih =>
    intro N b h hR hN hm
    refine wp_run 2 (pc' := 20) (ls' := [.ref 1000, .ref 0, .ref 74, .int (nI (6 * N))]) (st' := [.ref 1000, .int (nI (6 * N))]) rfl ?_
    refine wp_len0 rfl ?_
    refine wp_run 2 (pc' := 24) (ls' := [.ref 1000, .ref 0, .ref 74, .int (nI (6 * N))]) (st' := [.int ((nI L) - 6), .int (nI (6 * N))]) rfl ?_
    refine wp_icmp rfl (fun (c24 : ((nI L) - 6) < (nI (6 * N))) => ?_) (fun (c24 : ¬ (((nI L) - 6) < (nI (6 * N)))) => ?_)
    · skip
      have c24n : L < 6 * N + 6 := (am_more hL (by omega)).mp c24
      refine wp_run 1 (pc' := 1294) (ls' := [.ref 1000, .ref 0, .ref 74, .int (nI (6 * N))]) (st' := [.int 1]) rfl ?_
      refine wp_retz rfl (Or.inr rfl) ?_
      rfl
    · skip
      have c24n : ¬ L < 6 * N + 6 := fun q => c24 ((am_more hL (by omega)).mpr q)
      refine wp_run 2 (pc' := 29) (ls' := [.ref 1000, .ref 0, .ref 74, .int (nI (6 * N))]) (st' := [.int (nI (6 * N)), .ref 1000]) rfl ?_
      refine wp_ald0 rfl hL rfl (by omega) ?_
      refine wp_run 2 (pc' := 33) (ls' := [.ref 1000, .ref 0, .ref 74, .int (nI (6 * N))]) (st' := [.int ((xs (6 * N)) &&& 63)]) rfl ?_
      refine wp_switch [(0, 196), (1, 239), (2, 272), (3, 305), (4, 338), (5, 371), (6, 404), (7, 437), (8, 470), (9, 503), (10, 526), (11, 589), (12, 612), (13, 635), (14, 688), (15, 701), (16, 724), (17, 747), (18, 770), (19, 793), (20, 816), (21, 829), (22, 852), (23, 885), (24, 918), (25, 961), (26, 984), (27, 1027), (28, 1070), (29, 1133), (30, 1156), (31, 1179), (32, 1192), (33, 1205), (34, 1228), (35, 1241), (36, 1264)] rfl rfl rfl ?_ ?_
      · refine List.forall_mem_cons.mpr ⟨fun (sw33 : ((xs (6 * N)) &&& 63) = _) => ?_, List.forall_mem_cons.mpr ⟨fun (sw33 : ((xs (6 * N)) &&& 63) = _) => ?_, List.forall_mem_cons.mpr ⟨fun (sw33 : ((xs (6 * N)) &&& 63) = _) => ?_, List.forall_mem_cons.mpr ⟨fun (sw33 : ((xs (6 * N)) &&& 63) = _) => ?_, List.forall_mem_cons.mpr ⟨fun (sw33 : ((xs (6 * N)) &&& 63) = _) => ?_, List.forall_mem_cons.mpr ⟨fun (sw33 : ((xs (6 * N)) &&& 63) = _) => ?_, List.forall_mem_cons.mpr ⟨fun (sw33 : ((xs (6 * N)) &&& 63) = _) => ?_, List.forall_mem_cons.mpr ⟨fun (sw33 : ((xs (6 * N)) &&& 63) = _) => ?_, List.forall_mem_cons.mpr ⟨fun (sw33 : ((xs (6 * N)) &&& 63) = _) => ?_, List.forall_mem_cons.mpr ⟨fun (sw33 : ((xs (6 * N)) &&& 63) = _) => ?_, List.forall_mem_cons.mpr ⟨fun (sw33 : ((xs (6 * N)) &&& 63) = _) => ?_, List.forall_mem_cons.mpr ⟨fun (sw33 : ((xs (6 * N)) &&& 63) = _) => ?_, List.forall_mem_cons.mpr ⟨fun (sw33 : ((xs (6 * N)) &&& 63) = _) => ?_, List.forall_mem_cons.mpr ⟨fun (sw33 : ((xs (6 * N)) &&& 63) = _) => ?_, List.forall_mem_cons.mpr ⟨fun (sw33 : ((xs (6 * N)) &&& 63) = _) => ?_, List.forall_mem_cons.mpr ⟨fun (sw33 : ((xs (6 * N)) &&& 63) = _) => ?_, List.forall_mem_cons.mpr ⟨fun (sw33 : ((xs (6 * N)) &&& 63) = _) => ?_, List.forall_mem_cons.mpr ⟨fun (sw33 : ((xs (6 * N)) &&& 63) = _) => ?_, List.forall_mem_cons.mpr ⟨fun (sw33 : ((xs (6 * N)) &&& 63) = _) => ?_, List.forall_mem_cons.mpr ⟨fun (sw33 : ((xs (6 * N)) &&& 63) = _) => ?_, List.forall_mem_cons.mpr ⟨fun (sw33 : ((xs (6 * N)) &&& 63) = _) => ?_, List.forall_mem_cons.mpr ⟨fun (sw33 : ((xs (6 * N)) &&& 63) = _) => ?_, List.forall_mem_cons.mpr ⟨fun (sw33 : ((xs (6 * N)) &&& 63) = _) => ?_, List.forall_mem_cons.mpr ⟨fun (sw33 : ((xs (6 * N)) &&& 63) = _) => ?_, List.forall_mem_cons.mpr ⟨fun (sw33 : ((xs (6 * N)) &&& 63) = _) => ?_, List.forall_mem_cons.mpr ⟨fun (sw33 : ((xs (6 * N)) &&& 63) = _) => ?_, List.forall_mem_cons.mpr ⟨fun (sw33 : ((xs (6 * N)) &&& 63) = _) => ?_, List.forall_mem_cons.mpr ⟨fun (sw33 : ((xs (6 * N)) &&& 63) = _) => ?_, List.forall_mem_cons.mpr ⟨fun (sw33 : ((xs (6 * N)) &&& 63) = _) => ?_, List.forall_mem_cons.mpr ⟨fun (sw33 : ((xs (6 * N)) &&& 63) = _) => ?_, List.forall_mem_cons.mpr ⟨fun (sw33 : ((xs (6 * N)) &&& 63) = _) => ?_, List.forall_mem_cons.mpr ⟨fun (sw33 : ((xs (6 * N)) &&& 63) = _) => ?_, List.forall_mem_cons.mpr ⟨fun (sw33 : ((xs (6 * N)) &&& 63) = _) => ?_, List.forall_mem_cons.mpr ⟨fun (sw33 : ((xs (6 * N)) &&& 63) = _) => ?_, List.forall_mem_cons.mpr ⟨fun (sw33 : ((xs (6 * N)) &&& 63) = _) => ?_, List.forall_mem_cons.mpr ⟨fun (sw33 : ((xs (6 * N)) &&& 63) = _) => ?_, List.forall_mem_cons.mpr ⟨fun (sw33 : ((xs (6 * N)) &&& 63) = _) => ?_, fun _ h => absurd h List.not_mem_nil⟩⟩⟩⟩⟩⟩⟩⟩⟩⟩⟩⟩⟩⟩⟩⟩⟩⟩⟩⟩⟩⟩⟩⟩⟩⟩⟩⟩⟩⟩⟩⟩⟩⟩⟩⟩⟩
        · skip
          refine wp_run 5 (pc' := 201) (ls' := [.ref 1000, .ref 0, .ref 74, .int (nI (6 * N))]) (st' := [.int ((nI (6 * N)) + 1), .ref 1000, .ref 0]) rfl ?_
          rw [show (((nI (6 * N)) + 1) : Int32) = (nI ((6 * N) + 1)) from nI_add (6 * N) 1]
          refine wp_ald0 rfl hL rfl (by omega) ?_
          refine wp_run 4 (pc' := 206) (ls' := [.ref 1000, .ref 0, .ref 74, .int (nI (6 * N))]) (st' := [.int ((nI (6 * N)) + 2), .ref 1000, .int (xs ((6 * N) + 1)), .ref 0]) rfl ?_
          rw [show (((nI (6 * N)) + 2) : Int32) = (nI ((6 * N) + 2)) from nI_add (6 * N) 2]
          refine wp_ald0 rfl hL rfl (by omega) ?_
          refine wp_run 4 (pc' := 211) (ls' := [.ref 1000, .ref 0, .ref 74, .int (nI (6 * N))]) (st' := [.int ((nI (6 * N)) + 3), .ref 1000, .int (xs ((6 * N) + 2)), .int (xs ((6 * N) + 1)), .ref 0]) rfl ?_
          rw [show (((nI (6 * N)) + 3) : Int32) = (nI ((6 * N) + 3)) from nI_add (6 * N) 3]
          refine wp_ald0 rfl hL rfl (by omega) ?_
          refine wp_callV (o := 0) (as := [.int (xs ((6 * N) + 1)), .int (xs ((6 * N) + 2)), .int (xs ((6 * N) + 3))]) (rest := []) (els := [.ref 0, .int (xs ((6 * N) + 1)), .int (xs ((6 * N) + 2)), .int (xs ((6 * N) + 3))]) rfl rfl rfl rfl rfl rfl rfl rfl (by omega) ?_
          refine op_guest (N := N) (by omega) hR (by omega) (fun v1 b1 h1 hk => ?_)
          show am_wp L xs _ _ _ _ 215 [.ref 1000, .ref 0, .ref 74, .int (nI (6 * N))] [.int v1] (am_S b1) h1 _
          refine wp_run 5 (pc' := 220) (ls' := [.ref 1000, .ref 0, .ref 74, .int (nI (6 * N))]) (st' := [.int ((nI (6 * N)) + 1), .ref 1000, .ref 74, .int v1]) rfl ?_
          rw [show (((nI (6 * N)) + 1) : Int32) = (nI ((6 * N) + 1)) from nI_add (6 * N) 1]
          refine wp_ald0 rfl hL rfl (by omega) ?_
          refine wp_run 4 (pc' := 225) (ls' := [.ref 1000, .ref 0, .ref 74, .int (nI (6 * N))]) (st' := [.int ((nI (6 * N)) + 2), .ref 1000, .int (xs ((6 * N) + 1)), .ref 74, .int v1]) rfl ?_
          rw [show (((nI (6 * N)) + 2) : Int32) = (nI ((6 * N) + 2)) from nI_add (6 * N) 2]
          refine wp_ald0 rfl hL rfl (by omega) ?_
          refine wp_run 4 (pc' := 230) (ls' := [.ref 1000, .ref 0, .ref 74, .int (nI (6 * N))]) (st' := [.int ((nI (6 * N)) + 3), .ref 1000, .int (xs ((6 * N) + 2)), .int (xs ((6 * N) + 1)), .ref 74, .int v1]) rfl ?_
          rw [show (((nI (6 * N)) + 3) : Int32) = (nI ((6 * N) + 3)) from nI_add (6 * N) 3]
          refine wp_ald0 rfl hL rfl (by omega) ?_
          refine wp_callV (o := 74) (as := [.int (xs ((6 * N) + 1)), .int (xs ((6 * N) + 2)), .int (xs ((6 * N) + 3))]) (rest := [.int v1]) (els := [.ref 74, .int (xs ((6 * N) + 1)), .int (xs ((6 * N) + 2)), .int (xs ((6 * N) + 3)), am_du]) rfl rfl rfl rfl rfl rfl rfl rfl (by omega) ?_
          refine hk _ _ (fun b2 h2 hR2 => ?_)
          show am_wp L xs _ _ _ _ 234 [.ref 1000, .ref 0, .ref 74, .int (nI (6 * N))] [.int v1, .int v1] (am_S b2) h2 _
          refine wp_icmp_t rfl (show v1 = v1 from rfl) ?_
          refine wp_run 2 (pc' := 18) (ls' := [.ref 1000, .ref 0, .ref 74, .int ((nI (6 * N)) + 6)]) (st' := []) rfl ?_
          rw [show (((nI (6 * N)) + 6) : Int32) = (nI ((6 * N) + 6)) from nI_add (6 * N) 6]
          rw [show (nI ((6 * N) + 6)) = nI (6 * (N + 1)) from by congr 1]
          exact ih (N + 1) _ _ hR2 (by omega) (by omega)
        · skip
          refine wp_run 5 (pc' := 244) (ls' := [.ref 1000, .ref 0, .ref 74, .int (nI (6 * N))]) (st' := [.int ((nI (6 * N)) + 1), .ref 1000, .ref 0]) rfl ?_
          rw [show (((nI (6 * N)) + 1) : Int32) = (nI ((6 * N) + 1)) from nI_add (6 * N) 1]
          refine wp_ald0 rfl hL rfl (by omega) ?_
          refine wp_run 4 (pc' := 249) (ls' := [.ref 1000, .ref 0, .ref 74, .int (nI (6 * N))]) (st' := [.int ((nI (6 * N)) + 2), .ref 1000, .int (xs ((6 * N) + 1)), .ref 0]) rfl ?_
          rw [show (((nI (6 * N)) + 2) : Int32) = (nI ((6 * N) + 2)) from nI_add (6 * N) 2]
          refine wp_ald0 rfl hL rfl (by omega) ?_
          refine wp_callV (o := 0) (as := [.int (xs ((6 * N) + 1)), .int (xs ((6 * N) + 2))]) (rest := []) (els := [.ref 0, .int (xs ((6 * N) + 1)), .int (xs ((6 * N) + 2))]) rfl rfl rfl rfl rfl rfl rfl rfl (by omega) ?_
          refine op_guestIs (N := N) (by omega) hR (by omega) (fun v1 b1 h1 hk => ?_)
          show am_wp L xs _ _ _ _ 253 [.ref 1000, .ref 0, .ref 74, .int (nI (6 * N))] [.int v1] (am_S b1) h1 _
          refine wp_run 5 (pc' := 258) (ls' := [.ref 1000, .ref 0, .ref 74, .int (nI (6 * N))]) (st' := [.int ((nI (6 * N)) + 1), .ref 1000, .ref 74, .int v1]) rfl ?_
          rw [show (((nI (6 * N)) + 1) : Int32) = (nI ((6 * N) + 1)) from nI_add (6 * N) 1]
          refine wp_ald0 rfl hL rfl (by omega) ?_
          refine wp_run 4 (pc' := 263) (ls' := [.ref 1000, .ref 0, .ref 74, .int (nI (6 * N))]) (st' := [.int ((nI (6 * N)) + 2), .ref 1000, .int (xs ((6 * N) + 1)), .ref 74, .int v1]) rfl ?_
          rw [show (((nI (6 * N)) + 2) : Int32) = (nI ((6 * N) + 2)) from nI_add (6 * N) 2]
          refine wp_ald0 rfl hL rfl (by omega) ?_
          refine wp_callV (o := 74) (as := [.int (xs ((6 * N) + 1)), .int (xs ((6 * N) + 2))]) (rest := [.int v1]) (els := [.ref 74, .int (xs ((6 * N) + 1)), .int (xs ((6 * N) + 2))]) rfl rfl rfl rfl rfl rfl rfl rfl (by omega) ?_
          refine hk _ _ (fun b2 h2 hR2 => ?_)
          show am_wp L xs _ _ _ _ 267 [.ref 1000, .ref 0, .ref 74, .int (nI (6 * N))] [.int v1, .int v1] (am_S b2) h2 _
          refine wp_icmp_t rfl (show v1 = v1 from rfl) ?_
          refine wp_run 2 (pc' := 18) (ls' := [.ref 1000, .ref 0, .ref 74, .int ((nI (6 * N)) + 6)]) (st' := []) rfl ?_
          rw [show (((nI (6 * N)) + 6) : Int32) = (nI ((6 * N) + 6)) from nI_add (6 * N) 6]
          rw [show (nI ((6 * N) + 6)) = nI (6 * (N + 1)) from by congr 1]
          exact ih (N + 1) _ _ hR2 (by omega) (by omega)
        · skip
          refine wp_run 5 (pc' := 277) (ls' := [.ref 1000, .ref 0, .ref 74, .int (nI (6 * N))]) (st' := [.int ((nI (6 * N)) + 1), .ref 1000, .ref 0]) rfl ?_
          rw [show (((nI (6 * N)) + 1) : Int32) = (nI ((6 * N) + 1)) from nI_add (6 * N) 1]
          refine wp_ald0 rfl hL rfl (by omega) ?_
          refine wp_run 4 (pc' := 282) (ls' := [.ref 1000, .ref 0, .ref 74, .int (nI (6 * N))]) (st' := [.int ((nI (6 * N)) + 2), .ref 1000, .int (xs ((6 * N) + 1)), .ref 0]) rfl ?_
          rw [show (((nI (6 * N)) + 2) : Int32) = (nI ((6 * N) + 2)) from nI_add (6 * N) 2]
          refine wp_ald0 rfl hL rfl (by omega) ?_
          refine wp_callV (o := 0) (as := [.int (xs ((6 * N) + 1)), .int (xs ((6 * N) + 2))]) (rest := []) (els := [.ref 0, .int (xs ((6 * N) + 1)), .int (xs ((6 * N) + 2))]) rfl rfl rfl rfl rfl rfl rfl rfl (by omega) ?_
          refine op_coat (N := N) (by omega) hR (by omega) (fun v1 b1 h1 hk => ?_)
          show am_wp L xs _ _ _ _ 286 [.ref 1000, .ref 0, .ref 74, .int (nI (6 * N))] [.int v1] (am_S b1) h1 _
          refine wp_run 5 (pc' := 291) (ls' := [.ref 1000, .ref 0, .ref 74, .int (nI (6 * N))]) (st' := [.int ((nI (6 * N)) + 1), .ref 1000, .ref 74, .int v1]) rfl ?_
          rw [show (((nI (6 * N)) + 1) : Int32) = (nI ((6 * N) + 1)) from nI_add (6 * N) 1]
          refine wp_ald0 rfl hL rfl (by omega) ?_
          refine wp_run 4 (pc' := 296) (ls' := [.ref 1000, .ref 0, .ref 74, .int (nI (6 * N))]) (st' := [.int ((nI (6 * N)) + 2), .ref 1000, .int (xs ((6 * N) + 1)), .ref 74, .int v1]) rfl ?_
          rw [show (((nI (6 * N)) + 2) : Int32) = (nI ((6 * N) + 2)) from nI_add (6 * N) 2]
          refine wp_ald0 rfl hL rfl (by omega) ?_
          refine wp_callV (o := 74) (as := [.int (xs ((6 * N) + 1)), .int (xs ((6 * N) + 2))]) (rest := [.int v1]) (els := [.ref 74, .int (xs ((6 * N) + 1)), .int (xs ((6 * N) + 2)), am_du]) rfl rfl rfl rfl rfl rfl rfl rfl (by omega) ?_
          refine hk _ _ (fun b2 h2 hR2 => ?_)
          show am_wp L xs _ _ _ _ 300 [.ref 1000, .ref 0, .ref 74, .int (nI (6 * N))] [.int v1, .int v1] (am_S b2) h2 _
          refine wp_icmp_t rfl (show v1 = v1 from rfl) ?_
          refine wp_run 2 (pc' := 18) (ls' := [.ref 1000, .ref 0, .ref 74, .int ((nI (6 * N)) + 6)]) (st' := []) rfl ?_
          rw [show (((nI (6 * N)) + 6) : Int32) = (nI ((6 * N) + 6)) from nI_add (6 * N) 6]
          rw [show (nI ((6 * N) + 6)) = nI (6 * (N + 1)) from by congr 1]
          exact ih (N + 1) _ _ hR2 (by omega) (by omega)
        · skip
          refine wp_run 5 (pc' := 310) (ls' := [.ref 1000, .ref 0, .ref 74, .int (nI (6 * N))]) (st' := [.int ((nI (6 * N)) + 1), .ref 1000, .ref 0]) rfl ?_
          rw [show (((nI (6 * N)) + 1) : Int32) = (nI ((6 * N) + 1)) from nI_add (6 * N) 1]
          refine wp_ald0 rfl hL rfl (by omega) ?_
          refine wp_run 4 (pc' := 315) (ls' := [.ref 1000, .ref 0, .ref 74, .int (nI (6 * N))]) (st' := [.int ((nI (6 * N)) + 2), .ref 1000, .int (xs ((6 * N) + 1)), .ref 0]) rfl ?_
          rw [show (((nI (6 * N)) + 2) : Int32) = (nI ((6 * N) + 2)) from nI_add (6 * N) 2]
          refine wp_ald0 rfl hL rfl (by omega) ?_
          refine wp_callV (o := 0) (as := [.int (xs ((6 * N) + 1)), .int (xs ((6 * N) + 2))]) (rest := []) (els := [.ref 0, .int (xs ((6 * N) + 1)), .int (xs ((6 * N) + 2))]) rfl rfl rfl rfl rfl rfl rfl rfl (by omega) ?_
          refine op_coatIs (N := N) (by omega) hR (by omega) (fun v1 b1 h1 hk => ?_)
          show am_wp L xs _ _ _ _ 319 [.ref 1000, .ref 0, .ref 74, .int (nI (6 * N))] [.int v1] (am_S b1) h1 _
          refine wp_run 5 (pc' := 324) (ls' := [.ref 1000, .ref 0, .ref 74, .int (nI (6 * N))]) (st' := [.int ((nI (6 * N)) + 1), .ref 1000, .ref 74, .int v1]) rfl ?_
          rw [show (((nI (6 * N)) + 1) : Int32) = (nI ((6 * N) + 1)) from nI_add (6 * N) 1]
          refine wp_ald0 rfl hL rfl (by omega) ?_
          refine wp_run 4 (pc' := 329) (ls' := [.ref 1000, .ref 0, .ref 74, .int (nI (6 * N))]) (st' := [.int ((nI (6 * N)) + 2), .ref 1000, .int (xs ((6 * N) + 1)), .ref 74, .int v1]) rfl ?_
          rw [show (((nI (6 * N)) + 2) : Int32) = (nI ((6 * N) + 2)) from nI_add (6 * N) 2]
          refine wp_ald0 rfl hL rfl (by omega) ?_
          refine wp_callV (o := 74) (as := [.int (xs ((6 * N) + 1)), .int (xs ((6 * N) + 2))]) (rest := [.int v1]) (els := [.ref 74, .int (xs ((6 * N) + 1)), .int (xs ((6 * N) + 2))]) rfl rfl rfl rfl rfl rfl rfl rfl (by omega) ?_
          refine hk _ _ (fun b2 h2 hR2 => ?_)
          show am_wp L xs _ _ _ _ 333 [.ref 1000, .ref 0, .ref 74, .int (nI (6 * N))] [.int v1, .int v1] (am_S b2) h2 _
          refine wp_icmp_t rfl (show v1 = v1 from rfl) ?_
          refine wp_run 2 (pc' := 18) (ls' := [.ref 1000, .ref 0, .ref 74, .int ((nI (6 * N)) + 6)]) (st' := []) rfl ?_
          rw [show (((nI (6 * N)) + 6) : Int32) = (nI ((6 * N) + 6)) from nI_add (6 * N) 6]
          rw [show (nI ((6 * N) + 6)) = nI (6 * (N + 1)) from by congr 1]
          exact ih (N + 1) _ _ hR2 (by omega) (by omega)
        · skip
          refine wp_run 5 (pc' := 343) (ls' := [.ref 1000, .ref 0, .ref 74, .int (nI (6 * N))]) (st' := [.int ((nI (6 * N)) + 1), .ref 1000, .ref 0]) rfl ?_
          rw [show (((nI (6 * N)) + 1) : Int32) = (nI ((6 * N) + 1)) from nI_add (6 * N) 1]
          refine wp_ald0 rfl hL rfl (by omega) ?_
          refine wp_run 4 (pc' := 348) (ls' := [.ref 1000, .ref 0, .ref 74, .int (nI (6 * N))]) (st' := [.int ((nI (6 * N)) + 2), .ref 1000, .int (xs ((6 * N) + 1)), .ref 0]) rfl ?_
          rw [show (((nI (6 * N)) + 2) : Int32) = (nI ((6 * N) + 2)) from nI_add (6 * N) 2]
          refine wp_ald0 rfl hL rfl (by omega) ?_
          refine wp_callV (o := 0) (as := [.int (xs ((6 * N) + 1)), .int (xs ((6 * N) + 2))]) (rest := []) (els := [.ref 0, .int (xs ((6 * N) + 1)), .int (xs ((6 * N) + 2)), am_du]) rfl rfl rfl rfl rfl rfl rfl rfl (by omega) ?_
          refine op_become (N := N) (by omega) hR (by omega) (fun v1 b1 h1 hk => ?_)
          show am_wp L xs _ _ _ _ 352 [.ref 1000, .ref 0, .ref 74, .int (nI (6 * N))] [.int v1] (am_S b1) h1 _
          refine wp_run 5 (pc' := 357) (ls' := [.ref 1000, .ref 0, .ref 74, .int (nI (6 * N))]) (st' := [.int ((nI (6 * N)) + 1), .ref 1000, .ref 74, .int v1]) rfl ?_
          rw [show (((nI (6 * N)) + 1) : Int32) = (nI ((6 * N) + 1)) from nI_add (6 * N) 1]
          refine wp_ald0 rfl hL rfl (by omega) ?_
          refine wp_run 4 (pc' := 362) (ls' := [.ref 1000, .ref 0, .ref 74, .int (nI (6 * N))]) (st' := [.int ((nI (6 * N)) + 2), .ref 1000, .int (xs ((6 * N) + 1)), .ref 74, .int v1]) rfl ?_
          rw [show (((nI (6 * N)) + 2) : Int32) = (nI ((6 * N) + 2)) from nI_add (6 * N) 2]
          refine wp_ald0 rfl hL rfl (by omega) ?_
          refine wp_callV (o := 74) (as := [.int (xs ((6 * N) + 1)), .int (xs ((6 * N) + 2))]) (rest := [.int v1]) (els := [.ref 74, .int (xs ((6 * N) + 1)), .int (xs ((6 * N) + 2))]) rfl rfl rfl rfl rfl rfl rfl rfl (by omega) ?_
          refine hk _ _ (fun b2 h2 hR2 => ?_)
          show am_wp L xs _ _ _ _ 366 [.ref 1000, .ref 0, .ref 74, .int (nI (6 * N))] [.int v1, .int v1] (am_S b2) h2 _
          refine wp_icmp_t rfl (show v1 = v1 from rfl) ?_
          refine wp_run 2 (pc' := 18) (ls' := [.ref 1000, .ref 0, .ref 74, .int ((nI (6 * N)) + 6)]) (st' := []) rfl ?_
          rw [show (((nI (6 * N)) + 6) : Int32) = (nI ((6 * N) + 6)) from nI_add (6 * N) 6]
          rw [show (nI ((6 * N) + 6)) = nI (6 * (N + 1)) from by congr 1]
          exact ih (N + 1) _ _ hR2 (by omega) (by omega)
        · skip
          refine wp_run 5 (pc' := 376) (ls' := [.ref 1000, .ref 0, .ref 74, .int (nI (6 * N))]) (st' := [.int ((nI (6 * N)) + 1), .ref 1000, .ref 0]) rfl ?_
          rw [show (((nI (6 * N)) + 1) : Int32) = (nI ((6 * N) + 1)) from nI_add (6 * N) 1]
          refine wp_ald0 rfl hL rfl (by omega) ?_
          refine wp_run 4 (pc' := 381) (ls' := [.ref 1000, .ref 0, .ref 74, .int (nI (6 * N))]) (st' := [.int ((nI (6 * N)) + 2), .ref 1000, .int (xs ((6 * N) + 1)), .ref 0]) rfl ?_
          rw [show (((nI (6 * N)) + 2) : Int32) = (nI ((6 * N) + 2)) from nI_add (6 * N) 2]
          refine wp_ald0 rfl hL rfl (by omega) ?_
          refine wp_callV (o := 0) (as := [.int (xs ((6 * N) + 1)), .int (xs ((6 * N) + 2))]) (rest := []) (els := [.ref 0, .int (xs ((6 * N) + 1)), .int (xs ((6 * N) + 2))]) rfl rfl rfl rfl rfl rfl rfl rfl (by omega) ?_
          refine op_as (N := N) (by omega) hR (by omega) (fun v1 b1 h1 hk => ?_)
          show am_wp L xs _ _ _ _ 385 [.ref 1000, .ref 0, .ref 74, .int (nI (6 * N))] [.int v1] (am_S b1) h1 _
          refine wp_run 5 (pc' := 390) (ls' := [.ref 1000, .ref 0, .ref 74, .int (nI (6 * N))]) (st' := [.int ((nI (6 * N)) + 1), .ref 1000, .ref 74, .int v1]) rfl ?_
          rw [show (((nI (6 * N)) + 1) : Int32) = (nI ((6 * N) + 1)) from nI_add (6 * N) 1]
          refine wp_ald0 rfl hL rfl (by omega) ?_
          refine wp_run 4 (pc' := 395) (ls' := [.ref 1000, .ref 0, .ref 74, .int (nI (6 * N))]) (st' := [.int ((nI (6 * N)) + 2), .ref 1000, .int (xs ((6 * N) + 1)), .ref 74, .int v1]) rfl ?_
          rw [show (((nI (6 * N)) + 2) : Int32) = (nI ((6 * N) + 2)) from nI_add (6 * N) 2]
          refine wp_ald0 rfl hL rfl (by omega) ?_
          refine wp_callV (o := 74) (as := [.int (xs ((6 * N) + 1)), .int (xs ((6 * N) + 2))]) (rest := [.int v1]) (els := [.ref 74, .int (xs ((6 * N) + 1)), .int (xs ((6 * N) + 2)), am_du, am_du]) rfl rfl rfl rfl rfl rfl rfl rfl (by omega) ?_
          refine hk _ _ (fun b2 h2 hR2 => ?_)
          show am_wp L xs _ _ _ _ 399 [.ref 1000, .ref 0, .ref 74, .int (nI (6 * N))] [.int v1, .int v1] (am_S b2) h2 _
          refine wp_icmp_t rfl (show v1 = v1 from rfl) ?_
          refine wp_run 2 (pc' := 18) (ls' := [.ref 1000, .ref 0, .ref 74, .int ((nI (6 * N)) + 6)]) (st' := []) rfl ?_
          rw [show (((nI (6 * N)) + 6) : Int32) = (nI ((6 * N) + 6)) from nI_add (6 * N) 6]
          rw [show (nI ((6 * N) + 6)) = nI (6 * (N + 1)) from by congr 1]
          exact ih (N + 1) _ _ hR2 (by omega) (by omega)
        · skip
          refine wp_run 5 (pc' := 409) (ls' := [.ref 1000, .ref 0, .ref 74, .int (nI (6 * N))]) (st' := [.int ((nI (6 * N)) + 1), .ref 1000, .ref 0]) rfl ?_
          rw [show (((nI (6 * N)) + 1) : Int32) = (nI ((6 * N) + 1)) from nI_add (6 * N) 1]
          refine wp_ald0 rfl hL rfl (by omega) ?_
          refine wp_run 4 (pc' := 414) (ls' := [.ref 1000, .ref 0, .ref 74, .int (nI (6 * N))]) (st' := [.int ((nI (6 * N)) + 2), .ref 1000, .int (xs ((6 * N) + 1)), .ref 0]) rfl ?_
          rw [show (((nI (6 * N)) + 2) : Int32) = (nI ((6 * N) + 2)) from nI_add (6 * N) 2]
          refine wp_ald0 rfl hL rfl (by omega) ?_
          refine wp_callV (o := 0) (as := [.int (xs ((6 * N) + 1)), .int (xs ((6 * N) + 2))]) (rest := []) (els := [.ref 0, .int (xs ((6 * N) + 1)), .int (xs ((6 * N) + 2))]) rfl rfl rfl rfl rfl rfl rfl rfl (by omega) ?_
          refine op_like (N := N) (by omega) hR (by omega) (fun v1 b1 h1 hk => ?_)
          show am_wp L xs _ _ _ _ 418 [.ref 1000, .ref 0, .ref 74, .int (nI (6 * N))] [.int v1] (am_S b1) h1 _
          refine wp_run 5 (pc' := 423) (ls' := [.ref 1000, .ref 0, .ref 74, .int (nI (6 * N))]) (st' := [.int ((nI (6 * N)) + 1), .ref 1000, .ref 74, .int v1]) rfl ?_
          rw [show (((nI (6 * N)) + 1) : Int32) = (nI ((6 * N) + 1)) from nI_add (6 * N) 1]
          refine wp_ald0 rfl hL rfl (by omega) ?_
          refine wp_run 4 (pc' := 428) (ls' := [.ref 1000, .ref 0, .ref 74, .int (nI (6 * N))]) (st' := [.int ((nI (6 * N)) + 2), .ref 1000, .int (xs ((6 * N) + 1)), .ref 74, .int v1]) rfl ?_
          rw [show (((nI (6 * N)) + 2) : Int32) = (nI ((6 * N) + 2)) from nI_add (6 * N) 2]
          refine wp_ald0 rfl hL rfl (by omega) ?_
          refine wp_callV (o := 74) (as := [.int (xs ((6 * N) + 1)), .int (xs ((6 * N) + 2))]) (rest := [.int v1]) (els := [.ref 74, .int (xs ((6 * N) + 1)), .int (xs ((6 * N) + 2))]) rfl rfl rfl rfl rfl rfl rfl rfl (by omega) ?_
          refine hk _ _ (fun b2 h2 hR2 => ?_)
          show am_wp L xs _ _ _ _ 432 [.ref 1000, .ref 0, .ref 74, .int (nI (6 * N))] [.int v1, .int v1] (am_S b2) h2 _
          refine wp_icmp_t rfl (show v1 = v1 from rfl) ?_
          refine wp_run 2 (pc' := 18) (ls' := [.ref 1000, .ref 0, .ref 74, .int ((nI (6 * N)) + 6)]) (st' := []) rfl ?_
          rw [show (((nI (6 * N)) + 6) : Int32) = (nI ((6 * N) + 6)) from nI_add (6 * N) 6]
          rw [show (nI ((6 * N) + 6)) = nI (6 * (N + 1)) from by congr 1]
          exact ih (N + 1) _ _ hR2 (by omega) (by omega)
        · skip
          refine wp_run 5 (pc' := 442) (ls' := [.ref 1000, .ref 0, .ref 74, .int (nI (6 * N))]) (st' := [.int ((nI (6 * N)) + 1), .ref 1000, .ref 0]) rfl ?_
          rw [show (((nI (6 * N)) + 1) : Int32) = (nI ((6 * N) + 1)) from nI_add (6 * N) 1]
          refine wp_ald0 rfl hL rfl (by omega) ?_
          refine wp_run 4 (pc' := 447) (ls' := [.ref 1000, .ref 0, .ref 74, .int (nI (6 * N))]) (st' := [.int ((nI (6 * N)) + 2), .ref 1000, .int (xs ((6 * N) + 1)), .ref 0]) rfl ?_
          rw [show (((nI (6 * N)) + 2) : Int32) = (nI ((6 * N) + 2)) from nI_add (6 * N) 2]
          refine wp_ald0 rfl hL rfl (by omega) ?_
          refine wp_callV (o := 0) (as := [.int (xs ((6 * N) + 1)), .int (xs ((6 * N) + 2))]) (rest := []) (els := [.ref 0, .int (xs ((6 * N) + 1)), .int (xs ((6 * N) + 2))]) rfl rfl rfl rfl rfl rfl rfl rfl (by omega) ?_
          refine op_done (N := N) (by omega) hR (by omega) (fun v1 b1 h1 hk => ?_)
          show am_wp L xs _ _ _ _ 451 [.ref 1000, .ref 0, .ref 74, .int (nI (6 * N))] [.int v1] (am_S b1) h1 _
          refine wp_run 5 (pc' := 456) (ls' := [.ref 1000, .ref 0, .ref 74, .int (nI (6 * N))]) (st' := [.int ((nI (6 * N)) + 1), .ref 1000, .ref 74, .int v1]) rfl ?_
          rw [show (((nI (6 * N)) + 1) : Int32) = (nI ((6 * N) + 1)) from nI_add (6 * N) 1]
          refine wp_ald0 rfl hL rfl (by omega) ?_
          refine wp_run 4 (pc' := 461) (ls' := [.ref 1000, .ref 0, .ref 74, .int (nI (6 * N))]) (st' := [.int ((nI (6 * N)) + 2), .ref 1000, .int (xs ((6 * N) + 1)), .ref 74, .int v1]) rfl ?_
          rw [show (((nI (6 * N)) + 2) : Int32) = (nI ((6 * N) + 2)) from nI_add (6 * N) 2]
          refine wp_ald0 rfl hL rfl (by omega) ?_
          refine wp_callV (o := 74) (as := [.int (xs ((6 * N) + 1)), .int (xs ((6 * N) + 2))]) (rest := [.int v1]) (els := [.ref 74, .int (xs ((6 * N) + 1)), .int (xs ((6 * N) + 2))]) rfl rfl rfl rfl rfl rfl rfl rfl (by omega) ?_
          refine hk _ _ (fun b2 h2 hR2 => ?_)
          show am_wp L xs _ _ _ _ 465 [.ref 1000, .ref 0, .ref 74, .int (nI (6 * N))] [.int v1, .int v1] (am_S b2) h2 _
          refine wp_icmp_t rfl (show v1 = v1 from rfl) ?_
          refine wp_run 2 (pc' := 18) (ls' := [.ref 1000, .ref 0, .ref 74, .int ((nI (6 * N)) + 6)]) (st' := []) rfl ?_
          rw [show (((nI (6 * N)) + 6) : Int32) = (nI ((6 * N) + 6)) from nI_add (6 * N) 6]
          rw [show (nI ((6 * N) + 6)) = nI (6 * (N + 1)) from by congr 1]
          exact ih (N + 1) _ _ hR2 (by omega) (by omega)
        · skip
          refine wp_run 5 (pc' := 475) (ls' := [.ref 1000, .ref 0, .ref 74, .int (nI (6 * N))]) (st' := [.int ((nI (6 * N)) + 1), .ref 1000, .ref 0]) rfl ?_
          rw [show (((nI (6 * N)) + 1) : Int32) = (nI ((6 * N) + 1)) from nI_add (6 * N) 1]
          refine wp_ald0 rfl hL rfl (by omega) ?_
          refine wp_run 4 (pc' := 480) (ls' := [.ref 1000, .ref 0, .ref 74, .int (nI (6 * N))]) (st' := [.int ((nI (6 * N)) + 2), .ref 1000, .int (xs ((6 * N) + 1)), .ref 0]) rfl ?_
          rw [show (((nI (6 * N)) + 2) : Int32) = (nI ((6 * N) + 2)) from nI_add (6 * N) 2]
          refine wp_ald0 rfl hL rfl (by omega) ?_
          refine wp_callV (o := 0) (as := [.int (xs ((6 * N) + 1)), .int (xs ((6 * N) + 2))]) (rest := []) (els := [.ref 0, .int (xs ((6 * N) + 1)), .int (xs ((6 * N) + 2)), am_du, am_du]) rfl rfl rfl rfl rfl rfl rfl rfl (by omega) ?_
          refine op_wears (N := N) (by omega) hR (by omega) (fun v1 b1 h1 hk => ?_)
          show am_wp L xs _ _ _ _ 484 [.ref 1000, .ref 0, .ref 74, .int (nI (6 * N))] [.int v1] (am_S b1) h1 _
          refine wp_run 5 (pc' := 489) (ls' := [.ref 1000, .ref 0, .ref 74, .int (nI (6 * N))]) (st' := [.int ((nI (6 * N)) + 1), .ref 1000, .ref 74, .int v1]) rfl ?_
          rw [show (((nI (6 * N)) + 1) : Int32) = (nI ((6 * N) + 1)) from nI_add (6 * N) 1]
          refine wp_ald0 rfl hL rfl (by omega) ?_
          refine wp_run 4 (pc' := 494) (ls' := [.ref 1000, .ref 0, .ref 74, .int (nI (6 * N))]) (st' := [.int ((nI (6 * N)) + 2), .ref 1000, .int (xs ((6 * N) + 1)), .ref 74, .int v1]) rfl ?_
          rw [show (((nI (6 * N)) + 2) : Int32) = (nI ((6 * N) + 2)) from nI_add (6 * N) 2]
          refine wp_ald0 rfl hL rfl (by omega) ?_
          refine wp_callV (o := 74) (as := [.int (xs ((6 * N) + 1)), .int (xs ((6 * N) + 2))]) (rest := [.int v1]) (els := [.ref 74, .int (xs ((6 * N) + 1)), .int (xs ((6 * N) + 2)), am_du]) rfl rfl rfl rfl rfl rfl rfl rfl (by omega) ?_
          refine hk _ _ (fun b2 h2 hR2 => ?_)
          show am_wp L xs _ _ _ _ 498 [.ref 1000, .ref 0, .ref 74, .int (nI (6 * N))] [.int v1, .int v1] (am_S b2) h2 _
          refine wp_icmp_t rfl (show v1 = v1 from rfl) ?_
          refine wp_run 2 (pc' := 18) (ls' := [.ref 1000, .ref 0, .ref 74, .int ((nI (6 * N)) + 6)]) (st' := []) rfl ?_
          rw [show (((nI (6 * N)) + 6) : Int32) = (nI ((6 * N) + 6)) from nI_add (6 * N) 6]
          rw [show (nI ((6 * N) + 6)) = nI (6 * (N + 1)) from by congr 1]
          exact ih (N + 1) _ _ hR2 (by omega) (by omega)
        · skip
          refine wp_run 5 (pc' := 508) (ls' := [.ref 1000, .ref 0, .ref 74, .int (nI (6 * N))]) (st' := [.int ((nI (6 * N)) + 1), .ref 1000, .ref 0]) rfl ?_
          rw [show (((nI (6 * N)) + 1) : Int32) = (nI ((6 * N) + 1)) from nI_add (6 * N) 1]
          refine wp_ald0 rfl hL rfl (by omega) ?_
          refine wp_callV (o := 0) (as := [.int (xs ((6 * N) + 1))]) (rest := []) (els := [.ref 0, .int (xs ((6 * N) + 1))]) rfl rfl rfl rfl rfl rfl rfl rfl (by omega) ?_
          refine op_leaves (N := N) (by omega) hR (by omega) (fun v1 b1 h1 hk => ?_)
          show am_wp L xs _ _ _ _ 512 [.ref 1000, .ref 0, .ref 74, .int (nI (6 * N))] [.int v1] (am_S b1) h1 _
          refine wp_run 5 (pc' := 517) (ls' := [.ref 1000, .ref 0, .ref 74, .int (nI (6 * N))]) (st' := [.int ((nI (6 * N)) + 1), .ref 1000, .ref 74, .int v1]) rfl ?_
          rw [show (((nI (6 * N)) + 1) : Int32) = (nI ((6 * N) + 1)) from nI_add (6 * N) 1]
          refine wp_ald0 rfl hL rfl (by omega) ?_
          refine wp_callV (o := 74) (as := [.int (xs ((6 * N) + 1))]) (rest := [.int v1]) (els := [.ref 74, .int (xs ((6 * N) + 1)), am_du]) rfl rfl rfl rfl rfl rfl rfl rfl (by omega) ?_
          refine hk _ _ (fun b2 h2 hR2 => ?_)
          show am_wp L xs _ _ _ _ 521 [.ref 1000, .ref 0, .ref 74, .int (nI (6 * N))] [.int v1, .int v1] (am_S b2) h2 _
          refine wp_icmp_t rfl (show v1 = v1 from rfl) ?_
          refine wp_run 2 (pc' := 18) (ls' := [.ref 1000, .ref 0, .ref 74, .int ((nI (6 * N)) + 6)]) (st' := []) rfl ?_
          rw [show (((nI (6 * N)) + 6) : Int32) = (nI ((6 * N) + 6)) from nI_add (6 * N) 6]
          rw [show (nI ((6 * N) + 6)) = nI (6 * (N + 1)) from by congr 1]
          exact ih (N + 1) _ _ hR2 (by omega) (by omega)
        · skip
          refine wp_run 5 (pc' := 531) (ls' := [.ref 1000, .ref 0, .ref 74, .int (nI (6 * N))]) (st' := [.int ((nI (6 * N)) + 1), .ref 1000, .ref 0]) rfl ?_
          rw [show (((nI (6 * N)) + 1) : Int32) = (nI ((6 * N) + 1)) from nI_add (6 * N) 1]
          refine wp_ald0 rfl hL rfl (by omega) ?_
          refine wp_run 7 (pc' := 540) (ls' := [.ref 1000, .ref 0, .ref 74, .int (nI (6 * N))]) (st' := [.int ((nI (6 * N)) + 2), .ref 1000, .long ((Int32.toInt64 (xs ((6 * N) + 1))) <<< (Int32.toInt64 32 &&& 63)), .ref 0]) rfl ?_
          rw [show (((nI (6 * N)) + 2) : Int32) = (nI ((6 * N) + 2)) from nI_add (6 * N) 2]
          refine wp_ald0 rfl hL rfl (by omega) ?_
          refine wp_run 8 (pc' := 551) (ls' := [.ref 1000, .ref 0, .ref 74, .int (nI (6 * N))]) (st' := [.int ((nI (6 * N)) + 3), .ref 1000, .long (((Int32.toInt64 (xs ((6 * N) + 1))) <<< (Int32.toInt64 32 &&& 63)) ||| ((Int32.toInt64 (xs ((6 * N) + 2))) &&& (Int64.ofNat 4294967295))), .ref 0]) rfl ?_
          rw [show (((nI (6 * N)) + 3) : Int32) = (nI ((6 * N) + 3)) from nI_add (6 * N) 3]
          refine wp_ald0 rfl hL rfl (by omega) ?_
          refine wp_callV (o := 0) (as := [.long (((Int32.toInt64 (xs ((6 * N) + 1))) <<< (Int32.toInt64 32 &&& 63)) ||| ((Int32.toInt64 (xs ((6 * N) + 2))) &&& (Int64.ofNat 4294967295))), .int (xs ((6 * N) + 3))]) (rest := []) (els := [.ref 0, .long (((Int32.toInt64 (xs ((6 * N) + 1))) <<< (Int32.toInt64 32 &&& 63)) ||| ((Int32.toInt64 (xs ((6 * N) + 2))) &&& (Int64.ofNat 4294967295))), am_du, .int (xs ((6 * N) + 3)), am_du]) rfl rfl rfl rfl rfl rfl rfl rfl (by omega) ?_
          refine op_feed (N := N) (by omega) hR (by omega) (fun v1 b1 h1 hk => ?_)
          show am_wp L xs _ _ _ _ 555 [.ref 1000, .ref 0, .ref 74, .int (nI (6 * N))] [.int v1] (am_S b1) h1 _
          refine wp_run 5 (pc' := 560) (ls' := [.ref 1000, .ref 0, .ref 74, .int (nI (6 * N))]) (st' := [.int ((nI (6 * N)) + 1), .ref 1000, .ref 74, .int v1]) rfl ?_
          rw [show (((nI (6 * N)) + 1) : Int32) = (nI ((6 * N) + 1)) from nI_add (6 * N) 1]
          refine wp_ald0 rfl hL rfl (by omega) ?_
          refine wp_run 7 (pc' := 569) (ls' := [.ref 1000, .ref 0, .ref 74, .int (nI (6 * N))]) (st' := [.int ((nI (6 * N)) + 2), .ref 1000, .long ((Int32.toInt64 (xs ((6 * N) + 1))) <<< (Int32.toInt64 32 &&& 63)), .ref 74, .int v1]) rfl ?_
          rw [show (((nI (6 * N)) + 2) : Int32) = (nI ((6 * N) + 2)) from nI_add (6 * N) 2]
          refine wp_ald0 rfl hL rfl (by omega) ?_
          refine wp_run 8 (pc' := 580) (ls' := [.ref 1000, .ref 0, .ref 74, .int (nI (6 * N))]) (st' := [.int ((nI (6 * N)) + 3), .ref 1000, .long (((Int32.toInt64 (xs ((6 * N) + 1))) <<< (Int32.toInt64 32 &&& 63)) ||| ((Int32.toInt64 (xs ((6 * N) + 2))) &&& (Int64.ofNat 4294967295))), .ref 74, .int v1]) rfl ?_
          rw [show (((nI (6 * N)) + 3) : Int32) = (nI ((6 * N) + 3)) from nI_add (6 * N) 3]
          refine wp_ald0 rfl hL rfl (by omega) ?_
          refine wp_callV (o := 74) (as := [.long (((Int32.toInt64 (xs ((6 * N) + 1))) <<< (Int32.toInt64 32 &&& 63)) ||| ((Int32.toInt64 (xs ((6 * N) + 2))) &&& (Int64.ofNat 4294967295))), .int (xs ((6 * N) + 3))]) (rest := [.int v1]) (els := [.ref 74, .long (((Int32.toInt64 (xs ((6 * N) + 1))) <<< (Int32.toInt64 32 &&& 63)) ||| ((Int32.toInt64 (xs ((6 * N) + 2))) &&& (Int64.ofNat 4294967295))), am_du, .int (xs ((6 * N) + 3)), am_du]) rfl rfl rfl rfl rfl rfl rfl rfl (by omega) ?_
          refine hk _ _ (fun b2 h2 hR2 => ?_)
          show am_wp L xs _ _ _ _ 584 [.ref 1000, .ref 0, .ref 74, .int (nI (6 * N))] [.int v1, .int v1] (am_S b2) h2 _
          refine wp_icmp_t rfl (show v1 = v1 from rfl) ?_
          refine wp_run 2 (pc' := 18) (ls' := [.ref 1000, .ref 0, .ref 74, .int ((nI (6 * N)) + 6)]) (st' := []) rfl ?_
          rw [show (((nI (6 * N)) + 6) : Int32) = (nI ((6 * N) + 6)) from nI_add (6 * N) 6]
          rw [show (nI ((6 * N) + 6)) = nI (6 * (N + 1)) from by congr 1]
          exact ih (N + 1) _ _ hR2 (by omega) (by omega)
        · skip
          refine wp_run 5 (pc' := 594) (ls' := [.ref 1000, .ref 0, .ref 74, .int (nI (6 * N))]) (st' := [.int ((nI (6 * N)) + 1), .ref 1000, .ref 0]) rfl ?_
          rw [show (((nI (6 * N)) + 1) : Int32) = (nI ((6 * N) + 1)) from nI_add (6 * N) 1]
          refine wp_ald0 rfl hL rfl (by omega) ?_
          refine wp_callV (o := 0) (as := [.int (xs ((6 * N) + 1))]) (rest := []) (els := [.ref 0, .int (xs ((6 * N) + 1)), am_du]) rfl rfl rfl rfl rfl rfl rfl rfl (by omega) ?_
          refine op_text (N := N) (by omega) hR (by omega) (fun v1 b1 h1 hk => ?_)
          show am_wp L xs _ _ _ _ 598 [.ref 1000, .ref 0, .ref 74, .int (nI (6 * N))] [.int v1] (am_S b1) h1 _
          refine wp_run 5 (pc' := 603) (ls' := [.ref 1000, .ref 0, .ref 74, .int (nI (6 * N))]) (st' := [.int ((nI (6 * N)) + 1), .ref 1000, .ref 74, .int v1]) rfl ?_
          rw [show (((nI (6 * N)) + 1) : Int32) = (nI ((6 * N) + 1)) from nI_add (6 * N) 1]
          refine wp_ald0 rfl hL rfl (by omega) ?_
          refine wp_callV (o := 74) (as := [.int (xs ((6 * N) + 1))]) (rest := [.int v1]) (els := [.ref 74, .int (xs ((6 * N) + 1)), am_du, am_du]) rfl rfl rfl rfl rfl rfl rfl rfl (by omega) ?_
          refine hk _ _ (fun b2 h2 hR2 => ?_)
          show am_wp L xs _ _ _ _ 607 [.ref 1000, .ref 0, .ref 74, .int (nI (6 * N))] [.int v1, .int v1] (am_S b2) h2 _
          refine wp_icmp_t rfl (show v1 = v1 from rfl) ?_
          refine wp_run 2 (pc' := 18) (ls' := [.ref 1000, .ref 0, .ref 74, .int ((nI (6 * N)) + 6)]) (st' := []) rfl ?_
          rw [show (((nI (6 * N)) + 6) : Int32) = (nI ((6 * N) + 6)) from nI_add (6 * N) 6]
          rw [show (nI ((6 * N) + 6)) = nI (6 * (N + 1)) from by congr 1]
          exact ih (N + 1) _ _ hR2 (by omega) (by omega)
        · skip
          refine wp_run 5 (pc' := 617) (ls' := [.ref 1000, .ref 0, .ref 74, .int (nI (6 * N))]) (st' := [.int ((nI (6 * N)) + 1), .ref 1000, .ref 0]) rfl ?_
          rw [show (((nI (6 * N)) + 1) : Int32) = (nI ((6 * N) + 1)) from nI_add (6 * N) 1]
          refine wp_ald0 rfl hL rfl (by omega) ?_
          refine wp_callV (o := 0) (as := [.int (xs ((6 * N) + 1))]) (rest := []) (els := [.ref 0, .int (xs ((6 * N) + 1)), am_du]) rfl rfl rfl rfl rfl rfl rfl rfl (by omega) ?_
          refine op_untell (N := N) (by omega) hR (by omega) (fun v1 b1 h1 hk => ?_)
          show am_wp L xs _ _ _ _ 621 [.ref 1000, .ref 0, .ref 74, .int (nI (6 * N))] [.int v1] (am_S b1) h1 _
          refine wp_run 5 (pc' := 626) (ls' := [.ref 1000, .ref 0, .ref 74, .int (nI (6 * N))]) (st' := [.int ((nI (6 * N)) + 1), .ref 1000, .ref 74, .int v1]) rfl ?_
          rw [show (((nI (6 * N)) + 1) : Int32) = (nI ((6 * N) + 1)) from nI_add (6 * N) 1]
          refine wp_ald0 rfl hL rfl (by omega) ?_
          refine wp_callV (o := 74) (as := [.int (xs ((6 * N) + 1))]) (rest := [.int v1]) (els := [.ref 74, .int (xs ((6 * N) + 1))]) rfl rfl rfl rfl rfl rfl rfl rfl (by omega) ?_
          refine hk _ _ (fun b2 h2 hR2 => ?_)
          show am_wp L xs _ _ _ _ 630 [.ref 1000, .ref 0, .ref 74, .int (nI (6 * N))] [.int v1, .int v1] (am_S b2) h2 _
          refine wp_icmp_t rfl (show v1 = v1 from rfl) ?_
          refine wp_run 2 (pc' := 18) (ls' := [.ref 1000, .ref 0, .ref 74, .int ((nI (6 * N)) + 6)]) (st' := []) rfl ?_
          rw [show (((nI (6 * N)) + 6) : Int32) = (nI ((6 * N) + 6)) from nI_add (6 * N) 6]
          rw [show (nI ((6 * N) + 6)) = nI (6 * (N + 1)) from by congr 1]
          exact ih (N + 1) _ _ hR2 (by omega) (by omega)
        · skip
          refine wp_run 5 (pc' := 640) (ls' := [.ref 1000, .ref 0, .ref 74, .int (nI (6 * N))]) (st' := [.int ((nI (6 * N)) + 1), .ref 1000, .ref 0]) rfl ?_
          rw [show (((nI (6 * N)) + 1) : Int32) = (nI ((6 * N) + 1)) from nI_add (6 * N) 1]
          refine wp_ald0 rfl hL rfl (by omega) ?_
          refine wp_run 4 (pc' := 645) (ls' := [.ref 1000, .ref 0, .ref 74, .int (nI (6 * N))]) (st' := [.int ((nI (6 * N)) + 2), .ref 1000, .int (xs ((6 * N) + 1)), .ref 0]) rfl ?_
          rw [show (((nI (6 * N)) + 2) : Int32) = (nI ((6 * N) + 2)) from nI_add (6 * N) 2]
          refine wp_ald0 rfl hL rfl (by omega) ?_
          refine wp_run 4 (pc' := 650) (ls' := [.ref 1000, .ref 0, .ref 74, .int (nI (6 * N))]) (st' := [.int ((nI (6 * N)) + 3), .ref 1000, .int (xs ((6 * N) + 2)), .int (xs ((6 * N) + 1)), .ref 0]) rfl ?_
          rw [show (((nI (6 * N)) + 3) : Int32) = (nI ((6 * N) + 3)) from nI_add (6 * N) 3]
          refine wp_ald0 rfl hL rfl (by omega) ?_
          refine wp_run 4 (pc' := 655) (ls' := [.ref 1000, .ref 0, .ref 74, .int (nI (6 * N))]) (st' := [.int ((nI (6 * N)) + 4), .ref 1000, .int (xs ((6 * N) + 3)), .int (xs ((6 * N) + 2)), .int (xs ((6 * N) + 1)), .ref 0]) rfl ?_
          rw [show (((nI (6 * N)) + 4) : Int32) = (nI ((6 * N) + 4)) from nI_add (6 * N) 4]
          refine wp_ald0 rfl hL rfl (by omega) ?_
          refine wp_callV (o := 0) (as := [.int (xs ((6 * N) + 1)), .int (xs ((6 * N) + 2)), .int (xs ((6 * N) + 3)), .int (xs ((6 * N) + 4))]) (rest := []) (els := [.ref 0, .int (xs ((6 * N) + 1)), .int (xs ((6 * N) + 2)), .int (xs ((6 * N) + 3)), .int (xs ((6 * N) + 4))]) rfl rfl rfl rfl rfl rfl rfl rfl (by omega) ?_
          refine op_law (N := N) (by omega) hR (by omega) (fun v1 b1 h1 hk => ?_)
          show am_wp L xs _ _ _ _ 659 [.ref 1000, .ref 0, .ref 74, .int (nI (6 * N))] [.int v1] (am_S b1) h1 _
          refine wp_run 5 (pc' := 664) (ls' := [.ref 1000, .ref 0, .ref 74, .int (nI (6 * N))]) (st' := [.int ((nI (6 * N)) + 1), .ref 1000, .ref 74, .int v1]) rfl ?_
          rw [show (((nI (6 * N)) + 1) : Int32) = (nI ((6 * N) + 1)) from nI_add (6 * N) 1]
          refine wp_ald0 rfl hL rfl (by omega) ?_
          refine wp_run 4 (pc' := 669) (ls' := [.ref 1000, .ref 0, .ref 74, .int (nI (6 * N))]) (st' := [.int ((nI (6 * N)) + 2), .ref 1000, .int (xs ((6 * N) + 1)), .ref 74, .int v1]) rfl ?_
          rw [show (((nI (6 * N)) + 2) : Int32) = (nI ((6 * N) + 2)) from nI_add (6 * N) 2]
          refine wp_ald0 rfl hL rfl (by omega) ?_
          refine wp_run 4 (pc' := 674) (ls' := [.ref 1000, .ref 0, .ref 74, .int (nI (6 * N))]) (st' := [.int ((nI (6 * N)) + 3), .ref 1000, .int (xs ((6 * N) + 2)), .int (xs ((6 * N) + 1)), .ref 74, .int v1]) rfl ?_
          rw [show (((nI (6 * N)) + 3) : Int32) = (nI ((6 * N) + 3)) from nI_add (6 * N) 3]
          refine wp_ald0 rfl hL rfl (by omega) ?_
          refine wp_run 4 (pc' := 679) (ls' := [.ref 1000, .ref 0, .ref 74, .int (nI (6 * N))]) (st' := [.int ((nI (6 * N)) + 4), .ref 1000, .int (xs ((6 * N) + 3)), .int (xs ((6 * N) + 2)), .int (xs ((6 * N) + 1)), .ref 74, .int v1]) rfl ?_
          rw [show (((nI (6 * N)) + 4) : Int32) = (nI ((6 * N) + 4)) from nI_add (6 * N) 4]
          refine wp_ald0 rfl hL rfl (by omega) ?_
          refine wp_callV (o := 74) (as := [.int (xs ((6 * N) + 1)), .int (xs ((6 * N) + 2)), .int (xs ((6 * N) + 3)), .int (xs ((6 * N) + 4))]) (rest := [.int v1]) (els := [.ref 74, .int (xs ((6 * N) + 1)), .int (xs ((6 * N) + 2)), .int (xs ((6 * N) + 3)), .int (xs ((6 * N) + 4))]) rfl rfl rfl rfl rfl rfl rfl rfl (by omega) ?_
          refine hk _ _ (fun b2 h2 hR2 => ?_)
          show am_wp L xs _ _ _ _ 683 [.ref 1000, .ref 0, .ref 74, .int (nI (6 * N))] [.int v1, .int v1] (am_S b2) h2 _
          refine wp_icmp_t rfl (show v1 = v1 from rfl) ?_
          refine wp_run 2 (pc' := 18) (ls' := [.ref 1000, .ref 0, .ref 74, .int ((nI (6 * N)) + 6)]) (st' := []) rfl ?_
          rw [show (((nI (6 * N)) + 6) : Int32) = (nI ((6 * N) + 6)) from nI_add (6 * N) 6]
          rw [show (nI ((6 * N) + 6)) = nI (6 * (N + 1)) from by congr 1]
          exact ih (N + 1) _ _ hR2 (by omega) (by omega)
        · skip
          refine wp_run 1 (pc' := 689) (ls' := [.ref 1000, .ref 0, .ref 74, .int (nI (6 * N))]) (st' := [.ref 0]) rfl ?_
          refine wp_callV (o := 0) (as := []) (rest := []) (els := [.ref 0]) rfl rfl rfl rfl rfl rfl rfl rfl (by omega) ?_
          refine op_night (N := N) (by omega) hR (by omega) (fun v1 b1 h1 hk => ?_)
          show am_wp L xs _ _ _ _ 692 [.ref 1000, .ref 0, .ref 74, .int (nI (6 * N))] [.int v1] (am_S b1) h1 _
          refine wp_run 1 (pc' := 693) (ls' := [.ref 1000, .ref 0, .ref 74, .int (nI (6 * N))]) (st' := [.ref 74, .int v1]) rfl ?_
          refine wp_callV (o := 74) (as := []) (rest := [.int v1]) (els := [.ref 74]) rfl rfl rfl rfl rfl rfl rfl rfl (by omega) ?_
          refine hk _ _ (fun b2 h2 hR2 => ?_)
          show am_wp L xs _ _ _ _ 696 [.ref 1000, .ref 0, .ref 74, .int (nI (6 * N))] [.int v1, .int v1] (am_S b2) h2 _
          refine wp_icmp_t rfl (show v1 = v1 from rfl) ?_
          refine wp_run 2 (pc' := 18) (ls' := [.ref 1000, .ref 0, .ref 74, .int ((nI (6 * N)) + 6)]) (st' := []) rfl ?_
          rw [show (((nI (6 * N)) + 6) : Int32) = (nI ((6 * N) + 6)) from nI_add (6 * N) 6]
          rw [show (nI ((6 * N) + 6)) = nI (6 * (N + 1)) from by congr 1]
          exact ih (N + 1) _ _ hR2 (by omega) (by omega)
        · skip
          refine wp_run 5 (pc' := 706) (ls' := [.ref 1000, .ref 0, .ref 74, .int (nI (6 * N))]) (st' := [.int ((nI (6 * N)) + 1), .ref 1000, .ref 0]) rfl ?_
          rw [show (((nI (6 * N)) + 1) : Int32) = (nI ((6 * N) + 1)) from nI_add (6 * N) 1]
          refine wp_ald0 rfl hL rfl (by omega) ?_
          refine wp_callV (o := 0) (as := [.int (xs ((6 * N) + 1))]) (rest := []) (els := [.ref 0, .int (xs ((6 * N) + 1)), am_du, am_du]) rfl rfl rfl rfl rfl rfl rfl rfl (by omega) ?_
          refine op_nights (N := N) (by omega) hR (by omega) (fun v1 b1 h1 hk => ?_)
          show am_wp L xs _ _ _ _ 710 [.ref 1000, .ref 0, .ref 74, .int (nI (6 * N))] [.int v1] (am_S b1) h1 _
          refine wp_run 5 (pc' := 715) (ls' := [.ref 1000, .ref 0, .ref 74, .int (nI (6 * N))]) (st' := [.int ((nI (6 * N)) + 1), .ref 1000, .ref 74, .int v1]) rfl ?_
          rw [show (((nI (6 * N)) + 1) : Int32) = (nI ((6 * N) + 1)) from nI_add (6 * N) 1]
          refine wp_ald0 rfl hL rfl (by omega) ?_
          refine wp_callV (o := 74) (as := [.int (xs ((6 * N) + 1))]) (rest := [.int v1]) (els := [.ref 74, .int (xs ((6 * N) + 1)), am_du, am_du]) rfl rfl rfl rfl rfl rfl rfl rfl (by omega) ?_
          refine hk _ _ (fun b2 h2 hR2 => ?_)
          show am_wp L xs _ _ _ _ 719 [.ref 1000, .ref 0, .ref 74, .int (nI (6 * N))] [.int v1, .int v1] (am_S b2) h2 _
          refine wp_icmp_t rfl (show v1 = v1 from rfl) ?_
          refine wp_run 2 (pc' := 18) (ls' := [.ref 1000, .ref 0, .ref 74, .int ((nI (6 * N)) + 6)]) (st' := []) rfl ?_
          rw [show (((nI (6 * N)) + 6) : Int32) = (nI ((6 * N) + 6)) from nI_add (6 * N) 6]
          rw [show (nI ((6 * N) + 6)) = nI (6 * (N + 1)) from by congr 1]
          exact ih (N + 1) _ _ hR2 (by omega) (by omega)
        · skip
          refine wp_run 5 (pc' := 729) (ls' := [.ref 1000, .ref 0, .ref 74, .int (nI (6 * N))]) (st' := [.int ((nI (6 * N)) + 1), .ref 1000, .ref 0]) rfl ?_
          rw [show (((nI (6 * N)) + 1) : Int32) = (nI ((6 * N) + 1)) from nI_add (6 * N) 1]
          refine wp_ald0 rfl hL rfl (by omega) ?_
          refine wp_callV (o := 0) (as := [.int (xs ((6 * N) + 1))]) (rest := []) (els := [.ref 0, .int (xs ((6 * N) + 1)), am_du, am_du]) rfl rfl rfl rfl rfl rfl rfl rfl (by omega) ?_
          refine op_loose (N := N) (by omega) hR (by omega) (fun v1 b1 h1 hk => ?_)
          show am_wp L xs _ _ _ _ 733 [.ref 1000, .ref 0, .ref 74, .int (nI (6 * N))] [.int v1] (am_S b1) h1 _
          refine wp_run 5 (pc' := 738) (ls' := [.ref 1000, .ref 0, .ref 74, .int (nI (6 * N))]) (st' := [.int ((nI (6 * N)) + 1), .ref 1000, .ref 74, .int v1]) rfl ?_
          rw [show (((nI (6 * N)) + 1) : Int32) = (nI ((6 * N) + 1)) from nI_add (6 * N) 1]
          refine wp_ald0 rfl hL rfl (by omega) ?_
          refine wp_callV (o := 74) (as := [.int (xs ((6 * N) + 1))]) (rest := [.int v1]) (els := [.ref 74, .int (xs ((6 * N) + 1)), am_du, am_du]) rfl rfl rfl rfl rfl rfl rfl rfl (by omega) ?_
          refine hk _ _ (fun b2 h2 hR2 => ?_)
          show am_wp L xs _ _ _ _ 742 [.ref 1000, .ref 0, .ref 74, .int (nI (6 * N))] [.int v1, .int v1] (am_S b2) h2 _
          refine wp_icmp_t rfl (show v1 = v1 from rfl) ?_
          refine wp_run 2 (pc' := 18) (ls' := [.ref 1000, .ref 0, .ref 74, .int ((nI (6 * N)) + 6)]) (st' := []) rfl ?_
          rw [show (((nI (6 * N)) + 6) : Int32) = (nI ((6 * N) + 6)) from nI_add (6 * N) 6]
          rw [show (nI ((6 * N) + 6)) = nI (6 * (N + 1)) from by congr 1]
          exact ih (N + 1) _ _ hR2 (by omega) (by omega)
        · skip
          refine wp_run 5 (pc' := 752) (ls' := [.ref 1000, .ref 0, .ref 74, .int (nI (6 * N))]) (st' := [.int ((nI (6 * N)) + 1), .ref 1000, .ref 0]) rfl ?_
          rw [show (((nI (6 * N)) + 1) : Int32) = (nI ((6 * N) + 1)) from nI_add (6 * N) 1]
          refine wp_ald0 rfl hL rfl (by omega) ?_
          refine wp_callV (o := 0) (as := [.int (xs ((6 * N) + 1))]) (rest := []) (els := [.ref 0, .int (xs ((6 * N) + 1)), am_du]) rfl rfl rfl rfl rfl rfl rfl rfl (by omega) ?_
          refine op_seed (N := N) (by omega) hR (by omega) (fun v1 b1 h1 hk => ?_)
          show am_wp L xs _ _ _ _ 756 [.ref 1000, .ref 0, .ref 74, .int (nI (6 * N))] [.int v1] (am_S b1) h1 _
          refine wp_run 5 (pc' := 761) (ls' := [.ref 1000, .ref 0, .ref 74, .int (nI (6 * N))]) (st' := [.int ((nI (6 * N)) + 1), .ref 1000, .ref 74, .int v1]) rfl ?_
          rw [show (((nI (6 * N)) + 1) : Int32) = (nI ((6 * N) + 1)) from nI_add (6 * N) 1]
          refine wp_ald0 rfl hL rfl (by omega) ?_
          refine wp_callV (o := 74) (as := [.int (xs ((6 * N) + 1))]) (rest := [.int v1]) (els := [.ref 74, .int (xs ((6 * N) + 1))]) rfl rfl rfl rfl rfl rfl rfl rfl (by omega) ?_
          refine hk _ _ (fun b2 h2 hR2 => ?_)
          show am_wp L xs _ _ _ _ 765 [.ref 1000, .ref 0, .ref 74, .int (nI (6 * N))] [.int v1, .int v1] (am_S b2) h2 _
          refine wp_icmp_t rfl (show v1 = v1 from rfl) ?_
          refine wp_run 2 (pc' := 18) (ls' := [.ref 1000, .ref 0, .ref 74, .int ((nI (6 * N)) + 6)]) (st' := []) rfl ?_
          rw [show (((nI (6 * N)) + 6) : Int32) = (nI ((6 * N) + 6)) from nI_add (6 * N) 6]
          rw [show (nI ((6 * N) + 6)) = nI (6 * (N + 1)) from by congr 1]
          exact ih (N + 1) _ _ hR2 (by omega) (by omega)
        · skip
          refine wp_run 5 (pc' := 775) (ls' := [.ref 1000, .ref 0, .ref 74, .int (nI (6 * N))]) (st' := [.int ((nI (6 * N)) + 1), .ref 1000, .ref 0]) rfl ?_
          rw [show (((nI (6 * N)) + 1) : Int32) = (nI ((6 * N) + 1)) from nI_add (6 * N) 1]
          refine wp_ald0 rfl hL rfl (by omega) ?_
          refine wp_callV (o := 0) (as := [.int (xs ((6 * N) + 1))]) (rest := []) (els := [.ref 0, .int (xs ((6 * N) + 1))]) rfl rfl rfl rfl rfl rfl rfl rfl (by omega) ?_
          refine op_best (N := N) (by omega) hR (by omega) (fun v1 b1 h1 hk => ?_)
          show am_wp L xs _ _ _ _ 779 [.ref 1000, .ref 0, .ref 74, .int (nI (6 * N))] [.int v1] (am_S b1) h1 _
          refine wp_run 5 (pc' := 784) (ls' := [.ref 1000, .ref 0, .ref 74, .int (nI (6 * N))]) (st' := [.int ((nI (6 * N)) + 1), .ref 1000, .ref 74, .int v1]) rfl ?_
          rw [show (((nI (6 * N)) + 1) : Int32) = (nI ((6 * N) + 1)) from nI_add (6 * N) 1]
          refine wp_ald0 rfl hL rfl (by omega) ?_
          refine wp_callV (o := 74) (as := [.int (xs ((6 * N) + 1))]) (rest := [.int v1]) (els := [.ref 74, .int (xs ((6 * N) + 1))]) rfl rfl rfl rfl rfl rfl rfl rfl (by omega) ?_
          refine hk _ _ (fun b2 h2 hR2 => ?_)
          show am_wp L xs _ _ _ _ 788 [.ref 1000, .ref 0, .ref 74, .int (nI (6 * N))] [.int v1, .int v1] (am_S b2) h2 _
          refine wp_icmp_t rfl (show v1 = v1 from rfl) ?_
          refine wp_run 2 (pc' := 18) (ls' := [.ref 1000, .ref 0, .ref 74, .int ((nI (6 * N)) + 6)]) (st' := []) rfl ?_
          rw [show (((nI (6 * N)) + 6) : Int32) = (nI ((6 * N) + 6)) from nI_add (6 * N) 6]
          rw [show (nI ((6 * N) + 6)) = nI (6 * (N + 1)) from by congr 1]
          exact ih (N + 1) _ _ hR2 (by omega) (by omega)
        · skip
          refine wp_run 5 (pc' := 798) (ls' := [.ref 1000, .ref 0, .ref 74, .int (nI (6 * N))]) (st' := [.int ((nI (6 * N)) + 1), .ref 1000, .ref 0]) rfl ?_
          rw [show (((nI (6 * N)) + 1) : Int32) = (nI ((6 * N) + 1)) from nI_add (6 * N) 1]
          refine wp_ald0 rfl hL rfl (by omega) ?_
          refine wp_callV (o := 0) (as := [.int (xs ((6 * N) + 1))]) (rest := []) (els := [.ref 0, .int (xs ((6 * N) + 1))]) rfl rfl rfl rfl rfl rfl rfl rfl (by omega) ?_
          refine op_order (N := N) (by omega) hR (by omega) (fun v1 b1 h1 hk => ?_)
          show am_wp L xs _ _ _ _ 802 [.ref 1000, .ref 0, .ref 74, .int (nI (6 * N))] [.int v1] (am_S b1) h1 _
          refine wp_run 5 (pc' := 807) (ls' := [.ref 1000, .ref 0, .ref 74, .int (nI (6 * N))]) (st' := [.int ((nI (6 * N)) + 1), .ref 1000, .ref 74, .int v1]) rfl ?_
          rw [show (((nI (6 * N)) + 1) : Int32) = (nI ((6 * N) + 1)) from nI_add (6 * N) 1]
          refine wp_ald0 rfl hL rfl (by omega) ?_
          refine wp_callV (o := 74) (as := [.int (xs ((6 * N) + 1))]) (rest := [.int v1]) (els := [.ref 74, .int (xs ((6 * N) + 1))]) rfl rfl rfl rfl rfl rfl rfl rfl (by omega) ?_
          refine hk _ _ (fun b2 h2 hR2 => ?_)
          show am_wp L xs _ _ _ _ 811 [.ref 1000, .ref 0, .ref 74, .int (nI (6 * N))] [.int v1, .int v1] (am_S b2) h2 _
          refine wp_icmp_t rfl (show v1 = v1 from rfl) ?_
          refine wp_run 2 (pc' := 18) (ls' := [.ref 1000, .ref 0, .ref 74, .int ((nI (6 * N)) + 6)]) (st' := []) rfl ?_
          rw [show (((nI (6 * N)) + 6) : Int32) = (nI ((6 * N) + 6)) from nI_add (6 * N) 6]
          rw [show (nI ((6 * N) + 6)) = nI (6 * (N + 1)) from by congr 1]
          exact ih (N + 1) _ _ hR2 (by omega) (by omega)
        · skip
          refine wp_run 1 (pc' := 817) (ls' := [.ref 1000, .ref 0, .ref 74, .int (nI (6 * N))]) (st' := [.ref 0]) rfl ?_
          refine wp_callV (o := 0) (as := []) (rest := []) (els := [.ref 0, am_du, am_du]) rfl rfl rfl rfl rfl rfl rfl rfl (by omega) ?_
          refine op_right (N := N) (by omega) hR (by omega) (fun v1 b1 h1 hk => ?_)
          show am_wp L xs _ _ _ _ 820 [.ref 1000, .ref 0, .ref 74, .int (nI (6 * N))] [.int v1] (am_S b1) h1 _
          refine wp_run 1 (pc' := 821) (ls' := [.ref 1000, .ref 0, .ref 74, .int (nI (6 * N))]) (st' := [.ref 74, .int v1]) rfl ?_
          refine wp_callV (o := 74) (as := []) (rest := [.int v1]) (els := [.ref 74, am_du, am_du, am_du]) rfl rfl rfl rfl rfl rfl rfl rfl (by omega) ?_
          refine hk _ _ (fun b2 h2 hR2 => ?_)
          show am_wp L xs _ _ _ _ 824 [.ref 1000, .ref 0, .ref 74, .int (nI (6 * N))] [.int v1, .int v1] (am_S b2) h2 _
          refine wp_icmp_t rfl (show v1 = v1 from rfl) ?_
          refine wp_run 2 (pc' := 18) (ls' := [.ref 1000, .ref 0, .ref 74, .int ((nI (6 * N)) + 6)]) (st' := []) rfl ?_
          rw [show (((nI (6 * N)) + 6) : Int32) = (nI ((6 * N) + 6)) from nI_add (6 * N) 6]
          rw [show (nI ((6 * N) + 6)) = nI (6 * (N + 1)) from by congr 1]
          exact ih (N + 1) _ _ hR2 (by omega) (by omega)
        · skip
          refine wp_run 5 (pc' := 834) (ls' := [.ref 1000, .ref 0, .ref 74, .int (nI (6 * N))]) (st' := [.int ((nI (6 * N)) + 1), .ref 1000, .ref 0]) rfl ?_
          rw [show (((nI (6 * N)) + 1) : Int32) = (nI ((6 * N) + 1)) from nI_add (6 * N) 1]
          refine wp_ald0 rfl hL rfl (by omega) ?_
          refine wp_callV (o := 0) (as := [.int (xs ((6 * N) + 1))]) (rest := []) (els := [.ref 0, .int (xs ((6 * N) + 1)), am_du]) rfl rfl rfl rfl rfl rfl rfl rfl (by omega) ?_
          refine op_left (N := N) (by omega) hR (by omega) (fun v1 b1 h1 hk => ?_)
          show am_wp L xs _ _ _ _ 838 [.ref 1000, .ref 0, .ref 74, .int (nI (6 * N))] [.int v1] (am_S b1) h1 _
          refine wp_run 5 (pc' := 843) (ls' := [.ref 1000, .ref 0, .ref 74, .int (nI (6 * N))]) (st' := [.int ((nI (6 * N)) + 1), .ref 1000, .ref 74, .int v1]) rfl ?_
          rw [show (((nI (6 * N)) + 1) : Int32) = (nI ((6 * N) + 1)) from nI_add (6 * N) 1]
          refine wp_ald0 rfl hL rfl (by omega) ?_
          refine wp_callV (o := 74) (as := [.int (xs ((6 * N) + 1))]) (rest := [.int v1]) (els := [.ref 74, .int (xs ((6 * N) + 1)), am_du, am_du, am_du]) rfl rfl rfl rfl rfl rfl rfl rfl (by omega) ?_
          refine hk _ _ (fun b2 h2 hR2 => ?_)
          show am_wp L xs _ _ _ _ 847 [.ref 1000, .ref 0, .ref 74, .int (nI (6 * N))] [.int v1, .int v1] (am_S b2) h2 _
          refine wp_icmp_t rfl (show v1 = v1 from rfl) ?_
          refine wp_run 2 (pc' := 18) (ls' := [.ref 1000, .ref 0, .ref 74, .int ((nI (6 * N)) + 6)]) (st' := []) rfl ?_
          rw [show (((nI (6 * N)) + 6) : Int32) = (nI ((6 * N) + 6)) from nI_add (6 * N) 6]
          rw [show (nI ((6 * N) + 6)) = nI (6 * (N + 1)) from by congr 1]
          exact ih (N + 1) _ _ hR2 (by omega) (by omega)
        · skip
          refine wp_run 5 (pc' := 857) (ls' := [.ref 1000, .ref 0, .ref 74, .int (nI (6 * N))]) (st' := [.int ((nI (6 * N)) + 1), .ref 1000, .ref 0]) rfl ?_
          rw [show (((nI (6 * N)) + 1) : Int32) = (nI ((6 * N) + 1)) from nI_add (6 * N) 1]
          refine wp_ald0 rfl hL rfl (by omega) ?_
          refine wp_run 4 (pc' := 862) (ls' := [.ref 1000, .ref 0, .ref 74, .int (nI (6 * N))]) (st' := [.int ((nI (6 * N)) + 2), .ref 1000, .int (xs ((6 * N) + 1)), .ref 0]) rfl ?_
          rw [show (((nI (6 * N)) + 2) : Int32) = (nI ((6 * N) + 2)) from nI_add (6 * N) 2]
          refine wp_ald0 rfl hL rfl (by omega) ?_
          refine wp_callV (o := 0) (as := [.int (xs ((6 * N) + 1)), .int (xs ((6 * N) + 2))]) (rest := []) (els := [.ref 0, .int (xs ((6 * N) + 1)), .int (xs ((6 * N) + 2)), am_du, am_du, am_du]) rfl rfl rfl rfl rfl rfl rfl rfl (by omega) ?_
          refine op_odds (N := N) (by omega) hR (by omega) (fun v1 b1 h1 hk => ?_)
          show am_wp L xs _ _ _ _ 866 [.ref 1000, .ref 0, .ref 74, .int (nI (6 * N))] [.int v1] (am_S b1) h1 _
          refine wp_run 5 (pc' := 871) (ls' := [.ref 1000, .ref 0, .ref 74, .int (nI (6 * N))]) (st' := [.int ((nI (6 * N)) + 1), .ref 1000, .ref 74, .int v1]) rfl ?_
          rw [show (((nI (6 * N)) + 1) : Int32) = (nI ((6 * N) + 1)) from nI_add (6 * N) 1]
          refine wp_ald0 rfl hL rfl (by omega) ?_
          refine wp_run 4 (pc' := 876) (ls' := [.ref 1000, .ref 0, .ref 74, .int (nI (6 * N))]) (st' := [.int ((nI (6 * N)) + 2), .ref 1000, .int (xs ((6 * N) + 1)), .ref 74, .int v1]) rfl ?_
          rw [show (((nI (6 * N)) + 2) : Int32) = (nI ((6 * N) + 2)) from nI_add (6 * N) 2]
          refine wp_ald0 rfl hL rfl (by omega) ?_
          refine wp_callV (o := 74) (as := [.int (xs ((6 * N) + 1)), .int (xs ((6 * N) + 2))]) (rest := [.int v1]) (els := [.ref 74, .int (xs ((6 * N) + 1)), .int (xs ((6 * N) + 2)), am_du, am_du, am_du]) rfl rfl rfl rfl rfl rfl rfl rfl (by omega) ?_
          refine hk _ _ (fun b2 h2 hR2 => ?_)
          show am_wp L xs _ _ _ _ 880 [.ref 1000, .ref 0, .ref 74, .int (nI (6 * N))] [.int v1, .int v1] (am_S b2) h2 _
          refine wp_icmp_t rfl (show v1 = v1 from rfl) ?_
          refine wp_run 2 (pc' := 18) (ls' := [.ref 1000, .ref 0, .ref 74, .int ((nI (6 * N)) + 6)]) (st' := []) rfl ?_
          rw [show (((nI (6 * N)) + 6) : Int32) = (nI ((6 * N) + 6)) from nI_add (6 * N) 6]
          rw [show (nI ((6 * N) + 6)) = nI (6 * (N + 1)) from by congr 1]
          exact ih (N + 1) _ _ hR2 (by omega) (by omega)
        · skip
          refine wp_run 5 (pc' := 890) (ls' := [.ref 1000, .ref 0, .ref 74, .int (nI (6 * N))]) (st' := [.int ((nI (6 * N)) + 1), .ref 1000, .ref 0]) rfl ?_
          rw [show (((nI (6 * N)) + 1) : Int32) = (nI ((6 * N) + 1)) from nI_add (6 * N) 1]
          refine wp_ald0 rfl hL rfl (by omega) ?_
          refine wp_run 4 (pc' := 895) (ls' := [.ref 1000, .ref 0, .ref 74, .int (nI (6 * N))]) (st' := [.int ((nI (6 * N)) + 2), .ref 1000, .int (xs ((6 * N) + 1)), .ref 0]) rfl ?_
          rw [show (((nI (6 * N)) + 2) : Int32) = (nI ((6 * N) + 2)) from nI_add (6 * N) 2]
          refine wp_ald0 rfl hL rfl (by omega) ?_
          refine wp_callV (o := 0) (as := [.int (xs ((6 * N) + 1)), .int (xs ((6 * N) + 2))]) (rest := []) (els := [.ref 0, .int (xs ((6 * N) + 1)), .int (xs ((6 * N) + 2)), am_du]) rfl rfl rfl rfl rfl rfl rfl rfl (by omega) ?_
          refine op_fits (N := N) (by omega) hR (by omega) (fun v1 b1 h1 hk => ?_)
          show am_wp L xs _ _ _ _ 899 [.ref 1000, .ref 0, .ref 74, .int (nI (6 * N))] [.int v1] (am_S b1) h1 _
          refine wp_run 5 (pc' := 904) (ls' := [.ref 1000, .ref 0, .ref 74, .int (nI (6 * N))]) (st' := [.int ((nI (6 * N)) + 1), .ref 1000, .ref 74, .int v1]) rfl ?_
          rw [show (((nI (6 * N)) + 1) : Int32) = (nI ((6 * N) + 1)) from nI_add (6 * N) 1]
          refine wp_ald0 rfl hL rfl (by omega) ?_
          refine wp_run 4 (pc' := 909) (ls' := [.ref 1000, .ref 0, .ref 74, .int (nI (6 * N))]) (st' := [.int ((nI (6 * N)) + 2), .ref 1000, .int (xs ((6 * N) + 1)), .ref 74, .int v1]) rfl ?_
          rw [show (((nI (6 * N)) + 2) : Int32) = (nI ((6 * N) + 2)) from nI_add (6 * N) 2]
          refine wp_ald0 rfl hL rfl (by omega) ?_
          refine wp_callV (o := 74) (as := [.int (xs ((6 * N) + 1)), .int (xs ((6 * N) + 2))]) (rest := [.int v1]) (els := [.ref 74, .int (xs ((6 * N) + 1)), .int (xs ((6 * N) + 2)), am_du, am_du, am_du, am_du]) rfl rfl rfl rfl rfl rfl rfl rfl (by omega) ?_
          refine hk _ _ (fun b2 h2 hR2 => ?_)
          show am_wp L xs _ _ _ _ 913 [.ref 1000, .ref 0, .ref 74, .int (nI (6 * N))] [.int v1, .int v1] (am_S b2) h2 _
          refine wp_icmp_t rfl (show v1 = v1 from rfl) ?_
          refine wp_run 2 (pc' := 18) (ls' := [.ref 1000, .ref 0, .ref 74, .int ((nI (6 * N)) + 6)]) (st' := []) rfl ?_
          rw [show (((nI (6 * N)) + 6) : Int32) = (nI ((6 * N) + 6)) from nI_add (6 * N) 6]
          rw [show (nI ((6 * N) + 6)) = nI (6 * (N + 1)) from by congr 1]
          exact ih (N + 1) _ _ hR2 (by omega) (by omega)
        · skip
          refine wp_run 5 (pc' := 923) (ls' := [.ref 1000, .ref 0, .ref 74, .int (nI (6 * N))]) (st' := [.int ((nI (6 * N)) + 1), .ref 1000, .ref 0]) rfl ?_
          rw [show (((nI (6 * N)) + 1) : Int32) = (nI ((6 * N) + 1)) from nI_add (6 * N) 1]
          refine wp_ald0 rfl hL rfl (by omega) ?_
          refine wp_run 4 (pc' := 928) (ls' := [.ref 1000, .ref 0, .ref 74, .int (nI (6 * N))]) (st' := [.int ((nI (6 * N)) + 2), .ref 1000, .int (xs ((6 * N) + 1)), .ref 0]) rfl ?_
          rw [show (((nI (6 * N)) + 2) : Int32) = (nI ((6 * N) + 2)) from nI_add (6 * N) 2]
          refine wp_ald0 rfl hL rfl (by omega) ?_
          refine wp_run 4 (pc' := 933) (ls' := [.ref 1000, .ref 0, .ref 74, .int (nI (6 * N))]) (st' := [.int ((nI (6 * N)) + 3), .ref 1000, .int (xs ((6 * N) + 2)), .int (xs ((6 * N) + 1)), .ref 0]) rfl ?_
          rw [show (((nI (6 * N)) + 3) : Int32) = (nI ((6 * N) + 3)) from nI_add (6 * N) 3]
          refine wp_ald0 rfl hL rfl (by omega) ?_
          refine wp_callV (o := 0) (as := [.int (xs ((6 * N) + 1)), .int (xs ((6 * N) + 2)), .int (xs ((6 * N) + 3))]) (rest := []) (els := [.ref 0, .int (xs ((6 * N) + 1)), .int (xs ((6 * N) + 2)), .int (xs ((6 * N) + 3)), am_du]) rfl rfl rfl rfl rfl rfl rfl rfl (by omega) ?_
          refine op_voice (N := N) (by omega) hR (by omega) (fun v1 b1 h1 hk => ?_)
          show am_wp L xs _ _ _ _ 937 [.ref 1000, .ref 0, .ref 74, .int (nI (6 * N))] [.int v1] (am_S b1) h1 _
          refine wp_run 5 (pc' := 942) (ls' := [.ref 1000, .ref 0, .ref 74, .int (nI (6 * N))]) (st' := [.int ((nI (6 * N)) + 1), .ref 1000, .ref 74, .int v1]) rfl ?_
          rw [show (((nI (6 * N)) + 1) : Int32) = (nI ((6 * N) + 1)) from nI_add (6 * N) 1]
          refine wp_ald0 rfl hL rfl (by omega) ?_
          refine wp_run 4 (pc' := 947) (ls' := [.ref 1000, .ref 0, .ref 74, .int (nI (6 * N))]) (st' := [.int ((nI (6 * N)) + 2), .ref 1000, .int (xs ((6 * N) + 1)), .ref 74, .int v1]) rfl ?_
          rw [show (((nI (6 * N)) + 2) : Int32) = (nI ((6 * N) + 2)) from nI_add (6 * N) 2]
          refine wp_ald0 rfl hL rfl (by omega) ?_
          refine wp_run 4 (pc' := 952) (ls' := [.ref 1000, .ref 0, .ref 74, .int (nI (6 * N))]) (st' := [.int ((nI (6 * N)) + 3), .ref 1000, .int (xs ((6 * N) + 2)), .int (xs ((6 * N) + 1)), .ref 74, .int v1]) rfl ?_
          rw [show (((nI (6 * N)) + 3) : Int32) = (nI ((6 * N) + 3)) from nI_add (6 * N) 3]
          refine wp_ald0 rfl hL rfl (by omega) ?_
          refine wp_callV (o := 74) (as := [.int (xs ((6 * N) + 1)), .int (xs ((6 * N) + 2)), .int (xs ((6 * N) + 3))]) (rest := [.int v1]) (els := [.ref 74, .int (xs ((6 * N) + 1)), .int (xs ((6 * N) + 2)), .int (xs ((6 * N) + 3)), am_du]) rfl rfl rfl rfl rfl rfl rfl rfl (by omega) ?_
          refine hk _ _ (fun b2 h2 hR2 => ?_)
          show am_wp L xs _ _ _ _ 956 [.ref 1000, .ref 0, .ref 74, .int (nI (6 * N))] [.int v1, .int v1] (am_S b2) h2 _
          refine wp_icmp_t rfl (show v1 = v1 from rfl) ?_
          refine wp_run 2 (pc' := 18) (ls' := [.ref 1000, .ref 0, .ref 74, .int ((nI (6 * N)) + 6)]) (st' := []) rfl ?_
          rw [show (((nI (6 * N)) + 6) : Int32) = (nI ((6 * N) + 6)) from nI_add (6 * N) 6]
          rw [show (nI ((6 * N) + 6)) = nI (6 * (N + 1)) from by congr 1]
          exact ih (N + 1) _ _ hR2 (by omega) (by omega)
        · skip
          refine wp_run 5 (pc' := 966) (ls' := [.ref 1000, .ref 0, .ref 74, .int (nI (6 * N))]) (st' := [.int ((nI (6 * N)) + 1), .ref 1000, .ref 0]) rfl ?_
          rw [show (((nI (6 * N)) + 1) : Int32) = (nI ((6 * N) + 1)) from nI_add (6 * N) 1]
          refine wp_ald0 rfl hL rfl (by omega) ?_
          refine wp_callV (o := 0) (as := [.int (xs ((6 * N) + 1))]) (rest := []) (els := [.ref 0, .int (xs ((6 * N) + 1))]) rfl rfl rfl rfl rfl rfl rfl rfl (by omega) ?_
          refine op_body (N := N) (by omega) hR (by omega) (fun v1 b1 h1 hk => ?_)
          show am_wp L xs _ _ _ _ 970 [.ref 1000, .ref 0, .ref 74, .int (nI (6 * N))] [.int v1] (am_S b1) h1 _
          refine wp_run 5 (pc' := 975) (ls' := [.ref 1000, .ref 0, .ref 74, .int (nI (6 * N))]) (st' := [.int ((nI (6 * N)) + 1), .ref 1000, .ref 74, .int v1]) rfl ?_
          rw [show (((nI (6 * N)) + 1) : Int32) = (nI ((6 * N) + 1)) from nI_add (6 * N) 1]
          refine wp_ald0 rfl hL rfl (by omega) ?_
          refine wp_callV (o := 74) (as := [.int (xs ((6 * N) + 1))]) (rest := [.int v1]) (els := [.ref 74, .int (xs ((6 * N) + 1))]) rfl rfl rfl rfl rfl rfl rfl rfl (by omega) ?_
          refine hk _ _ (fun b2 h2 hR2 => ?_)
          show am_wp L xs _ _ _ _ 979 [.ref 1000, .ref 0, .ref 74, .int (nI (6 * N))] [.int v1, .int v1] (am_S b2) h2 _
          refine wp_icmp_t rfl (show v1 = v1 from rfl) ?_
          refine wp_run 2 (pc' := 18) (ls' := [.ref 1000, .ref 0, .ref 74, .int ((nI (6 * N)) + 6)]) (st' := []) rfl ?_
          rw [show (((nI (6 * N)) + 6) : Int32) = (nI ((6 * N) + 6)) from nI_add (6 * N) 6]
          rw [show (nI ((6 * N) + 6)) = nI (6 * (N + 1)) from by congr 1]
          exact ih (N + 1) _ _ hR2 (by omega) (by omega)
        · skip
          refine wp_run 5 (pc' := 989) (ls' := [.ref 1000, .ref 0, .ref 74, .int (nI (6 * N))]) (st' := [.int ((nI (6 * N)) + 1), .ref 1000, .ref 0]) rfl ?_
          rw [show (((nI (6 * N)) + 1) : Int32) = (nI ((6 * N) + 1)) from nI_add (6 * N) 1]
          refine wp_ald0 rfl hL rfl (by omega) ?_
          refine wp_run 4 (pc' := 994) (ls' := [.ref 1000, .ref 0, .ref 74, .int (nI (6 * N))]) (st' := [.int ((nI (6 * N)) + 2), .ref 1000, .int (xs ((6 * N) + 1)), .ref 0]) rfl ?_
          rw [show (((nI (6 * N)) + 2) : Int32) = (nI ((6 * N) + 2)) from nI_add (6 * N) 2]
          refine wp_ald0 rfl hL rfl (by omega) ?_
          refine wp_run 4 (pc' := 999) (ls' := [.ref 1000, .ref 0, .ref 74, .int (nI (6 * N))]) (st' := [.int ((nI (6 * N)) + 3), .ref 1000, .int (xs ((6 * N) + 2)), .int (xs ((6 * N) + 1)), .ref 0]) rfl ?_
          rw [show (((nI (6 * N)) + 3) : Int32) = (nI ((6 * N) + 3)) from nI_add (6 * N) 3]
          refine wp_ald0 rfl hL rfl (by omega) ?_
          refine wp_callV (o := 0) (as := [.int (xs ((6 * N) + 1)), .int (xs ((6 * N) + 2)), .int (xs ((6 * N) + 3))]) (rest := []) (els := [.ref 0, .int (xs ((6 * N) + 1)), .int (xs ((6 * N) + 2)), .int (xs ((6 * N) + 3)), am_du]) rfl rfl rfl rfl rfl rfl rfl rfl (by omega) ?_
          refine op_sheet (N := N) (by omega) hR (by omega) (fun v1 b1 h1 hk => ?_)
          show am_wp L xs _ _ _ _ 1003 [.ref 1000, .ref 0, .ref 74, .int (nI (6 * N))] [.int v1] (am_S b1) h1 _
          refine wp_run 5 (pc' := 1008) (ls' := [.ref 1000, .ref 0, .ref 74, .int (nI (6 * N))]) (st' := [.int ((nI (6 * N)) + 1), .ref 1000, .ref 74, .int v1]) rfl ?_
          rw [show (((nI (6 * N)) + 1) : Int32) = (nI ((6 * N) + 1)) from nI_add (6 * N) 1]
          refine wp_ald0 rfl hL rfl (by omega) ?_
          refine wp_run 4 (pc' := 1013) (ls' := [.ref 1000, .ref 0, .ref 74, .int (nI (6 * N))]) (st' := [.int ((nI (6 * N)) + 2), .ref 1000, .int (xs ((6 * N) + 1)), .ref 74, .int v1]) rfl ?_
          rw [show (((nI (6 * N)) + 2) : Int32) = (nI ((6 * N) + 2)) from nI_add (6 * N) 2]
          refine wp_ald0 rfl hL rfl (by omega) ?_
          refine wp_run 4 (pc' := 1018) (ls' := [.ref 1000, .ref 0, .ref 74, .int (nI (6 * N))]) (st' := [.int ((nI (6 * N)) + 3), .ref 1000, .int (xs ((6 * N) + 2)), .int (xs ((6 * N) + 1)), .ref 74, .int v1]) rfl ?_
          rw [show (((nI (6 * N)) + 3) : Int32) = (nI ((6 * N) + 3)) from nI_add (6 * N) 3]
          refine wp_ald0 rfl hL rfl (by omega) ?_
          refine wp_callV (o := 74) (as := [.int (xs ((6 * N) + 1)), .int (xs ((6 * N) + 2)), .int (xs ((6 * N) + 3))]) (rest := [.int v1]) (els := [.ref 74, .int (xs ((6 * N) + 1)), .int (xs ((6 * N) + 2)), .int (xs ((6 * N) + 3)), am_du]) rfl rfl rfl rfl rfl rfl rfl rfl (by omega) ?_
          refine hk _ _ (fun b2 h2 hR2 => ?_)
          show am_wp L xs _ _ _ _ 1022 [.ref 1000, .ref 0, .ref 74, .int (nI (6 * N))] [.int v1, .int v1] (am_S b2) h2 _
          refine wp_icmp_t rfl (show v1 = v1 from rfl) ?_
          refine wp_run 2 (pc' := 18) (ls' := [.ref 1000, .ref 0, .ref 74, .int ((nI (6 * N)) + 6)]) (st' := []) rfl ?_
          rw [show (((nI (6 * N)) + 6) : Int32) = (nI ((6 * N) + 6)) from nI_add (6 * N) 6]
          rw [show (nI ((6 * N) + 6)) = nI (6 * (N + 1)) from by congr 1]
          exact ih (N + 1) _ _ hR2 (by omega) (by omega)
        · skip
          refine wp_run 5 (pc' := 1032) (ls' := [.ref 1000, .ref 0, .ref 74, .int (nI (6 * N))]) (st' := [.int ((nI (6 * N)) + 1), .ref 1000, .ref 0]) rfl ?_
          rw [show (((nI (6 * N)) + 1) : Int32) = (nI ((6 * N) + 1)) from nI_add (6 * N) 1]
          refine wp_ald0 rfl hL rfl (by omega) ?_
          refine wp_run 4 (pc' := 1037) (ls' := [.ref 1000, .ref 0, .ref 74, .int (nI (6 * N))]) (st' := [.int ((nI (6 * N)) + 2), .ref 1000, .int (xs ((6 * N) + 1)), .ref 0]) rfl ?_
          rw [show (((nI (6 * N)) + 2) : Int32) = (nI ((6 * N) + 2)) from nI_add (6 * N) 2]
          refine wp_ald0 rfl hL rfl (by omega) ?_
          refine wp_run 4 (pc' := 1042) (ls' := [.ref 1000, .ref 0, .ref 74, .int (nI (6 * N))]) (st' := [.int ((nI (6 * N)) + 3), .ref 1000, .int (xs ((6 * N) + 2)), .int (xs ((6 * N) + 1)), .ref 0]) rfl ?_
          rw [show (((nI (6 * N)) + 3) : Int32) = (nI ((6 * N) + 3)) from nI_add (6 * N) 3]
          refine wp_ald0 rfl hL rfl (by omega) ?_
          refine wp_callV (o := 0) (as := [.int (xs ((6 * N) + 1)), .int (xs ((6 * N) + 2)), .int (xs ((6 * N) + 3))]) (rest := []) (els := [.ref 0, .int (xs ((6 * N) + 1)), .int (xs ((6 * N) + 2)), .int (xs ((6 * N) + 3))]) rfl rfl rfl rfl rfl rfl rfl rfl (by omega) ?_
          refine op_put (N := N) (by omega) hR (by omega) (fun v1 b1 h1 hk => ?_)
          show am_wp L xs _ _ _ _ 1046 [.ref 1000, .ref 0, .ref 74, .int (nI (6 * N))] [.int v1] (am_S b1) h1 _
          refine wp_run 5 (pc' := 1051) (ls' := [.ref 1000, .ref 0, .ref 74, .int (nI (6 * N))]) (st' := [.int ((nI (6 * N)) + 1), .ref 1000, .ref 74, .int v1]) rfl ?_
          rw [show (((nI (6 * N)) + 1) : Int32) = (nI ((6 * N) + 1)) from nI_add (6 * N) 1]
          refine wp_ald0 rfl hL rfl (by omega) ?_
          refine wp_run 4 (pc' := 1056) (ls' := [.ref 1000, .ref 0, .ref 74, .int (nI (6 * N))]) (st' := [.int ((nI (6 * N)) + 2), .ref 1000, .int (xs ((6 * N) + 1)), .ref 74, .int v1]) rfl ?_
          rw [show (((nI (6 * N)) + 2) : Int32) = (nI ((6 * N) + 2)) from nI_add (6 * N) 2]
          refine wp_ald0 rfl hL rfl (by omega) ?_
          refine wp_run 4 (pc' := 1061) (ls' := [.ref 1000, .ref 0, .ref 74, .int (nI (6 * N))]) (st' := [.int ((nI (6 * N)) + 3), .ref 1000, .int (xs ((6 * N) + 2)), .int (xs ((6 * N) + 1)), .ref 74, .int v1]) rfl ?_
          rw [show (((nI (6 * N)) + 3) : Int32) = (nI ((6 * N) + 3)) from nI_add (6 * N) 3]
          refine wp_ald0 rfl hL rfl (by omega) ?_
          refine wp_callV (o := 74) (as := [.int (xs ((6 * N) + 1)), .int (xs ((6 * N) + 2)), .int (xs ((6 * N) + 3))]) (rest := [.int v1]) (els := [.ref 74, .int (xs ((6 * N) + 1)), .int (xs ((6 * N) + 2)), .int (xs ((6 * N) + 3)), am_du]) rfl rfl rfl rfl rfl rfl rfl rfl (by omega) ?_
          refine hk _ _ (fun b2 h2 hR2 => ?_)
          show am_wp L xs _ _ _ _ 1065 [.ref 1000, .ref 0, .ref 74, .int (nI (6 * N))] [.int v1, .int v1] (am_S b2) h2 _
          refine wp_icmp_t rfl (show v1 = v1 from rfl) ?_
          refine wp_run 2 (pc' := 18) (ls' := [.ref 1000, .ref 0, .ref 74, .int ((nI (6 * N)) + 6)]) (st' := []) rfl ?_
          rw [show (((nI (6 * N)) + 6) : Int32) = (nI ((6 * N) + 6)) from nI_add (6 * N) 6]
          rw [show (nI ((6 * N) + 6)) = nI (6 * (N + 1)) from by congr 1]
          exact ih (N + 1) _ _ hR2 (by omega) (by omega)
        · skip
          refine wp_run 5 (pc' := 1075) (ls' := [.ref 1000, .ref 0, .ref 74, .int (nI (6 * N))]) (st' := [.int ((nI (6 * N)) + 1), .ref 1000, .ref 0]) rfl ?_
          rw [show (((nI (6 * N)) + 1) : Int32) = (nI ((6 * N) + 1)) from nI_add (6 * N) 1]
          refine wp_ald0 rfl hL rfl (by omega) ?_
          refine wp_run 4 (pc' := 1080) (ls' := [.ref 1000, .ref 0, .ref 74, .int (nI (6 * N))]) (st' := [.int ((nI (6 * N)) + 2), .ref 1000, .int (xs ((6 * N) + 1)), .ref 0]) rfl ?_
          rw [show (((nI (6 * N)) + 2) : Int32) = (nI ((6 * N) + 2)) from nI_add (6 * N) 2]
          refine wp_ald0 rfl hL rfl (by omega) ?_
          refine wp_run 4 (pc' := 1085) (ls' := [.ref 1000, .ref 0, .ref 74, .int (nI (6 * N))]) (st' := [.int ((nI (6 * N)) + 3), .ref 1000, .int (xs ((6 * N) + 2)), .int (xs ((6 * N) + 1)), .ref 0]) rfl ?_
          rw [show (((nI (6 * N)) + 3) : Int32) = (nI ((6 * N) + 3)) from nI_add (6 * N) 3]
          refine wp_ald0 rfl hL rfl (by omega) ?_
          refine wp_run 4 (pc' := 1090) (ls' := [.ref 1000, .ref 0, .ref 74, .int (nI (6 * N))]) (st' := [.int ((nI (6 * N)) + 4), .ref 1000, .int (xs ((6 * N) + 3)), .int (xs ((6 * N) + 2)), .int (xs ((6 * N) + 1)), .ref 0]) rfl ?_
          rw [show (((nI (6 * N)) + 4) : Int32) = (nI ((6 * N) + 4)) from nI_add (6 * N) 4]
          refine wp_ald0 rfl hL rfl (by omega) ?_
          refine wp_run 4 (pc' := 1095) (ls' := [.ref 1000, .ref 0, .ref 74, .int (nI (6 * N))]) (st' := [.int ((nI (6 * N)) + 5), .ref 1000, .int (xs ((6 * N) + 4)), .int (xs ((6 * N) + 3)), .int (xs ((6 * N) + 2)), .int (xs ((6 * N) + 1)), .ref 0]) rfl ?_
          rw [show (((nI (6 * N)) + 5) : Int32) = (nI ((6 * N) + 5)) from nI_add (6 * N) 5]
          refine wp_ald0 rfl hL rfl (by omega) ?_
          refine wp_callV (o := 0) (as := [.int (xs ((6 * N) + 1)), .int (xs ((6 * N) + 2)), .int (xs ((6 * N) + 3)), .int (xs ((6 * N) + 4)), .int (xs ((6 * N) + 5))]) (rest := []) (els := [.ref 0, .int (xs ((6 * N) + 1)), .int (xs ((6 * N) + 2)), .int (xs ((6 * N) + 3)), .int (xs ((6 * N) + 4)), .int (xs ((6 * N) + 5)), am_du, am_du]) rfl rfl rfl rfl rfl rfl rfl rfl (by omega) ?_
          refine op_move (N := N) (by omega) hR (by omega) (fun v1 b1 h1 hk => ?_)
          show am_wp L xs _ _ _ _ 1099 [.ref 1000, .ref 0, .ref 74, .int (nI (6 * N))] [.int v1] (am_S b1) h1 _
          refine wp_run 5 (pc' := 1104) (ls' := [.ref 1000, .ref 0, .ref 74, .int (nI (6 * N))]) (st' := [.int ((nI (6 * N)) + 1), .ref 1000, .ref 74, .int v1]) rfl ?_
          rw [show (((nI (6 * N)) + 1) : Int32) = (nI ((6 * N) + 1)) from nI_add (6 * N) 1]
          refine wp_ald0 rfl hL rfl (by omega) ?_
          refine wp_run 4 (pc' := 1109) (ls' := [.ref 1000, .ref 0, .ref 74, .int (nI (6 * N))]) (st' := [.int ((nI (6 * N)) + 2), .ref 1000, .int (xs ((6 * N) + 1)), .ref 74, .int v1]) rfl ?_
          rw [show (((nI (6 * N)) + 2) : Int32) = (nI ((6 * N) + 2)) from nI_add (6 * N) 2]
          refine wp_ald0 rfl hL rfl (by omega) ?_
          refine wp_run 4 (pc' := 1114) (ls' := [.ref 1000, .ref 0, .ref 74, .int (nI (6 * N))]) (st' := [.int ((nI (6 * N)) + 3), .ref 1000, .int (xs ((6 * N) + 2)), .int (xs ((6 * N) + 1)), .ref 74, .int v1]) rfl ?_
          rw [show (((nI (6 * N)) + 3) : Int32) = (nI ((6 * N) + 3)) from nI_add (6 * N) 3]
          refine wp_ald0 rfl hL rfl (by omega) ?_
          refine wp_run 4 (pc' := 1119) (ls' := [.ref 1000, .ref 0, .ref 74, .int (nI (6 * N))]) (st' := [.int ((nI (6 * N)) + 4), .ref 1000, .int (xs ((6 * N) + 3)), .int (xs ((6 * N) + 2)), .int (xs ((6 * N) + 1)), .ref 74, .int v1]) rfl ?_
          rw [show (((nI (6 * N)) + 4) : Int32) = (nI ((6 * N) + 4)) from nI_add (6 * N) 4]
          refine wp_ald0 rfl hL rfl (by omega) ?_
          refine wp_run 4 (pc' := 1124) (ls' := [.ref 1000, .ref 0, .ref 74, .int (nI (6 * N))]) (st' := [.int ((nI (6 * N)) + 5), .ref 1000, .int (xs ((6 * N) + 4)), .int (xs ((6 * N) + 3)), .int (xs ((6 * N) + 2)), .int (xs ((6 * N) + 1)), .ref 74, .int v1]) rfl ?_
          rw [show (((nI (6 * N)) + 5) : Int32) = (nI ((6 * N) + 5)) from nI_add (6 * N) 5]
          refine wp_ald0 rfl hL rfl (by omega) ?_
          refine wp_callV (o := 74) (as := [.int (xs ((6 * N) + 1)), .int (xs ((6 * N) + 2)), .int (xs ((6 * N) + 3)), .int (xs ((6 * N) + 4)), .int (xs ((6 * N) + 5))]) (rest := [.int v1]) (els := [.ref 74, .int (xs ((6 * N) + 1)), .int (xs ((6 * N) + 2)), .int (xs ((6 * N) + 3)), .int (xs ((6 * N) + 4)), .int (xs ((6 * N) + 5)), am_du, am_du, am_du]) rfl rfl rfl rfl rfl rfl rfl rfl (by omega) ?_
          refine hk _ _ (fun b2 h2 hR2 => ?_)
          show am_wp L xs _ _ _ _ 1128 [.ref 1000, .ref 0, .ref 74, .int (nI (6 * N))] [.int v1, .int v1] (am_S b2) h2 _
          refine wp_icmp_t rfl (show v1 = v1 from rfl) ?_
          refine wp_run 2 (pc' := 18) (ls' := [.ref 1000, .ref 0, .ref 74, .int ((nI (6 * N)) + 6)]) (st' := []) rfl ?_
          rw [show (((nI (6 * N)) + 6) : Int32) = (nI ((6 * N) + 6)) from nI_add (6 * N) 6]
          rw [show (nI ((6 * N) + 6)) = nI (6 * (N + 1)) from by congr 1]
          exact ih (N + 1) _ _ hR2 (by omega) (by omega)
        · skip
          refine wp_run 5 (pc' := 1138) (ls' := [.ref 1000, .ref 0, .ref 74, .int (nI (6 * N))]) (st' := [.int ((nI (6 * N)) + 1), .ref 1000, .ref 0]) rfl ?_
          rw [show (((nI (6 * N)) + 1) : Int32) = (nI ((6 * N) + 1)) from nI_add (6 * N) 1]
          refine wp_ald0 rfl hL rfl (by omega) ?_
          refine wp_callV (o := 0) (as := [.int (xs ((6 * N) + 1))]) (rest := []) (els := [.ref 0, .int (xs ((6 * N) + 1))]) rfl rfl rfl rfl rfl rfl rfl rfl (by omega) ?_
          refine op_wearsAll (N := N) (by omega) hR (by omega) (fun v1 b1 h1 hk => ?_)
          show am_wp L xs _ _ _ _ 1142 [.ref 1000, .ref 0, .ref 74, .int (nI (6 * N))] [.int v1] (am_S b1) h1 _
          refine wp_run 5 (pc' := 1147) (ls' := [.ref 1000, .ref 0, .ref 74, .int (nI (6 * N))]) (st' := [.int ((nI (6 * N)) + 1), .ref 1000, .ref 74, .int v1]) rfl ?_
          rw [show (((nI (6 * N)) + 1) : Int32) = (nI ((6 * N) + 1)) from nI_add (6 * N) 1]
          refine wp_ald0 rfl hL rfl (by omega) ?_
          refine wp_callV (o := 74) (as := [.int (xs ((6 * N) + 1))]) (rest := [.int v1]) (els := [.ref 74, .int (xs ((6 * N) + 1)), am_du, am_du, am_du, am_du]) rfl rfl rfl rfl rfl rfl rfl rfl (by omega) ?_
          refine hk _ _ (fun b2 h2 hR2 => ?_)
          show am_wp L xs _ _ _ _ 1151 [.ref 1000, .ref 0, .ref 74, .int (nI (6 * N))] [.int v1, .int v1] (am_S b2) h2 _
          refine wp_icmp_t rfl (show v1 = v1 from rfl) ?_
          refine wp_run 2 (pc' := 18) (ls' := [.ref 1000, .ref 0, .ref 74, .int ((nI (6 * N)) + 6)]) (st' := []) rfl ?_
          rw [show (((nI (6 * N)) + 6) : Int32) = (nI ((6 * N) + 6)) from nI_add (6 * N) 6]
          rw [show (nI ((6 * N) + 6)) = nI (6 * (N + 1)) from by congr 1]
          exact ih (N + 1) _ _ hR2 (by omega) (by omega)
        · skip
          refine wp_run 5 (pc' := 1161) (ls' := [.ref 1000, .ref 0, .ref 74, .int (nI (6 * N))]) (st' := [.int ((nI (6 * N)) + 1), .ref 1000, .ref 0]) rfl ?_
          rw [show (((nI (6 * N)) + 1) : Int32) = (nI ((6 * N) + 1)) from nI_add (6 * N) 1]
          refine wp_ald0 rfl hL rfl (by omega) ?_
          refine wp_callV (o := 0) (as := [.int (xs ((6 * N) + 1))]) (rest := []) (els := [.ref 0, .int (xs ((6 * N) + 1))]) rfl rfl rfl rfl rfl rfl rfl rfl (by omega) ?_
          refine op_judge (N := N) (by omega) hR (by omega) (fun v1 b1 h1 hk => ?_)
          show am_wp L xs _ _ _ _ 1165 [.ref 1000, .ref 0, .ref 74, .int (nI (6 * N))] [.int v1] (am_S b1) h1 _
          refine wp_run 5 (pc' := 1170) (ls' := [.ref 1000, .ref 0, .ref 74, .int (nI (6 * N))]) (st' := [.int ((nI (6 * N)) + 1), .ref 1000, .ref 74, .int v1]) rfl ?_
          rw [show (((nI (6 * N)) + 1) : Int32) = (nI ((6 * N) + 1)) from nI_add (6 * N) 1]
          refine wp_ald0 rfl hL rfl (by omega) ?_
          refine wp_callV (o := 74) (as := [.int (xs ((6 * N) + 1))]) (rest := [.int v1]) (els := [.ref 74, .int (xs ((6 * N) + 1)), am_du, am_du]) rfl rfl rfl rfl rfl rfl rfl rfl (by omega) ?_
          refine hk _ _ (fun b2 h2 hR2 => ?_)
          show am_wp L xs _ _ _ _ 1174 [.ref 1000, .ref 0, .ref 74, .int (nI (6 * N))] [.int v1, .int v1] (am_S b2) h2 _
          refine wp_icmp_t rfl (show v1 = v1 from rfl) ?_
          refine wp_run 2 (pc' := 18) (ls' := [.ref 1000, .ref 0, .ref 74, .int ((nI (6 * N)) + 6)]) (st' := []) rfl ?_
          rw [show (((nI (6 * N)) + 6) : Int32) = (nI ((6 * N) + 6)) from nI_add (6 * N) 6]
          rw [show (nI ((6 * N) + 6)) = nI (6 * (N + 1)) from by congr 1]
          exact ih (N + 1) _ _ hR2 (by omega) (by omega)
        · skip
          refine wp_run 1 (pc' := 1180) (ls' := [.ref 1000, .ref 0, .ref 74, .int (nI (6 * N))]) (st' := [.ref 0]) rfl ?_
          refine wp_callV (o := 0) (as := []) (rest := []) (els := [.ref 0]) rfl rfl rfl rfl rfl rfl rfl rfl (by omega) ?_
          refine op_image (N := N) (by omega) hR (by omega) (fun v1 b1 h1 hk => ?_)
          show am_wp L xs _ _ _ _ 1183 [.ref 1000, .ref 0, .ref 74, .int (nI (6 * N))] [.int v1] (am_S b1) h1 _
          refine wp_run 1 (pc' := 1184) (ls' := [.ref 1000, .ref 0, .ref 74, .int (nI (6 * N))]) (st' := [.ref 74, .int v1]) rfl ?_
          refine wp_callV (o := 74) (as := []) (rest := [.int v1]) (els := [.ref 74]) rfl rfl rfl rfl rfl rfl rfl rfl (by omega) ?_
          refine hk _ _ (fun b2 h2 hR2 => ?_)
          show am_wp L xs _ _ _ _ 1187 [.ref 1000, .ref 0, .ref 74, .int (nI (6 * N))] [.int v1, .int v1] (am_S b2) h2 _
          refine wp_icmp_t rfl (show v1 = v1 from rfl) ?_
          refine wp_run 2 (pc' := 18) (ls' := [.ref 1000, .ref 0, .ref 74, .int ((nI (6 * N)) + 6)]) (st' := []) rfl ?_
          rw [show (((nI (6 * N)) + 6) : Int32) = (nI ((6 * N) + 6)) from nI_add (6 * N) 6]
          rw [show (nI ((6 * N) + 6)) = nI (6 * (N + 1)) from by congr 1]
          exact ih (N + 1) _ _ hR2 (by omega) (by omega)
        · skip
          refine wp_run 1 (pc' := 1193) (ls' := [.ref 1000, .ref 0, .ref 74, .int (nI (6 * N))]) (st' := [.ref 0]) rfl ?_
          refine wp_callV (o := 0) (as := []) (rest := []) (els := [.ref 0]) rfl rfl rfl rfl rfl rfl rfl rfl (by omega) ?_
          refine op_restore (N := N) (by omega) hR (by omega) (fun v1 b1 h1 hk => ?_)
          show am_wp L xs _ _ _ _ 1196 [.ref 1000, .ref 0, .ref 74, .int (nI (6 * N))] [.int v1] (am_S b1) h1 _
          refine wp_run 1 (pc' := 1197) (ls' := [.ref 1000, .ref 0, .ref 74, .int (nI (6 * N))]) (st' := [.ref 74, .int v1]) rfl ?_
          refine wp_callV (o := 74) (as := []) (rest := [.int v1]) (els := [.ref 74]) rfl rfl rfl rfl rfl rfl rfl rfl (by omega) ?_
          refine hk _ _ (fun b2 h2 hR2 => ?_)
          show am_wp L xs _ _ _ _ 1200 [.ref 1000, .ref 0, .ref 74, .int (nI (6 * N))] [.int v1, .int v1] (am_S b2) h2 _
          refine wp_icmp_t rfl (show v1 = v1 from rfl) ?_
          refine wp_run 2 (pc' := 18) (ls' := [.ref 1000, .ref 0, .ref 74, .int ((nI (6 * N)) + 6)]) (st' := []) rfl ?_
          rw [show (((nI (6 * N)) + 6) : Int32) = (nI ((6 * N) + 6)) from nI_add (6 * N) 6]
          rw [show (nI ((6 * N) + 6)) = nI (6 * (N + 1)) from by congr 1]
          exact ih (N + 1) _ _ hR2 (by omega) (by omega)
        · skip
          refine wp_run 5 (pc' := 1210) (ls' := [.ref 1000, .ref 0, .ref 74, .int (nI (6 * N))]) (st' := [.int ((nI (6 * N)) + 1), .ref 1000, .ref 0]) rfl ?_
          rw [show (((nI (6 * N)) + 1) : Int32) = (nI ((6 * N) + 1)) from nI_add (6 * N) 1]
          refine wp_ald0 rfl hL rfl (by omega) ?_
          refine wp_callV (o := 0) (as := [.int (xs ((6 * N) + 1))]) (rest := []) (els := [.ref 0, .int (xs ((6 * N) + 1))]) rfl rfl rfl rfl rfl rfl rfl rfl (by omega) ?_
          refine op_tell (N := N) (by omega) hR (by omega) (fun v1 b1 h1 hk => ?_)
          show am_wp L xs _ _ _ _ 1214 [.ref 1000, .ref 0, .ref 74, .int (nI (6 * N))] [.int v1] (am_S b1) h1 _
          refine wp_run 5 (pc' := 1219) (ls' := [.ref 1000, .ref 0, .ref 74, .int (nI (6 * N))]) (st' := [.int ((nI (6 * N)) + 1), .ref 1000, .ref 74, .int v1]) rfl ?_
          rw [show (((nI (6 * N)) + 1) : Int32) = (nI ((6 * N) + 1)) from nI_add (6 * N) 1]
          refine wp_ald0 rfl hL rfl (by omega) ?_
          refine wp_callV (o := 74) (as := [.int (xs ((6 * N) + 1))]) (rest := [.int v1]) (els := [.ref 74, .int (xs ((6 * N) + 1))]) rfl rfl rfl rfl rfl rfl rfl rfl (by omega) ?_
          refine hk _ _ (fun b2 h2 hR2 => ?_)
          show am_wp L xs _ _ _ _ 1223 [.ref 1000, .ref 0, .ref 74, .int (nI (6 * N))] [.int v1, .int v1] (am_S b2) h2 _
          refine wp_icmp_t rfl (show v1 = v1 from rfl) ?_
          refine wp_run 2 (pc' := 18) (ls' := [.ref 1000, .ref 0, .ref 74, .int ((nI (6 * N)) + 6)]) (st' := []) rfl ?_
          rw [show (((nI (6 * N)) + 6) : Int32) = (nI ((6 * N) + 6)) from nI_add (6 * N) 6]
          rw [show (nI ((6 * N) + 6)) = nI (6 * (N + 1)) from by congr 1]
          exact ih (N + 1) _ _ hR2 (by omega) (by omega)
        · skip
          refine wp_run 1 (pc' := 1229) (ls' := [.ref 1000, .ref 0, .ref 74, .int (nI (6 * N))]) (st' := [.ref 0]) rfl ?_
          refine wp_callV (o := 0) (as := []) (rest := []) (els := [.ref 0, am_du, am_du]) rfl rfl rfl rfl rfl rfl rfl rfl (by omega) ?_
          refine op_check (N := N) (by omega) hR (by omega) (fun v1 b1 h1 hk => ?_)
          show am_wp L xs _ _ _ _ 1232 [.ref 1000, .ref 0, .ref 74, .int (nI (6 * N))] [.int v1] (am_S b1) h1 _
          refine wp_run 1 (pc' := 1233) (ls' := [.ref 1000, .ref 0, .ref 74, .int (nI (6 * N))]) (st' := [.ref 74, .int v1]) rfl ?_
          refine wp_callV (o := 74) (as := []) (rest := [.int v1]) (els := [.ref 74, am_du, am_du]) rfl rfl rfl rfl rfl rfl rfl rfl (by omega) ?_
          refine hk _ _ (fun b2 h2 hR2 => ?_)
          show am_wp L xs _ _ _ _ 1236 [.ref 1000, .ref 0, .ref 74, .int (nI (6 * N))] [.int v1, .int v1] (am_S b2) h2 _
          refine wp_icmp_t rfl (show v1 = v1 from rfl) ?_
          refine wp_run 2 (pc' := 18) (ls' := [.ref 1000, .ref 0, .ref 74, .int ((nI (6 * N)) + 6)]) (st' := []) rfl ?_
          rw [show (((nI (6 * N)) + 6) : Int32) = (nI ((6 * N) + 6)) from nI_add (6 * N) 6]
          rw [show (nI ((6 * N) + 6)) = nI (6 * (N + 1)) from by congr 1]
          exact ih (N + 1) _ _ hR2 (by omega) (by omega)
        · skip
          refine wp_run 5 (pc' := 1246) (ls' := [.ref 1000, .ref 0, .ref 74, .int (nI (6 * N))]) (st' := [.int ((nI (6 * N)) + 1), .ref 1000, .ref 0]) rfl ?_
          rw [show (((nI (6 * N)) + 1) : Int32) = (nI ((6 * N) + 1)) from nI_add (6 * N) 1]
          refine wp_ald0 rfl hL rfl (by omega) ?_
          refine wp_callV (o := 0) (as := [.int (xs ((6 * N) + 1))]) (rest := []) (els := [.ref 0, .int (xs ((6 * N) + 1))]) rfl rfl rfl rfl rfl rfl rfl rfl (by omega) ?_
          refine op_count (N := N) (by omega) hR (by omega) (fun v1 b1 h1 hk => ?_)
          show am_wp L xs _ _ _ _ 1250 [.ref 1000, .ref 0, .ref 74, .int (nI (6 * N))] [.int v1] (am_S b1) h1 _
          refine wp_run 5 (pc' := 1255) (ls' := [.ref 1000, .ref 0, .ref 74, .int (nI (6 * N))]) (st' := [.int ((nI (6 * N)) + 1), .ref 1000, .ref 74, .int v1]) rfl ?_
          rw [show (((nI (6 * N)) + 1) : Int32) = (nI ((6 * N) + 1)) from nI_add (6 * N) 1]
          refine wp_ald0 rfl hL rfl (by omega) ?_
          refine wp_callV (o := 74) (as := [.int (xs ((6 * N) + 1))]) (rest := [.int v1]) (els := [.ref 74, .int (xs ((6 * N) + 1))]) rfl rfl rfl rfl rfl rfl rfl rfl (by omega) ?_
          refine hk _ _ (fun b2 h2 hR2 => ?_)
          show am_wp L xs _ _ _ _ 1259 [.ref 1000, .ref 0, .ref 74, .int (nI (6 * N))] [.int v1, .int v1] (am_S b2) h2 _
          refine wp_icmp_t rfl (show v1 = v1 from rfl) ?_
          refine wp_run 2 (pc' := 18) (ls' := [.ref 1000, .ref 0, .ref 74, .int ((nI (6 * N)) + 6)]) (st' := []) rfl ?_
          rw [show (((nI (6 * N)) + 6) : Int32) = (nI ((6 * N) + 6)) from nI_add (6 * N) 6]
          rw [show (nI ((6 * N) + 6)) = nI (6 * (N + 1)) from by congr 1]
          exact ih (N + 1) _ _ hR2 (by omega) (by omega)
        · skip
          refine wp_run 5 (pc' := 1269) (ls' := [.ref 1000, .ref 0, .ref 74, .int (nI (6 * N))]) (st' := [.int ((nI (6 * N)) + 1), .ref 1000, .ref 0]) rfl ?_
          rw [show (((nI (6 * N)) + 1) : Int32) = (nI ((6 * N) + 1)) from nI_add (6 * N) 1]
          refine wp_ald0 rfl hL rfl (by omega) ?_
          refine wp_callV (o := 0) (as := [.int (xs ((6 * N) + 1))]) (rest := []) (els := [.ref 0, .int (xs ((6 * N) + 1))]) rfl rfl rfl rfl rfl rfl rfl rfl (by omega) ?_
          refine op_told (N := N) (by omega) hR (by omega) (fun v1 b1 h1 hk => ?_)
          show am_wp L xs _ _ _ _ 1273 [.ref 1000, .ref 0, .ref 74, .int (nI (6 * N))] [.int v1] (am_S b1) h1 _
          refine wp_run 5 (pc' := 1278) (ls' := [.ref 1000, .ref 0, .ref 74, .int (nI (6 * N))]) (st' := [.int ((nI (6 * N)) + 1), .ref 1000, .ref 74, .int v1]) rfl ?_
          rw [show (((nI (6 * N)) + 1) : Int32) = (nI ((6 * N) + 1)) from nI_add (6 * N) 1]
          refine wp_ald0 rfl hL rfl (by omega) ?_
          refine wp_callV (o := 74) (as := [.int (xs ((6 * N) + 1))]) (rest := [.int v1]) (els := [.ref 74, .int (xs ((6 * N) + 1))]) rfl rfl rfl rfl rfl rfl rfl rfl (by omega) ?_
          refine hk _ _ (fun b2 h2 hR2 => ?_)
          show am_wp L xs _ _ _ _ 1282 [.ref 1000, .ref 0, .ref 74, .int (nI (6 * N))] [.int v1, .int v1] (am_S b2) h2 _
          refine wp_icmp_t rfl (show v1 = v1 from rfl) ?_
          refine wp_run 2 (pc' := 18) (ls' := [.ref 1000, .ref 0, .ref 74, .int ((nI (6 * N)) + 6)]) (st' := []) rfl ?_
          rw [show (((nI (6 * N)) + 6) : Int32) = (nI ((6 * N) + 6)) from nI_add (6 * N) 6]
          rw [show (nI ((6 * N) + 6)) = nI (6 * (N + 1)) from by congr 1]
          exact ih (N + 1) _ _ hR2 (by omega) (by omega)
      · intro sw33
        refine wp_run 2 (pc' := 18) (ls' := [.ref 1000, .ref 0, .ref 74, .int ((nI (6 * N)) + 6)]) (st' := []) rfl ?_
        rw [show (((nI (6 * N)) + 6) : Int32) = (nI ((6 * N) + 6)) from nI_add (6 * N) 6]
        rw [show (nI ((6 * N) + 6)) = nI (6 * (N + 1)) from by congr 1]
        exact ih (N + 1) _ _ (am_Rel_s hR) (by omega) (by omega)
set_option maxHeartbeats 4000000 in
theorem am_law {L : Nat} {xs : Nat → Int32} (hL : L ≤ 3072) : am_wp L xs 2000 92 10000 0 0 [.ref 1000, am_du, am_du, am_du] [] [] (fun _ _ => 0) (fun r _ _ => r = some (.int 1)) := by
  refine wp_new rfl rfl (fun _ => rfl) (by decide) (by decide) rfl ?_
  refine wp_run 1 (pc' := 4) (ls' := [.ref 1000, am_du, am_du, am_du]) (st' := [.ref 0, .ref 0]) rfl ?_
  refine wp_callI (o := 0) (as := []) (rest := [.ref 0]) (els := [.ref 0]) 73 18 2273 7718 rfl rfl rfl rfl rfl rfl rfl rfl (by omega) rfl (by decide) ?_
  refine am_ex_ok 300 1999 1 0 [.ref 0] [] _ [] am_SA am_GA 73 2273 am_made1 2273 _ (Nat.le_refl _) ?_
  show am_wp L xs 2000 18 7718 0 7 [.ref 1000, am_du, am_du, am_du] [.ref 0] am_SA (am_lg am_GA) _
  refine wp_run 1 (pc' := 8) (ls' := [.ref 1000, .ref 0, am_du, am_du]) (st' := []) rfl ?_
  refine wp_new rfl rfl (am_lg_0 am_GA (by decide)) (by decide) (by decide) rfl ?_
  refine wp_run 1 (pc' := 12) (ls' := [.ref 1000, .ref 0, am_du, am_du]) (st' := [.ref 74, .ref 74]) rfl ?_
  refine wp_callI (o := 74) (as := []) (rest := [.ref 74]) (els := [.ref 74]) 17 0 2231 5460 rfl rfl rfl rfl rfl rfl rfl rfl (by omega) rfl (by decide) ?_
  refine am_ex_ok 300 1999 129 0 [.ref 74] [] _ am_GA (am_S 0) am_GB 17 2231 am_made2 2231 _ (Nat.le_refl _) ?_
  show am_wp L xs 2000 0 5460 0 15 [.ref 1000, .ref 0, am_du, am_du] [.ref 74] (am_S 0) (am_lg am_GB) _
  refine wp_run 3 (pc' := 18) (ls' := [.ref 1000, .ref 0, .ref 74, .int 0]) (st' := []) rfl ?_
  exact lp_law hL 600 0 0 (am_lg am_GB) am_Rel0 (by omega) (by omega)
