set_option maxRecDepth 100000 in
/-- X12_allBytes -/
theorem cd_287 : px_at 287 0 = some (1, [], .iconst 0, []) ∧ px_at 287 1 = some (2, [], .istore_n 1, []) ∧ px_at 287 2 = some (3, [], .iconst 0, []) ∧ px_at 287 3 = some (4, [], .istore_n 2, []) ∧ px_at 287 4 = some (5, [1, 1, 1], .iload_n 2, []) ∧ px_at 287 5 = some (6, [], .aload_n 0, []) ∧ px_at 287 6 = some (9, [], .getfield 7, [11, 0, 2, 1, 125]) ∧ px_at 287 9 = some (10, [], .iconst 5, []) ∧ px_at 287 10 = some (11, [], .iaload, []) ∧ px_at 287 11 = some (14, [], .if_icmp .ge 17, [28]) ∧ px_at 287 14 = some (15, [], .iload_n 1, []) ∧ px_at 287 15 = some (16, [], .aload_n 0, []) ∧ px_at 287 16 = some (17, [], .iload_n 2, []) ∧ px_at 287 17 = some (20, [], .invokevirtual 386, [286, 1, 11, 336]) ∧ px_at 287 20 = some (21, [], .iadd, []) ∧ px_at 287 21 = some (22, [], .istore_n 1, []) ∧ px_at 287 22 = some (25, [], .iinc 2 1, []) ∧ px_at 287 25 = some (28, [], .goto (-21), [4]) ∧ px_at 287 28 = some (29, [], .iload_n 1, []) ∧ px_at 287 29 = some (30, [], .ireturn, [0]) := ⟨rfl, rfl, rfl, rfl, rfl, rfl, rfl, rfl, rfl, rfl, rfl, rfl, rfl, rfl, rfl, rfl, rfl, rfl, rfl, rfl⟩
set_option maxRecDepth 100000 in
/-- X12_count -/
theorem cd_288 : px_at 288 0 = some (1, [], .iload_n 1, []) ∧ px_at 288 1 = some (76, [], .tableswitch 166 0 14 #[75, 82, 89, 96, 103, 110, 116, 121, 126, 132, 137, 142, 147, 153, 159], [167, 76, 83, 90, 97, 104, 111, 117, 122, 127, 133, 138, 143, 148, 154, 160]) ∧ px_at 288 76 = some (77, [], .aload_n 0, []) ∧ px_at 288 77 = some (80, [], .getfield 7, [11, 0, 2, 1, 125]) ∧ px_at 288 80 = some (81, [], .iconst 0, []) ∧ px_at 288 81 = some (82, [], .iaload, []) ∧ px_at 288 82 = some (83, [], .ireturn, [0]) ∧ px_at 288 83 = some (84, [], .aload_n 0, []) ∧ px_at 288 84 = some (87, [], .getfield 7, [11, 0, 2, 1, 125]) ∧ px_at 288 87 = some (88, [], .iconst 1, []) ∧ px_at 288 88 = some (89, [], .iaload, []) ∧ px_at 288 89 = some (90, [], .ireturn, [0]) ∧ px_at 288 90 = some (91, [], .aload_n 0, []) ∧ px_at 288 91 = some (94, [], .getfield 7, [11, 0, 2, 1, 125]) ∧ px_at 288 94 = some (95, [], .iconst 2, []) ∧ px_at 288 95 = some (96, [], .iaload, []) ∧ px_at 288 96 = some (97, [], .ireturn, [0]) ∧ px_at 288 97 = some (98, [], .aload_n 0, []) ∧ px_at 288 98 = some (101, [], .getfield 7, [11, 0, 2, 1, 125]) ∧ px_at 288 101 = some (102, [], .iconst 5, []) ∧ px_at 288 102 = some (103, [], .iaload, []) ∧ px_at 288 103 = some (104, [], .ireturn, [0]) ∧ px_at 288 104 = some (105, [], .aload_n 0, []) ∧ px_at 288 105 = some (108, [], .getfield 7, [11, 0, 2, 1, 125]) ∧ px_at 288 108 = some (109, [], .iconst 3, []) ∧ px_at 288 109 = some (110, [], .iaload, []) ∧ px_at 288 110 = some (111, [], .ireturn, [0]) ∧ px_at 288 111 = some (112, [], .aload_n 0, []) ∧ px_at 288 112 = some (113, [], .iconst 0, []) ∧ px_at 288 113 = some (116, [], .invokevirtual 389, [285, 1, 11, 331]) ∧ px_at 288 116 = some (117, [], .ireturn, [0]) ∧ px_at 288 117 = some (118, [], .aload_n 0, []) ∧ px_at 288 118 = some (121, [], .invokevirtual 368, [213, 0, 11, 316]) ∧ px_at 288 121 = some (122, [], .ireturn, [0]) ∧ px_at 288 122 = some (123, [], .aload_n 0, []) ∧ px_at 288 123 = some (126, [], .invokevirtual 392, [284, 0, 11, 333]) ∧ px_at 288 126 = some (127, [], .ireturn, [0]) ∧ px_at 288 127 = some (128, [], .aload_n 0, []) ∧ px_at 288 128 = some (129, [], .iconst 1, []) ∧ px_at 288 129 = some (132, [], .invokevirtual 389, [285, 1, 11, 331]) ∧ px_at 288 132 = some (133, [], .ireturn, [0]) ∧ px_at 288 133 = some (134, [], .aload_n 0, []) ∧ px_at 288 134 = some (137, [], .invokevirtual 395, [282, 0, 11, 334]) ∧ px_at 288 137 = some (138, [], .ireturn, [0]) ∧ px_at 288 138 = some (139, [], .aload_n 0, []) ∧ px_at 288 139 = some (142, [], .invokevirtual 398, [287, 0, 11, 335]) ∧ px_at 288 142 = some (143, [], .ireturn, [0]) ∧ px_at 288 143 = some (144, [], .aload_n 0, []) ∧ px_at 288 144 = some (147, [], .getfield 84, [11, 3, 0, 0, 128]) ∧ px_at 288 147 = some (148, [], .ireturn, [0]) ∧ px_at 288 148 = some (149, [], .aload_n 0, []) ∧ px_at 288 149 = some (150, [], .iconst 2, []) ∧ px_at 288 150 = some (153, [], .invokevirtual 389, [285, 1, 11, 331]) ∧ px_at 288 153 = some (154, [], .ireturn, [0]) ∧ px_at 288 154 = some (155, [], .aload_n 0, []) ∧ px_at 288 155 = some (156, [], .iconst 3, []) ∧ px_at 288 156 = some (159, [], .invokevirtual 389, [285, 1, 11, 331]) ∧ px_at 288 159 = some (160, [], .ireturn, [0]) ∧ px_at 288 160 = some (161, [], .aload_n 0, []) ∧ px_at 288 161 = some (164, [], .getfield 7, [11, 0, 2, 1, 125]) ∧ px_at 288 164 = some (165, [], .iconst 4, []) ∧ px_at 288 165 = some (166, [], .iaload, []) ∧ px_at 288 166 = some (167, [], .ireturn, [0]) ∧ px_at 288 167 = some (168, [], .iconst (-1), []) ∧ px_at 288 168 = some (169, [], .ireturn, [0]) := ⟨rfl, rfl, rfl, rfl, rfl, rfl, rfl, rfl, rfl, rfl, rfl, rfl, rfl, rfl, rfl, rfl, rfl, rfl, rfl, rfl, rfl, rfl, rfl, rfl, rfl, rfl, rfl, rfl, rfl, rfl, rfl, rfl, rfl, rfl, rfl, rfl, rfl, rfl, rfl, rfl, rfl, rfl, rfl, rfl, rfl, rfl, rfl, rfl, rfl, rfl, rfl, rfl, rfl, rfl, rfl, rfl, rfl, rfl, rfl, rfl, rfl, rfl, rfl, rfl, rfl⟩
set_option maxRecDepth 100000 in
/-- X12_edition -/
theorem cd_289 : px_at 289 0 = some (1, [], .iload_n 1, []) ∧ px_at 289 1 = some (2, [], .iconst 0, []) ∧ px_at 289 2 = some (3, [], .aload_n 0, []) ∧ px_at 289 3 = some (6, [], .getfield 7, [11, 0, 2, 1, 125]) ∧ px_at 289 6 = some (7, [], .iconst 5, []) ∧ px_at 289 7 = some (8, [], .iaload, []) ∧ px_at 289 8 = some (9, [], .iconst 1, []) ∧ px_at 289 9 = some (10, [], .isub, []) ∧ px_at 289 10 = some (13, [], .invokestatic 92, [170, 3, 11, 223]) ∧ px_at 289 13 = some (16, [], .ifCond .eq 18, [31]) ∧ px_at 289 16 = some (17, [], .aload_n 0, []) ∧ px_at 289 17 = some (20, [], .getfield 7, [11, 0, 2, 1, 125]) ∧ px_at 289 20 = some (21, [], .aload_n 0, []) ∧ px_at 289 21 = some (22, [], .iload_n 1, []) ∧ px_at 289 22 = some (25, [], .invokevirtual 174, [204, 1, 11, 251]) ∧ px_at 289 25 = some (26, [], .iconst 0, []) ∧ px_at 289 26 = some (27, [], .iadd, []) ∧ px_at 289 27 = some (28, [], .iaload, []) ∧ px_at 289 28 = some (31, [], .goto 4, [32]) ∧ px_at 289 31 = some (32, [], .iconst (-1), []) ∧ px_at 289 32 = some (33, [], .ireturn, [0]) := ⟨rfl, rfl, rfl, rfl, rfl, rfl, rfl, rfl, rfl, rfl, rfl, rfl, rfl, rfl, rfl, rfl, rfl, rfl, rfl, rfl, rfl⟩
/-! the reference: count, edition -/
theorem cb_rng {Mc : px_mem} {pl : Int → Int → List Int} {nm : Int → List Int} {F : Int → Int} (hT : TE Mc pl nm F) {i : Int} (i0 : 0 ≤ i) (i1 : i < Mc 20 1) : 0 ≤ cbJ Mc i (nfC Mc i) ∧ cbJ Mc i (nfC Mc i) ≤ 480 := by
  have hl := TE_lsA hT i0 i1
  have := sm_bnd (n := nfC Mc i) (c := 40) hl.2.1 (f := fun j => Mc 57 (cfC Mc i j)) (fun k k0 k1 => by
    have en := TE_ent hT i0 i1 k0 k1
    have := cokC (hT.1.1.1 _ en.2.2.2.1 en.2.2.2.2.1 en.2.2.2.2.2)
    have e : cfC Mc i k = Mc (Mc 21 i + 2) k := rfl
    simp only [e]
    exact ⟨by omega, by omega⟩)
  unfold cbJ
  omega
theorem cntR_0 (M Mc : px_mem) : cntR M Mc 0 = M 128 0 := by
  unfold cntR
  rw [if_pos rfl]
theorem cntR_1 (M Mc : px_mem) : cntR M Mc 1 = M 128 1 := by
  unfold cntR
  rw [if_neg (by decide), if_pos rfl]
theorem cntR_2 (M Mc : px_mem) : cntR M Mc 2 = M 128 2 := by
  unfold cntR
  rw [if_neg (by decide), if_neg (by decide), if_pos rfl]
theorem cntR_3 (M Mc : px_mem) : cntR M Mc 3 = Mc 20 1 := by
  unfold cntR
  rw [if_neg (by decide), if_neg (by decide), if_neg (by decide), if_pos rfl]
theorem cntR_4 (M Mc : px_mem) : cntR M Mc 4 = M 128 3 := by
  unfold cntR
  rw [if_neg (by decide), if_neg (by decide), if_neg (by decide), if_neg (by decide), if_pos rfl]
theorem cntR_5 (M Mc : px_mem) : cntR M Mc 5 = sm 40 (cbF Mc 0) := by
  unfold cntR
  rw [if_neg (by decide), if_neg (by decide), if_neg (by decide), if_neg (by decide), if_neg (by decide), if_pos rfl]
theorem cntR_6 (M Mc : px_mem) : cntR M Mc 6 = sm 40 (fun c => if 0 ≤ Mc 62 c then Mc 60 c else 0) := by
  unfold cntR
  rw [if_neg (by decide), if_neg (by decide), if_neg (by decide), if_neg (by decide), if_neg (by decide), if_neg (by decide), if_pos rfl]
theorem cntR_7 (M Mc : px_mem) : cntR M Mc 7 = lg (fun k => Mc 54 k < 0) 400 := by
  unfold cntR
  rw [if_neg (by decide), if_neg (by decide), if_neg (by decide), if_neg (by decide), if_neg (by decide), if_neg (by decide), if_neg (by decide), if_pos rfl]
theorem cntR_8 (M Mc : px_mem) : cntR M Mc 8 = sm 40 (cbF Mc 1) := by
  unfold cntR
  rw [if_neg (by decide), if_neg (by decide), if_neg (by decide), if_neg (by decide), if_neg (by decide), if_neg (by decide), if_neg (by decide), if_neg (by decide), if_pos rfl]
theorem cntR_9 (M Mc : px_mem) : cntR M Mc 9 = tcN Mc (Mc 20 1) := by
  unfold cntR
  rw [if_neg (by decide), if_neg (by decide), if_neg (by decide), if_neg (by decide), if_neg (by decide), if_neg (by decide), if_neg (by decide), if_neg (by decide), if_neg (by decide), if_pos rfl]
theorem cntR_10 (M Mc : px_mem) : cntR M Mc 10 = cbN Mc (Mc 20 1) := by
  unfold cntR
  rw [if_neg (by decide), if_neg (by decide), if_neg (by decide), if_neg (by decide), if_neg (by decide), if_neg (by decide), if_neg (by decide), if_neg (by decide), if_neg (by decide), if_neg (by decide), if_pos rfl]
theorem cntR_11 (M Mc : px_mem) : cntR M Mc 11 = M 127 3 := by
  unfold cntR
  rw [if_neg (by decide), if_neg (by decide), if_neg (by decide), if_neg (by decide), if_neg (by decide), if_neg (by decide), if_neg (by decide), if_neg (by decide), if_neg (by decide), if_neg (by decide), if_neg (by decide), if_pos rfl]
theorem cntR_12 (M Mc : px_mem) : cntR M Mc 12 = sm 40 (cbF Mc 2) := by
  unfold cntR
  rw [if_neg (by decide), if_neg (by decide), if_neg (by decide), if_neg (by decide), if_neg (by decide), if_neg (by decide), if_neg (by decide), if_neg (by decide), if_neg (by decide), if_neg (by decide), if_neg (by decide), if_neg (by decide), if_pos rfl]
theorem cntR_13 (M Mc : px_mem) : cntR M Mc 13 = mx (Mc 62) 40 := by
  unfold cntR
  rw [if_neg (by decide), if_neg (by decide), if_neg (by decide), if_neg (by decide), if_neg (by decide), if_neg (by decide), if_neg (by decide), if_neg (by decide), if_neg (by decide), if_neg (by decide), if_neg (by decide), if_neg (by decide), if_neg (by decide), if_pos rfl]
theorem cntR_14 (M Mc : px_mem) : cntR M Mc 14 = M 128 4 := by
  unfold cntR
  rw [if_neg (by decide), if_neg (by decide), if_neg (by decide), if_neg (by decide), if_neg (by decide), if_neg (by decide), if_neg (by decide), if_neg (by decide), if_neg (by decide), if_neg (by decide), if_neg (by decide), if_neg (by decide), if_neg (by decide), if_neg (by decide), if_pos rfl]
section PS
variable {M : px_mem} {Q : Option pv → px_mem → Prop}
set_option maxHeartbeats 600000 in
set_option maxRecDepth 100000 in
theorem lp_allB {Mc : px_mem} {pl : Int → Int → List Int} {nm : Int → List Int} (hT : TE Mc pl nm (M 128)) (h : Q (some (0, cbN Mc (Mc 20 1))) M) (i : Int) (hk_i : i ≤ Mc 20 1) : 0 ≤ i → px_WP 287 0 0 (px_Q0 LAY Q) 4 [(2, 127), (0, cbN Mc i), (0, i)] [] LAY M 0 0 := by
  refine up_ind (P := fun i => 0 ≤ i → px_WP 287 0 0 (px_Q0 LAY Q) 4 [(2, 127), (0, cbN Mc i), (0, i)] [] LAY M 0 0) (Mc 20 1) (fun i hk_i ih => ?_) i hk_i
  intro i0
  have hTn := TE_n hT
  have h5 := hTn.1
  have hs := cbN_s9 (M := Mc) i0
  have hb : 0 ≤ cbN Mc i ∧ cbN Mc i ≤ i * 480 := sm_bnd i0 (fun k k0 k1 => cb_rng hT k0 (by omega))
  refine px_go_ok (inl := []) 60 ?_
  simp only [px_go, px_Q0_at, px_sx_0, px_sx_s, px_cl, px_step, ↓px_ll, px_lg, f4_, ↓px_r1, ↓px_r2, ↓px_r4, ↓px_r5, ↓px_p1, ↓px_p2, ↓px_p3, ↓px_pop, px_k_0, px_k_s, px_k3_0, px_stk_, px_cats, px_ent, px_st1, px_st2, px_mask, ↓px_tsw, ↓px_lsw, ct_, mls_0, mls_1, mls_2, mls_3, mls_4, mls_5, kd_0, kd_1, kd_2, kd_3, ln_0, ln_1, ln_2, ln_3, gf_0, gf_1, gf_2, gf_3, gf_4, gf_7, gf_21, gf_63, dy_0, dy_1, dy_2, dy_3, dy_7, dy_21, px_brT, px_brF, true_and, and_true, and_false, false_and, and_self, true_implies, false_implies, or_true, true_or, or_false, false_or, eq_self, ne_eq, not_false_eq_true, not_true_eq_false, if_true, if_false, List.mem_cons, List.not_mem_nil, List.length_cons, List.length_nil, Nat.reduceEqDiff, Nat.reduceAdd, Nat.reduceSub, Nat.reduceLeDiff, Nat.reduceLT, Int.reduceEq, Int.reduceLT, Int.reduceLE, Int.reduceNeg, Int.reduceAdd, Int.reduceSub, Int.reduceToNat, ↓reduceIte, one_ne_zero_, zero_ne_one_, px_in32L, cd_287, h5]
  repeat' (first | (with_reducible apply And.intro) | (with_reducible refine px_br_intro (fun _ => ?_) (fun _ => ?_)))
  all_goals (try (first | (unfold px_in32; omega) | omega))
  · rename_i c1
    rw [show i = Mc 20 1 by omega]; exact h
  · rename_i c1
    have hr := cb_rng hT i0 (by omega)
    refine sp_bytesOf hT ⟨i0, by omega⟩ ?_
    simp only [px_go, px_Q0_at, px_sx_0, px_sx_s, px_cl, px_step, ↓px_ll, px_lg, f4_, ↓px_r1, ↓px_r2, ↓px_r4, ↓px_r5, ↓px_p1, ↓px_p2, ↓px_p3, ↓px_pop, px_k_0, px_k_s, px_k3_0, px_stk_, px_cats, px_ent, px_st1, px_st2, px_mask, ↓px_tsw, ↓px_lsw, ct_, mls_0, mls_1, mls_2, mls_3, mls_4, mls_5, kd_0, kd_1, kd_2, kd_3, ln_0, ln_1, ln_2, ln_3, gf_0, gf_1, gf_2, gf_3, gf_4, gf_7, gf_21, gf_63, dy_0, dy_1, dy_2, dy_3, dy_7, dy_21, px_brT, px_brF, true_and, and_true, and_false, false_and, and_self, true_implies, false_implies, or_true, true_or, or_false, false_or, eq_self, ne_eq, not_false_eq_true, not_true_eq_false, if_true, if_false, List.mem_cons, List.not_mem_nil, List.length_cons, List.length_nil, Nat.reduceEqDiff, Nat.reduceAdd, Nat.reduceSub, Nat.reduceLeDiff, Nat.reduceLT, Int.reduceEq, Int.reduceLT, Int.reduceLE, Int.reduceNeg, Int.reduceAdd, Int.reduceSub, Int.reduceToNat, ↓reduceIte, one_ne_zero_, zero_ne_one_, px_in32L, cd_287]
    repeat' (first | (with_reducible apply And.intro) | (with_reducible refine px_br_intro (fun _ => ?_) (fun _ => ?_)))
    all_goals (try (first | (unfold px_in32; omega) | omega))
    have := ih (by omega) (by omega)
    rw [hs] at this
    exact this
set_option maxHeartbeats 600000 in
set_option maxRecDepth 100000 in
theorem sp_allB {Mc : px_mem} {pl : Int → Int → List Int} {nm : Int → List Int} (hT : TE Mc pl nm (M 128)) (h : Q (some (0, cbN Mc (Mc 20 1))) M) : px_Ok 287 [(2, 127)] LAY M Q := by
  refine px_ok_go (inl := []) (ls0 := [(2, 127), (9, 0), (9, 0)]) 60 (by decide) (Nat.le_of_ble_eq_true rfl) rfl ?_
  simp only [px_go, px_Q0_at, px_sx_0, px_sx_s, px_cl, px_step, ↓px_ll, px_lg, f4_, ↓px_r1, ↓px_r2, ↓px_r4, ↓px_r5, ↓px_p1, ↓px_p2, ↓px_p3, ↓px_pop, px_k_0, px_k_s, px_k3_0, px_stk_, px_cats, px_ent, px_st1, px_st2, px_mask, ↓px_tsw, ↓px_lsw, ct_, mls_0, mls_1, mls_2, mls_3, mls_4, mls_5, kd_0, kd_1, kd_2, kd_3, ln_0, ln_1, ln_2, ln_3, gf_0, gf_1, gf_2, gf_3, gf_4, gf_7, gf_21, gf_63, dy_0, dy_1, dy_2, dy_3, dy_7, dy_21, px_brT, px_brF, true_and, and_true, and_false, false_and, and_self, true_implies, false_implies, or_true, true_or, or_false, false_or, eq_self, ne_eq, not_false_eq_true, not_true_eq_false, if_true, if_false, List.mem_cons, List.not_mem_nil, List.length_cons, List.length_nil, Nat.reduceEqDiff, Nat.reduceAdd, Nat.reduceSub, Nat.reduceLeDiff, Nat.reduceLT, Int.reduceEq, Int.reduceLT, Int.reduceLE, Int.reduceNeg, Int.reduceAdd, Int.reduceSub, Int.reduceToNat, ↓reduceIte, one_ne_zero_, zero_ne_one_, px_in32L, cd_287]
  repeat' (first | (with_reducible apply And.intro) | (with_reducible refine px_br_intro (fun _ => ?_) (fun _ => ?_)))
  all_goals (try (first | (unfold px_in32; omega) | omega))
  exact lp_allB hT h 0 (by have := TE_n hT; omega) (Int.le_refl 0)
set_option maxHeartbeats 600000 in
set_option maxRecDepth 100000 in
theorem sp_redition {Mc : px_mem} {i : Int} {pl : Int → Int → List Int} {nm : Int → List Int} (hT : TE Mc pl nm (M 128)) (h : Q (some (0, if 0 ≤ i ∧ i < Mc 20 1 then Mc (Mc 21 i) 3 else -1)) M) : px_Ok 289 [(2, 127), (0, i)] LAY M Q := by
  have hTn := TE_n hT
  have h5 := hTn.1
  have e0 : 0 ≤ i → i < Mc 20 1 → M 128 (1294 + 186 * i + 0) = Mc (Mc 21 i) 3 := fun q1 q2 => (TE_e hT q1 q2).1
  refine px_ok_go (inl := [170, 204]) (ls0 := [(2, 127), (0, i)]) 60 (by decide) (Nat.le_of_ble_eq_true rfl) rfl ?_
  simp only [px_go, px_Q0_at, px_sx_0, px_sx_s, px_cl, px_step, ↓px_ll, px_lg, f4_, ↓px_r1, ↓px_r2, ↓px_r4, ↓px_r5, ↓px_p1, ↓px_p2, ↓px_p3, ↓px_pop, px_k_0, px_k_s, px_k3_0, px_stk_, px_cats, px_ent, px_st1, px_st2, px_mask, ↓px_tsw, ↓px_lsw, ct_, mls_0, mls_1, mls_2, mls_3, mls_4, mls_5, kd_0, kd_1, kd_2, kd_3, ln_0, ln_1, ln_2, ln_3, gf_0, gf_1, gf_2, gf_3, gf_4, gf_7, gf_21, gf_63, dy_0, dy_1, dy_2, dy_3, dy_7, dy_21, px_brT, px_brF, true_and, and_true, and_false, false_and, and_self, true_implies, false_implies, or_true, true_or, or_false, false_or, eq_self, ne_eq, not_false_eq_true, not_true_eq_false, if_true, if_false, List.mem_cons, List.not_mem_nil, List.length_cons, List.length_nil, Nat.reduceEqDiff, Nat.reduceAdd, Nat.reduceSub, Nat.reduceLeDiff, Nat.reduceLT, Int.reduceEq, Int.reduceLT, Int.reduceLE, Int.reduceNeg, Int.reduceAdd, Int.reduceSub, Int.reduceToNat, ↓reduceIte, one_ne_zero_, zero_ne_one_, px_in32L, cd_289, cd_170, cd_204, h5]
  repeat' (first | (with_reducible apply And.intro) | (with_reducible refine px_br_intro (fun _ => ?_) (fun _ => ?_)))
  all_goals (try (first | (unfold px_in32; omega) | omega))
  · rw [if_neg (by omega)] at h; exact h
  · rw [if_neg (by omega)] at h; exact h
  · have e0' := e0 (by omega) (by omega)
    rw [if_pos (by omega), ← e0'] at h; exact h
set_option maxHeartbeats 600000 in
set_option maxRecDepth 100000 in
theorem sp_rcount {Mc : px_mem} {w : Int} {pl : Int → Int → List Int} {nm : Int → List Int} (hT : TE Mc pl nm (M 128)) (h : ∀ M', M' 128 = M 128 → out M' M → Q (some (0, cntR M Mc w)) M') : px_Ok 288 [(2, 127), (0, w)] LAY M Q := by
  have hTn := TE_n hT
  have hself := h M rfl (out_refl M)
  have hfr : ∀ M', frd M' M → Q (some (0, cntR M Mc w)) M' := fun M' a => h M' (frd_128 a) (frd_out a)
  refine px_ok_go (inl := []) (ls0 := [(2, 127), (0, w)]) 60 (by decide) (Nat.le_of_ble_eq_true rfl) rfl ?_
  simp only [px_go, px_Q0_at, px_sx_0, px_sx_s, px_cl, px_step, ↓px_ll, px_lg, f4_, ↓px_r1, ↓px_r2, ↓px_r4, ↓px_r5, ↓px_p1, ↓px_p2, ↓px_p3, ↓px_pop, px_k_0, px_k_s, px_k3_0, px_stk_, px_cats, px_ent, px_st1, px_st2, px_mask, ↓px_tsw, ↓px_lsw, ct_, mls_0, mls_1, mls_2, mls_3, mls_4, mls_5, kd_0, kd_1, kd_2, kd_3, ln_0, ln_1, ln_2, ln_3, gf_0, gf_1, gf_2, gf_3, gf_4, gf_7, gf_21, gf_63, dy_0, dy_1, dy_2, dy_3, dy_7, dy_21, px_brT, px_brF, true_and, and_true, and_false, false_and, and_self, true_implies, false_implies, or_true, true_or, or_false, false_or, eq_self, ne_eq, not_false_eq_true, not_true_eq_false, if_true, if_false, List.mem_cons, List.not_mem_nil, List.length_cons, List.length_nil, Nat.reduceEqDiff, Nat.reduceAdd, Nat.reduceSub, Nat.reduceLeDiff, Nat.reduceLT, Int.reduceEq, Int.reduceLT, Int.reduceLE, Int.reduceNeg, Int.reduceAdd, Int.reduceSub, Int.reduceToNat, ↓reduceIte, one_ne_zero_, zero_ne_one_, px_in32L, cd_288]
  repeat' (first | (with_reducible apply And.intro) | (with_reducible refine px_br_intro (fun _ => ?_) (fun _ => ?_)))
  all_goals (try (first | (unfold px_in32; omega) | omega))
  all_goals intro hw
  · subst hw
    rw [cntR_0] at hself
    exact hself
  · subst hw
    rw [cntR_1] at hself
    exact hself
  · subst hw
    rw [cntR_2] at hself
    exact hself
  · subst hw
    rw [cntR_3, ← hTn.1] at hself
    exact hself
  · subst hw
    rw [cntR_4] at hself
    exact hself
  · subst hw
    refine sp_contBy hT.1 (fun M1 a1 => ?_)
    have hq := hfr M1 a1
    rw [cntR_5] at hq
    simp only [px_go, px_Q0_at, px_sx_0, px_sx_s, px_cl, px_step, ↓px_ll, px_lg, f4_, ↓px_r1, ↓px_r2, ↓px_r4, ↓px_r5, ↓px_p1, ↓px_p2, ↓px_p3, ↓px_pop, px_k_0, px_k_s, px_k3_0, px_stk_, px_cats, px_ent, px_st1, px_st2, px_mask, ↓px_tsw, ↓px_lsw, ct_, mls_0, mls_1, mls_2, mls_3, mls_4, mls_5, kd_0, kd_1, kd_2, kd_3, ln_0, ln_1, ln_2, ln_3, gf_0, gf_1, gf_2, gf_3, gf_4, gf_7, gf_21, gf_63, dy_0, dy_1, dy_2, dy_3, dy_7, dy_21, px_brT, px_brF, true_and, and_true, and_false, false_and, and_self, true_implies, false_implies, or_true, true_or, or_false, false_or, eq_self, ne_eq, not_false_eq_true, not_true_eq_false, if_true, if_false, List.mem_cons, List.not_mem_nil, List.length_cons, List.length_nil, Nat.reduceEqDiff, Nat.reduceAdd, Nat.reduceSub, Nat.reduceLeDiff, Nat.reduceLT, Int.reduceEq, Int.reduceLT, Int.reduceLE, Int.reduceNeg, Int.reduceAdd, Int.reduceSub, Int.reduceToNat, ↓reduceIte, one_ne_zero_, zero_ne_one_, px_in32L, cd_288]
    exact hq
  · subst hw
    refine sp_rkept (fun c c0 c1 c2 => ?_) ?_
    · have hd : 0 ≤ Mc 62 c := by have := hT.1.2.1 c c0 c1; omega
      have hp := tieC_p hT.1 c0 c1 hd
      have hkc := cokC (hT.1.1.1 c c0 c1 hd)
      rw [hp.2.2.2.1]
      exact ⟨by omega, by omega⟩
    · have e : sm 40 (rkp (M 128)) = sm 40 (fun c => if 0 ≤ Mc 62 c then Mc 60 c else 0) := sm_congr (fun c c0 c1 => by
        unfold rkp
        have hio := hT.1.2.1 c c0 c1
        by_cases q : 0 ≤ Mc 62 c
        · rw [if_pos q, if_pos (by omega)]
          exact (tieC_p hT.1 c0 c1 q).2.2.2.1
        · rw [if_neg q, if_neg (by omega)])
      rw [cntR_6, ← e] at hself
      simp only [px_go, px_Q0_at, px_sx_0, px_sx_s, px_cl, px_step, ↓px_ll, px_lg, f4_, ↓px_r1, ↓px_r2, ↓px_r4, ↓px_r5, ↓px_p1, ↓px_p2, ↓px_p3, ↓px_pop, px_k_0, px_k_s, px_k3_0, px_stk_, px_cats, px_ent, px_st1, px_st2, px_mask, ↓px_tsw, ↓px_lsw, ct_, mls_0, mls_1, mls_2, mls_3, mls_4, mls_5, kd_0, kd_1, kd_2, kd_3, ln_0, ln_1, ln_2, ln_3, gf_0, gf_1, gf_2, gf_3, gf_4, gf_7, gf_21, gf_63, dy_0, dy_1, dy_2, dy_3, dy_7, dy_21, px_brT, px_brF, true_and, and_true, and_false, false_and, and_self, true_implies, false_implies, or_true, true_or, or_false, false_or, eq_self, ne_eq, not_false_eq_true, not_true_eq_false, if_true, if_false, List.mem_cons, List.not_mem_nil, List.length_cons, List.length_nil, Nat.reduceEqDiff, Nat.reduceAdd, Nat.reduceSub, Nat.reduceLeDiff, Nat.reduceLT, Int.reduceEq, Int.reduceLT, Int.reduceLE, Int.reduceNeg, Int.reduceAdd, Int.reduceSub, Int.reduceToNat, ↓reduceIte, one_ne_zero_, zero_ne_one_, px_in32L, cd_288]
      exact hself
  · subst hw
    refine sp_longF hT.1 (fun M1 a1 a2 => ?_)
    have hq := h M1 a1 a2
    rw [cntR_7] at hq
    simp only [px_go, px_Q0_at, px_sx_0, px_sx_s, px_cl, px_step, ↓px_ll, px_lg, f4_, ↓px_r1, ↓px_r2, ↓px_r4, ↓px_r5, ↓px_p1, ↓px_p2, ↓px_p3, ↓px_pop, px_k_0, px_k_s, px_k3_0, px_stk_, px_cats, px_ent, px_st1, px_st2, px_mask, ↓px_tsw, ↓px_lsw, ct_, mls_0, mls_1, mls_2, mls_3, mls_4, mls_5, kd_0, kd_1, kd_2, kd_3, ln_0, ln_1, ln_2, ln_3, gf_0, gf_1, gf_2, gf_3, gf_4, gf_7, gf_21, gf_63, dy_0, dy_1, dy_2, dy_3, dy_7, dy_21, px_brT, px_brF, true_and, and_true, and_false, false_and, and_self, true_implies, false_implies, or_true, true_or, or_false, false_or, eq_self, ne_eq, not_false_eq_true, not_true_eq_false, if_true, if_false, List.mem_cons, List.not_mem_nil, List.length_cons, List.length_nil, Nat.reduceEqDiff, Nat.reduceAdd, Nat.reduceSub, Nat.reduceLeDiff, Nat.reduceLT, Int.reduceEq, Int.reduceLT, Int.reduceLE, Int.reduceNeg, Int.reduceAdd, Int.reduceSub, Int.reduceToNat, ↓reduceIte, one_ne_zero_, zero_ne_one_, px_in32L, cd_288]
    exact hq
  · subst hw
    refine sp_contBy hT.1 (fun M1 a1 => ?_)
    have hq := hfr M1 a1
    rw [cntR_8] at hq
    simp only [px_go, px_Q0_at, px_sx_0, px_sx_s, px_cl, px_step, ↓px_ll, px_lg, f4_, ↓px_r1, ↓px_r2, ↓px_r4, ↓px_r5, ↓px_p1, ↓px_p2, ↓px_p3, ↓px_pop, px_k_0, px_k_s, px_k3_0, px_stk_, px_cats, px_ent, px_st1, px_st2, px_mask, ↓px_tsw, ↓px_lsw, ct_, mls_0, mls_1, mls_2, mls_3, mls_4, mls_5, kd_0, kd_1, kd_2, kd_3, ln_0, ln_1, ln_2, ln_3, gf_0, gf_1, gf_2, gf_3, gf_4, gf_7, gf_21, gf_63, dy_0, dy_1, dy_2, dy_3, dy_7, dy_21, px_brT, px_brF, true_and, and_true, and_false, false_and, and_self, true_implies, false_implies, or_true, true_or, or_false, false_or, eq_self, ne_eq, not_false_eq_true, not_true_eq_false, if_true, if_false, List.mem_cons, List.not_mem_nil, List.length_cons, List.length_nil, Nat.reduceEqDiff, Nat.reduceAdd, Nat.reduceSub, Nat.reduceLeDiff, Nat.reduceLT, Int.reduceEq, Int.reduceLT, Int.reduceLE, Int.reduceNeg, Int.reduceAdd, Int.reduceSub, Int.reduceToNat, ↓reduceIte, one_ne_zero_, zero_ne_one_, px_in32L, cd_288]
    exact hq
  · subst hw
    refine sp_touchedMany hT (fun M1 a1 => ?_)
    have hq := hfr M1 a1
    rw [cntR_9] at hq
    simp only [px_go, px_Q0_at, px_sx_0, px_sx_s, px_cl, px_step, ↓px_ll, px_lg, f4_, ↓px_r1, ↓px_r2, ↓px_r4, ↓px_r5, ↓px_p1, ↓px_p2, ↓px_p3, ↓px_pop, px_k_0, px_k_s, px_k3_0, px_stk_, px_cats, px_ent, px_st1, px_st2, px_mask, ↓px_tsw, ↓px_lsw, ct_, mls_0, mls_1, mls_2, mls_3, mls_4, mls_5, kd_0, kd_1, kd_2, kd_3, ln_0, ln_1, ln_2, ln_3, gf_0, gf_1, gf_2, gf_3, gf_4, gf_7, gf_21, gf_63, dy_0, dy_1, dy_2, dy_3, dy_7, dy_21, px_brT, px_brF, true_and, and_true, and_false, false_and, and_self, true_implies, false_implies, or_true, true_or, or_false, false_or, eq_self, ne_eq, not_false_eq_true, not_true_eq_false, if_true, if_false, List.mem_cons, List.not_mem_nil, List.length_cons, List.length_nil, Nat.reduceEqDiff, Nat.reduceAdd, Nat.reduceSub, Nat.reduceLeDiff, Nat.reduceLT, Int.reduceEq, Int.reduceLT, Int.reduceLE, Int.reduceNeg, Int.reduceAdd, Int.reduceSub, Int.reduceToNat, ↓reduceIte, one_ne_zero_, zero_ne_one_, px_in32L, cd_288]
    exact hq
  · subst hw
    refine sp_allB hT ?_
    rw [cntR_10] at hself
    simp only [px_go, px_Q0_at, px_sx_0, px_sx_s, px_cl, px_step, ↓px_ll, px_lg, f4_, ↓px_r1, ↓px_r2, ↓px_r4, ↓px_r5, ↓px_p1, ↓px_p2, ↓px_p3, ↓px_pop, px_k_0, px_k_s, px_k3_0, px_stk_, px_cats, px_ent, px_st1, px_st2, px_mask, ↓px_tsw, ↓px_lsw, ct_, mls_0, mls_1, mls_2, mls_3, mls_4, mls_5, kd_0, kd_1, kd_2, kd_3, ln_0, ln_1, ln_2, ln_3, gf_0, gf_1, gf_2, gf_3, gf_4, gf_7, gf_21, gf_63, dy_0, dy_1, dy_2, dy_3, dy_7, dy_21, px_brT, px_brF, true_and, and_true, and_false, false_and, and_self, true_implies, false_implies, or_true, true_or, or_false, false_or, eq_self, ne_eq, not_false_eq_true, not_true_eq_false, if_true, if_false, List.mem_cons, List.not_mem_nil, List.length_cons, List.length_nil, Nat.reduceEqDiff, Nat.reduceAdd, Nat.reduceSub, Nat.reduceLeDiff, Nat.reduceLT, Int.reduceEq, Int.reduceLT, Int.reduceLE, Int.reduceNeg, Int.reduceAdd, Int.reduceSub, Int.reduceToNat, ↓reduceIte, one_ne_zero_, zero_ne_one_, px_in32L, cd_288]
    exact hself
  · subst hw
    rw [cntR_11] at hself
    exact hself
  · subst hw
    refine sp_contBy hT.1 (fun M1 a1 => ?_)
    have hq := hfr M1 a1
    rw [cntR_12] at hq
    simp only [px_go, px_Q0_at, px_sx_0, px_sx_s, px_cl, px_step, ↓px_ll, px_lg, f4_, ↓px_r1, ↓px_r2, ↓px_r4, ↓px_r5, ↓px_p1, ↓px_p2, ↓px_p3, ↓px_pop, px_k_0, px_k_s, px_k3_0, px_stk_, px_cats, px_ent, px_st1, px_st2, px_mask, ↓px_tsw, ↓px_lsw, ct_, mls_0, mls_1, mls_2, mls_3, mls_4, mls_5, kd_0, kd_1, kd_2, kd_3, ln_0, ln_1, ln_2, ln_3, gf_0, gf_1, gf_2, gf_3, gf_4, gf_7, gf_21, gf_63, dy_0, dy_1, dy_2, dy_3, dy_7, dy_21, px_brT, px_brF, true_and, and_true, and_false, false_and, and_self, true_implies, false_implies, or_true, true_or, or_false, false_or, eq_self, ne_eq, not_false_eq_true, not_true_eq_false, if_true, if_false, List.mem_cons, List.not_mem_nil, List.length_cons, List.length_nil, Nat.reduceEqDiff, Nat.reduceAdd, Nat.reduceSub, Nat.reduceLeDiff, Nat.reduceLT, Int.reduceEq, Int.reduceLT, Int.reduceLE, Int.reduceNeg, Int.reduceAdd, Int.reduceSub, Int.reduceToNat, ↓reduceIte, one_ne_zero_, zero_ne_one_, px_in32L, cd_288]
    exact hq
  · subst hw
    refine sp_contBy hT.1 (fun M1 a1 => ?_)
    have hq := hfr M1 a1
    rw [cntR_13] at hq
    simp only [px_go, px_Q0_at, px_sx_0, px_sx_s, px_cl, px_step, ↓px_ll, px_lg, f4_, ↓px_r1, ↓px_r2, ↓px_r4, ↓px_r5, ↓px_p1, ↓px_p2, ↓px_p3, ↓px_pop, px_k_0, px_k_s, px_k3_0, px_stk_, px_cats, px_ent, px_st1, px_st2, px_mask, ↓px_tsw, ↓px_lsw, ct_, mls_0, mls_1, mls_2, mls_3, mls_4, mls_5, kd_0, kd_1, kd_2, kd_3, ln_0, ln_1, ln_2, ln_3, gf_0, gf_1, gf_2, gf_3, gf_4, gf_7, gf_21, gf_63, dy_0, dy_1, dy_2, dy_3, dy_7, dy_21, px_brT, px_brF, true_and, and_true, and_false, false_and, and_self, true_implies, false_implies, or_true, true_or, or_false, false_or, eq_self, ne_eq, not_false_eq_true, not_true_eq_false, if_true, if_false, List.mem_cons, List.not_mem_nil, List.length_cons, List.length_nil, Nat.reduceEqDiff, Nat.reduceAdd, Nat.reduceSub, Nat.reduceLeDiff, Nat.reduceLT, Int.reduceEq, Int.reduceLT, Int.reduceLE, Int.reduceNeg, Int.reduceAdd, Int.reduceSub, Int.reduceToNat, ↓reduceIte, one_ne_zero_, zero_ne_one_, px_in32L, cd_288]
    exact hq
  · subst hw
    rw [cntR_14] at hself
    exact hself
  · have e : cntR M Mc w = -1 := by
      unfold cntR
      rw [if_neg (by omega), if_neg (by omega), if_neg (by omega), if_neg (by omega), if_neg (by omega), if_neg (by omega), if_neg (by omega), if_neg (by omega), if_neg (by omega), if_neg (by omega), if_neg (by omega), if_neg (by omega), if_neg (by omega), if_neg (by omega), if_neg (by omega)]
    rw [← e]; exact hself
end PS
