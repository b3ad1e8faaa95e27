set_option maxRecDepth 100000 in
/-- X12_touchedMany -/
theorem cd_282 : px_at 282 0 = some (1, [], .iconst 0, []) ∧ px_at 282 1 = some (2, [], .istore_n 1, []) ∧ px_at 282 2 = some (3, [], .iconst 0, []) ∧ px_at 282 3 = some (4, [], .istore_n 2, []) ∧ px_at 282 4 = some (5, [1, 1, 1, 0], .iload_n 2, []) ∧ px_at 282 5 = some (6, [], .aload_n 0, []) ∧ px_at 282 6 = some (9, [], .getfield 7, [11, 0, 2, 1, 125]) ∧ px_at 282 9 = some (10, [], .iconst 5, []) ∧ px_at 282 10 = some (11, [], .iaload, []) ∧ px_at 282 11 = some (14, [], .if_icmp .ge 43, [54]) ∧ px_at 282 14 = some (15, [], .iconst 0, []) ∧ px_at 282 15 = some (16, [], .istore_n 3, []) ∧ px_at 282 16 = some (17, [1, 1, 1, 1], .iload_n 3, []) ∧ px_at 282 17 = some (18, [], .aload_n 0, []) ∧ px_at 282 18 = some (19, [], .iload_n 2, []) ∧ px_at 282 19 = some (22, [], .invokevirtual 180, [206, 1, 11, 253]) ∧ px_at 282 22 = some (25, [], .if_icmp .ge 26, [48]) ∧ px_at 282 25 = some (26, [], .aload_n 0, []) ∧ px_at 282 26 = some (27, [], .aload_n 0, []) ∧ px_at 282 27 = some (28, [], .iload_n 2, []) ∧ px_at 282 28 = some (29, [], .iload_n 3, []) ∧ px_at 282 29 = some (32, [], .invokevirtual 187, [207, 2, 11, 256]) ∧ px_at 282 32 = some (35, [], .invokevirtual 141, [194, 1, 11, 257]) ∧ px_at 282 35 = some (38, [], .ifCond .ne 7, [42]) ∧ px_at 282 38 = some (39, [], .iload_n 1, []) ∧ px_at 282 39 = some (40, [], .iconst 1, []) ∧ px_at 282 40 = some (41, [], .iadd, []) ∧ px_at 282 41 = some (42, [], .istore_n 1, []) ∧ px_at 282 42 = some (45, [], .iinc 3 1, []) ∧ px_at 282 45 = some (48, [], .goto (-29), [16]) ∧ px_at 282 48 = some (51, [], .iinc 2 1, []) ∧ px_at 282 51 = some (54, [], .goto (-47), [4]) ∧ px_at 282 54 = some (55, [], .iload_n 1, []) ∧ px_at 282 55 = some (56, [], .ireturn, [0]) := ⟨rfl, rfl, rfl, rfl, rfl, rfl, rfl, rfl, rfl, rfl, rfl, rfl, rfl, rfl, rfl, rfl, rfl, rfl, rfl, rfl, rfl, rfl, rfl, rfl, rfl, rfl, rfl, rfl, rfl, rfl, rfl, rfl, rfl, rfl⟩
set_option maxRecDepth 100000 in
/-- X12_touched -/
theorem cd_283 : px_at 283 0 = some (1, [], .iload_n 1, []) ∧ px_at 283 1 = some (4, [], .ifCond .lt 12, [13]) ∧ px_at 283 4 = some (5, [], .iload_n 2, []) ∧ px_at 283 5 = some (6, [], .iconst 0, []) ∧ px_at 283 6 = some (7, [], .iconst 2, []) ∧ px_at 283 7 = some (10, [], .invokestatic 92, [170, 3, 11, 223]) ∧ px_at 283 10 = some (13, [], .ifCond .ne 5, [15]) ∧ px_at 283 13 = some (14, [], .iconst (-1), []) ∧ px_at 283 14 = some (15, [], .ireturn, [0]) ∧ px_at 283 15 = some (16, [], .iconst 0, []) ∧ px_at 283 16 = some (17, [], .istore_n 3, []) ∧ px_at 283 17 = some (18, [], .iconst 0, []) ∧ px_at 283 18 = some (20, [], .istore 4, []) ∧ px_at 283 20 = some (22, [1, 1, 1, 1, 1, 0], .iload 4, []) ∧ px_at 283 22 = some (23, [], .aload_n 0, []) ∧ px_at 283 23 = some (26, [], .getfield 7, [11, 0, 2, 1, 125]) ∧ px_at 283 26 = some (27, [], .iconst 5, []) ∧ px_at 283 27 = some (28, [], .iaload, []) ∧ px_at 283 28 = some (31, [], .if_icmp .ge 95, [123]) ∧ px_at 283 31 = some (32, [], .iconst 0, []) ∧ px_at 283 32 = some (34, [], .istore 5, []) ∧ px_at 283 34 = some (36, [1, 1, 1, 1, 1, 1], .iload 5, []) ∧ px_at 283 36 = some (37, [], .aload_n 0, []) ∧ px_at 283 37 = some (39, [], .iload 4, []) ∧ px_at 283 39 = some (42, [], .invokevirtual 180, [206, 1, 11, 253]) ∧ px_at 283 42 = some (45, [], .if_icmp .ge 75, [117]) ∧ px_at 283 45 = some (46, [], .aload_n 0, []) ∧ px_at 283 46 = some (47, [], .aload_n 0, []) ∧ px_at 283 47 = some (49, [], .iload 4, []) ∧ px_at 283 49 = some (51, [], .iload 5, []) ∧ px_at 283 51 = some (54, [], .invokevirtual 187, [207, 2, 11, 256]) ∧ px_at 283 54 = some (57, [], .invokevirtual 141, [194, 1, 11, 257]) ∧ px_at 283 57 = some (60, [], .ifCond .eq 6, [63]) ∧ px_at 283 60 = some (63, [], .goto 51, [111]) ∧ px_at 283 63 = some (64, [], .iload_n 3, []) ∧ px_at 283 64 = some (65, [], .iload_n 1, []) ∧ px_at 283 65 = some (68, [], .if_icmp .ne 42, [107]) ∧ px_at 283 68 = some (69, [], .iload_n 2, []) ∧ px_at 283 69 = some (72, [], .ifCond .ne 19, [88]) ∧ px_at 283 72 = some (73, [], .aload_n 0, []) ∧ px_at 283 73 = some (76, [], .getfield 7, [11, 0, 2, 1, 125]) ∧ px_at 283 76 = some (77, [], .aload_n 0, []) ∧ px_at 283 77 = some (79, [], .iload 4, []) ∧ px_at 283 79 = some (82, [], .invokevirtual 174, [204, 1, 11, 251]) ∧ px_at 283 82 = some (83, [], .iconst 0, []) ∧ px_at 283 83 = some (84, [], .iadd, []) ∧ px_at 283 84 = some (85, [], .iaload, []) ∧ px_at 283 85 = some (88, [], .goto 21, [106]) ∧ px_at 283 88 = some (89, [], .iload_n 2, []) ∧ px_at 283 89 = some (90, [], .iconst 1, []) ∧ px_at 283 90 = some (93, [], .if_icmp .ne 8, [98]) ∧ px_at 283 93 = some (95, [], .iload 5, []) ∧ px_at 283 95 = some (98, [], .goto 11, [106]) ∧ px_at 283 98 = some (99, [], .aload_n 0, []) ∧ px_at 283 99 = some (101, [], .iload 4, []) ∧ px_at 283 101 = some (103, [], .iload 5, []) ∧ px_at 283 103 = some (106, [], .invokevirtual 187, [207, 2, 11, 256]) ∧ px_at 283 106 = some (107, [], .ireturn, [0]) ∧ px_at 283 107 = some (108, [], .iload_n 3, []) ∧ px_at 283 108 = some (109, [], .iconst 1, []) ∧ px_at 283 109 = some (110, [], .iadd, []) ∧ px_at 283 110 = some (111, [], .istore_n 3, []) ∧ px_at 283 111 = some (114, [], .iinc 5 1, []) ∧ px_at 283 114 = some (117, [], .goto (-80), [34]) ∧ px_at 283 117 = some (120, [], .iinc 4 1, []) ∧ px_at 283 120 = some (123, [], .goto (-100), [20]) ∧ px_at 283 123 = some (124, [], .iconst (-1), []) ∧ px_at 283 124 = some (125, [], .ireturn, [0]) := ⟨rfl, rfl, rfl, rfl, rfl, rfl, rfl, rfl, rfl, rfl, rfl, rfl, rfl, rfl, rfl, rfl, rfl, rfl, rfl, rfl, rfl, rfl, rfl, rfl, rfl, rfl, rfl, rfl, rfl, rfl, rfl, rfl, rfl, rfl, rfl, rfl, rfl, rfl, rfl, rfl, rfl, rfl, rfl, rfl, rfl, rfl, rfl, rfl, rfl, rfl, rfl, rfl, rfl, rfl, rfl, rfl, rfl, rfl, rfl, rfl, rfl, rfl, rfl, rfl, rfl, rfl, rfl, rfl⟩
/-! the reference: what is touched; bytes; editions -/
theorem TE_lsC {Mc : px_mem} {pl : Int → Int → List Int} {nm : Int → List Int} {F : Int → Int} (h : TE Mc pl nm F) : lsA Mc := fun i i0 i1 => by
  have hl := TE_lsA h i0 i1
  exact ⟨hl.2.1, hl.2.2.1, fun j j0 j1 => by
    have hj := TE_ent h i0 i1 j0 j1
    exact ⟨hj.2.2.2.1, hj.2.2.2.2.1⟩⟩
noncomputable def cbJ (M : px_mem) (i j : Int) : Int := sm j (fun j => M 57 (cfC M i j))
section PS
variable {M : px_mem} {Q : Option pv → px_mem → Prop}
set_option maxHeartbeats 600000 in
set_option maxRecDepth 100000 in
theorem lp_tm2 {M0 Mc : px_mem} {i : Int} {pl : Int → Int → List Int} {nm : Int → List Int} (hT : TE Mc pl nm (M0 128)) (hi : 0 ≤ i ∧ i < Mc 20 1) (hx : ∀ M, frd M M0 → px_WP 282 0 0 (px_Q0 LAY Q) 4 [(2, 127), (0, tcN Mc (i + 1)), (0, i + 1), (9, 0)] [] LAY M 0 0) (j : Int) (hk_j : j ≤ nfC Mc i) : ∀ M, 0 ≤ j → frd M M0 → px_WP 282 0 0 (px_Q0 LAY Q) 16 [(2, 127), (0, tcN Mc i + tcJ Mc i j), (0, i), (0, j)] [] LAY M 0 0 := by
  refine up_ind (P := fun j => ∀ M, 0 ≤ j → frd M M0 → px_WP 282 0 0 (px_Q0 LAY Q) 16 [(2, 127), (0, tcN Mc i + tcJ Mc i j), (0, i), (0, j)] [] LAY M 0 0) (nfC Mc i) (fun j hk_j ih => ?_) j hk_j
  intro M j0 hf
  have e128 := frd_128 hf
  have hTM : TE Mc pl nm (M 128) := by rw [e128]; exact hT
  have hTn := TE_n hTM
  have hl := TE_lsA hTM hi.1 hi.2
  have e17 : M 128 (1294 + 186 * i + 17) = nfC Mc i := hl.1
  have hs := tcJ_s (M := Mc) (i := i) j0
  have hr := tcN_rng (TE_lsC hTM) hi.1 (show i ≤ Mc 20 1 by omega)
  have hr2 := tcJ_rng Mc i j0
  have hN := tcN_s (M := Mc) hi.1
  refine px_go_ok (inl := [204,205,206,207]) 60 ?_
  simp only [px_go, px_Q0_at, px_sx_0, px_sx_s, px_cl, px_step, ↓px_ll, px_lg, f4_, ↓px_r1, ↓px_r2, ↓px_r4, ↓px_r5, ↓px_p1, ↓px_p2, ↓px_p3, ↓px_pop, px_k_0, px_k_s, px_k3_0, px_stk_, px_cats, px_ent, px_st1, px_st2, px_mask, ↓px_tsw, ↓px_lsw, ct_, mls_0, mls_1, mls_2, mls_3, mls_4, mls_5, kd_0, kd_1, kd_2, kd_3, ln_0, ln_1, ln_2, ln_3, gf_0, gf_1, gf_2, gf_3, gf_4, gf_7, gf_21, gf_63, dy_0, dy_1, dy_2, dy_3, dy_7, dy_21, px_brT, px_brF, true_and, and_true, and_false, false_and, and_self, true_implies, false_implies, or_true, true_or, or_false, false_or, eq_self, ne_eq, not_false_eq_true, not_true_eq_false, if_true, if_false, List.mem_cons, List.not_mem_nil, List.length_cons, List.length_nil, Nat.reduceEqDiff, Nat.reduceAdd, Nat.reduceSub, Nat.reduceLeDiff, Nat.reduceLT, Int.reduceEq, Int.reduceLT, Int.reduceLE, Int.reduceNeg, Int.reduceAdd, Int.reduceSub, Int.reduceToNat, ↓reduceIte, one_ne_zero_, zero_ne_one_, px_in32L, cd_282, cd_204, cd_205, cd_206, cd_207, e17]
  repeat' (first | (with_reducible apply And.intro) | (with_reducible refine px_br_intro (fun _ => ?_) (fun _ => ?_)))
  all_goals (try (first | (unfold px_in32; omega) | omega))
  · rename_i c1
    have e : j = nfC Mc i := by omega
    rw [e, ← hN]
    exact hx M hf
  · rename_i c1
    have hj := TE_ent hTM hi.1 hi.2 j0 (show j < Mc (Mc 21 i) 2 by have : nfC Mc i = Mc (Mc 21 i) 2 := rfl; omega)
    have ec : M 128 (1294 + 186 * i + 18 + 14 * j + 13) = cfC Mc i j := hj.1.2.2
    rw [ec]
    refine sp_wholeT hTM.1 ⟨hj.2.2.2.1, hj.2.2.2.2.1, hj.2.2.2.2.2⟩ (fun M1 a1 a2 a3 a4 => ?_) (fun M1 a1 a4 => ?_)
    · simp only [px_go, px_Q0_at, px_sx_0, px_sx_s, px_cl, px_step, ↓px_ll, px_lg, f4_, ↓px_r1, ↓px_r2, ↓px_r4, ↓px_r5, ↓px_p1, ↓px_p2, ↓px_p3, ↓px_pop, px_k_0, px_k_s, px_k3_0, px_stk_, px_cats, px_ent, px_st1, px_st2, px_mask, ↓px_tsw, ↓px_lsw, ct_, mls_0, mls_1, mls_2, mls_3, mls_4, mls_5, kd_0, kd_1, kd_2, kd_3, ln_0, ln_1, ln_2, ln_3, gf_0, gf_1, gf_2, gf_3, gf_4, gf_7, gf_21, gf_63, dy_0, dy_1, dy_2, dy_3, dy_7, dy_21, px_brT, px_brF, true_and, and_true, and_false, false_and, and_self, true_implies, false_implies, or_true, true_or, or_false, false_or, eq_self, ne_eq, not_false_eq_true, not_true_eq_false, if_true, if_false, List.mem_cons, List.not_mem_nil, List.length_cons, List.length_nil, Nat.reduceEqDiff, Nat.reduceAdd, Nat.reduceSub, Nat.reduceLeDiff, Nat.reduceLT, Int.reduceEq, Int.reduceLT, Int.reduceLE, Int.reduceNeg, Int.reduceAdd, Int.reduceSub, Int.reduceToNat, ↓reduceIte, one_ne_zero_, zero_ne_one_, px_in32L, cd_282, cd_204, cd_205, cd_206, cd_207]
      repeat' (first | (with_reducible apply And.intro) | (with_reducible refine px_br_intro (fun _ => ?_) (fun _ => ?_)))
      all_goals (try (first | (unfold px_in32; omega) | omega))
      have := ih (by omega) M1 (by omega) (frd_trans a4 hf)
      rw [hs, b1_f (show ¬ Mc 105 (cfC Mc i j) = 0 from a1), Int.add_zero] at this
      exact this
    · simp only [px_go, px_Q0_at, px_sx_0, px_sx_s, px_cl, px_step, ↓px_ll, px_lg, f4_, ↓px_r1, ↓px_r2, ↓px_r4, ↓px_r5, ↓px_p1, ↓px_p2, ↓px_p3, ↓px_pop, px_k_0, px_k_s, px_k3_0, px_stk_, px_cats, px_ent, px_st1, px_st2, px_mask, ↓px_tsw, ↓px_lsw, ct_, mls_0, mls_1, mls_2, mls_3, mls_4, mls_5, kd_0, kd_1, kd_2, kd_3, ln_0, ln_1, ln_2, ln_3, gf_0, gf_1, gf_2, gf_3, gf_4, gf_7, gf_21, gf_63, dy_0, dy_1, dy_2, dy_3, dy_7, dy_21, px_brT, px_brF, true_and, and_true, and_false, false_and, and_self, true_implies, false_implies, or_true, true_or, or_false, false_or, eq_self, ne_eq, not_false_eq_true, not_true_eq_false, if_true, if_false, List.mem_cons, List.not_mem_nil, List.length_cons, List.length_nil, Nat.reduceEqDiff, Nat.reduceAdd, Nat.reduceSub, Nat.reduceLeDiff, Nat.reduceLT, Int.reduceEq, Int.reduceLT, Int.reduceLE, Int.reduceNeg, Int.reduceAdd, Int.reduceSub, Int.reduceToNat, ↓reduceIte, one_ne_zero_, zero_ne_one_, px_in32L, cd_282, cd_204, cd_205, cd_206, cd_207]
      repeat' (first | (with_reducible apply And.intro) | (with_reducible refine px_br_intro (fun _ => ?_) (fun _ => ?_)))
      all_goals (try (first | (unfold px_in32; omega) | omega))
      have := ih (by omega) M1 (by omega) (frd_trans a4 hf)
      rw [hs, b1_t (show Mc 105 (cfC Mc i j) = 0 from a1), ← Int.add_assoc] at this
      exact this
set_option maxHeartbeats 600000 in
set_option maxRecDepth 100000 in
theorem lp_tm1 {M0 Mc : px_mem} {pl : Int → Int → List Int} {nm : Int → List Int} (hT : TE Mc pl nm (M0 128)) (h : ∀ M, frd M M0 → Q (some (0, tcN Mc (Mc 20 1))) M) (i : Int) (hk_i : i ≤ Mc 20 1) : ∀ M, 0 ≤ i → frd M M0 → px_WP 282 0 0 (px_Q0 LAY Q) 4 [(2, 127), (0, tcN Mc i), (0, i), (9, 0)] [] LAY M 0 0 := by
  refine up_ind (P := fun i => ∀ M, 0 ≤ i → frd M M0 → px_WP 282 0 0 (px_Q0 LAY Q) 4 [(2, 127), (0, tcN Mc i), (0, i), (9, 0)] [] LAY M 0 0) (Mc 20 1) (fun i hk_i ih => ?_) i hk_i
  intro M i0 hf
  have e128 := frd_128 hf
  have hTM : TE Mc pl nm (M 128) := by rw [e128]; exact hT
  have hTn := TE_n hTM
  have h5 := hTn.1
  refine px_go_ok (inl := []) 60 ?_
  simp only [px_go, px_Q0_at, px_sx_0, px_sx_s, px_cl, px_step, ↓px_ll, px_lg, f4_, ↓px_r1, ↓px_r2, ↓px_r4, ↓px_r5, ↓px_p1, ↓px_p2, ↓px_p3, ↓px_pop, px_k_0, px_k_s, px_k3_0, px_stk_, px_cats, px_ent, px_st1, px_st2, px_mask, ↓px_tsw, ↓px_lsw, ct_, mls_0, mls_1, mls_2, mls_3, mls_4, mls_5, kd_0, kd_1, kd_2, kd_3, ln_0, ln_1, ln_2, ln_3, gf_0, gf_1, gf_2, gf_3, gf_4, gf_7, gf_21, gf_63, dy_0, dy_1, dy_2, dy_3, dy_7, dy_21, px_brT, px_brF, true_and, and_true, and_false, false_and, and_self, true_implies, false_implies, or_true, true_or, or_false, false_or, eq_self, ne_eq, not_false_eq_true, not_true_eq_false, if_true, if_false, List.mem_cons, List.not_mem_nil, List.length_cons, List.length_nil, Nat.reduceEqDiff, Nat.reduceAdd, Nat.reduceSub, Nat.reduceLeDiff, Nat.reduceLT, Int.reduceEq, Int.reduceLT, Int.reduceLE, Int.reduceNeg, Int.reduceAdd, Int.reduceSub, Int.reduceToNat, ↓reduceIte, one_ne_zero_, zero_ne_one_, px_in32L, cd_282, h5]
  repeat' (first | (with_reducible apply And.intro) | (with_reducible refine px_br_intro (fun _ => ?_) (fun _ => ?_)))
  all_goals (try (first | (unfold px_in32; omega) | omega))
  · rename_i c1
    rw [show i = Mc 20 1 by omega]; exact h M hf
  · rename_i c1
    have e : tcJ Mc i 0 = 0 := rfl
    have hl := TE_lsA hTM i0 (show i < Mc 20 1 by omega)
    have := lp_tm2 (Q := Q) hTM ⟨i0, by omega⟩ (fun M1 a1 => ih (by omega) M1 (by omega) (frd_trans a1 hf)) 0 hl.2.1 M (Int.le_refl 0) (frd_refl M)
    rw [e, Int.add_zero] at this
    exact this
set_option maxHeartbeats 600000 in
set_option maxRecDepth 100000 in
theorem sp_touchedMany {Mc : px_mem} {pl : Int → Int → List Int} {nm : Int → List Int} (hT : TE Mc pl nm (M 128)) (h : ∀ M', frd M' M → Q (some (0, tcN Mc (Mc 20 1))) M') : px_Ok 282 [(2, 127)] LAY M Q := by
  refine px_ok_go (inl := []) (ls0 := [(2, 127), (9, 0), (9, 0), (9, 0)]) 60 (by decide) (Nat.le_of_ble_eq_true rfl) rfl ?_
  simp only [px_go, px_Q0_at, px_sx_0, px_sx_s, px_cl, px_step, ↓px_ll, px_lg, f4_, ↓px_r1, ↓px_r2, ↓px_r4, ↓px_r5, ↓px_p1, ↓px_p2, ↓px_p3, ↓px_pop, px_k_0, px_k_s, px_k3_0, px_stk_, px_cats, px_ent, px_st1, px_st2, px_mask, ↓px_tsw, ↓px_lsw, ct_, mls_0, mls_1, mls_2, mls_3, mls_4, mls_5, kd_0, kd_1, kd_2, kd_3, ln_0, ln_1, ln_2, ln_3, gf_0, gf_1, gf_2, gf_3, gf_4, gf_7, gf_21, gf_63, dy_0, dy_1, dy_2, dy_3, dy_7, dy_21, px_brT, px_brF, true_and, and_true, and_false, false_and, and_self, true_implies, false_implies, or_true, true_or, or_false, false_or, eq_self, ne_eq, not_false_eq_true, not_true_eq_false, if_true, if_false, List.mem_cons, List.not_mem_nil, List.length_cons, List.length_nil, Nat.reduceEqDiff, Nat.reduceAdd, Nat.reduceSub, Nat.reduceLeDiff, Nat.reduceLT, Int.reduceEq, Int.reduceLT, Int.reduceLE, Int.reduceNeg, Int.reduceAdd, Int.reduceSub, Int.reduceToNat, ↓reduceIte, one_ne_zero_, zero_ne_one_, px_in32L, cd_282]
  repeat' (first | (with_reducible apply And.intro) | (with_reducible refine px_br_intro (fun _ => ?_) (fun _ => ?_)))
  all_goals (try (first | (unfold px_in32; omega) | omega))
  exact lp_tm1 hT h 0 (by have := TE_n hT; omega) M (Int.le_refl 0) (frd_refl M)
set_option maxHeartbeats 600000 in
set_option maxRecDepth 100000 in
theorem lp_rtou2 {M0 Mc : px_mem} {i k w : Int} {pl : Int → Int → List Int} {nm : Int → List Int} (hT : TE Mc pl nm (M0 128)) (hwr : 0 ≤ w ∧ w ≤ 2) (hi : 0 ≤ i ∧ i < Mc 20 1) (h : ∀ M i j, frd M M0 → touAt Mc k i j → Q (some (0, if w = 0 then Mc (Mc 21 i) 3 else if w = 1 then j else cfC Mc i j)) M) (hx : ∀ M, frd M M0 → tcN Mc (i + 1) ≤ k → px_WP 283 0 0 (px_Q0 LAY Q) 20 [(2, 127), (0, k), (0, w), (0, tcN Mc (i + 1)), (0, i + 1), (9, 0)] [] LAY M 0 0) (j : Int) (hk_j : j ≤ nfC Mc i) : ∀ M, 0 ≤ j → tcN Mc i + tcJ Mc i j ≤ k → frd M M0 → px_WP 283 0 0 (px_Q0 LAY Q) 34 [(2, 127), (0, k), (0, w), (0, tcN Mc i + tcJ Mc i j), (0, i), (0, j)] [] LAY M 0 0 := by
  refine up_ind (P := fun j => ∀ M, 0 ≤ j → tcN Mc i + tcJ Mc i j ≤ k → frd M M0 → px_WP 283 0 0 (px_Q0 LAY Q) 34 [(2, 127), (0, k), (0, w), (0, tcN Mc i + tcJ Mc i j), (0, i), (0, j)] [] LAY M 0 0) (nfC Mc i) (fun j hk_j ih => ?_) j hk_j
  intro M j0 hle hf
  have e128 := frd_128 hf
  have hTM : TE Mc pl nm (M 128) := by rw [e128]; exact hT
  have hTn := TE_n hTM
  have hl := TE_lsA hTM hi.1 hi.2
  have e17 : M 128 (1294 + 186 * i + 17) = nfC Mc i := hl.1
  have hs := tcJ_s (M := Mc) (i := i) j0
  have hr := tcN_rng (TE_lsC hTM) hi.1 (show i ≤ Mc 20 1 by omega)
  have hr2 := tcJ_rng Mc i j0
  have hN := tcN_s (M := Mc) hi.1
  refine px_go_ok (inl := [204,205,206,207]) 60 ?_
  simp only [px_go, px_Q0_at, px_sx_0, px_sx_s, px_cl, px_step, ↓px_ll, px_lg, f4_, ↓px_r1, ↓px_r2, ↓px_r4, ↓px_r5, ↓px_p1, ↓px_p2, ↓px_p3, ↓px_pop, px_k_0, px_k_s, px_k3_0, px_stk_, px_cats, px_ent, px_st1, px_st2, px_mask, ↓px_tsw, ↓px_lsw, ct_, mls_0, mls_1, mls_2, mls_3, mls_4, mls_5, kd_0, kd_1, kd_2, kd_3, ln_0, ln_1, ln_2, ln_3, gf_0, gf_1, gf_2, gf_3, gf_4, gf_7, gf_21, gf_63, dy_0, dy_1, dy_2, dy_3, dy_7, dy_21, px_brT, px_brF, true_and, and_true, and_false, false_and, and_self, true_implies, false_implies, or_true, true_or, or_false, false_or, eq_self, ne_eq, not_false_eq_true, not_true_eq_false, if_true, if_false, List.mem_cons, List.not_mem_nil, List.length_cons, List.length_nil, Nat.reduceEqDiff, Nat.reduceAdd, Nat.reduceSub, Nat.reduceLeDiff, Nat.reduceLT, Int.reduceEq, Int.reduceLT, Int.reduceLE, Int.reduceNeg, Int.reduceAdd, Int.reduceSub, Int.reduceToNat, ↓reduceIte, one_ne_zero_, zero_ne_one_, px_in32L, cd_283, cd_204, cd_205, cd_206, cd_207, e17]
  repeat' (first | (with_reducible apply And.intro) | (with_reducible refine px_br_intro (fun _ => ?_) (fun _ => ?_)))
  all_goals (try (first | (unfold px_in32; omega) | omega))
  · rename_i c1
    have e : j = nfC Mc i := by omega
    rw [e, ← hN] at hle ⊢
    exact hx M hf hle
  · rename_i c1
    have hj := TE_ent hTM hi.1 hi.2 j0 (show j < Mc (Mc 21 i) 2 by have : nfC Mc i = Mc (Mc 21 i) 2 := rfl; omega)
    have ec : M 128 (1294 + 186 * i + 18 + 14 * j + 13) = cfC Mc i j := hj.1.2.2
    have e0 : M 128 (1294 + 186 * i + 0) = Mc (Mc 21 i) 3 := (TE_e hTM hi.1 hi.2).1
    rw [ec]
    refine sp_wholeT hTM.1 ⟨hj.2.2.2.1, hj.2.2.2.2.1, hj.2.2.2.2.2⟩ (fun M1 a1 a2 a3 a4 => ?_) (fun M1 a1 a4 => ?_)
    · simp only [px_go, px_Q0_at, px_sx_0, px_sx_s, px_cl, px_step, ↓px_ll, px_lg, f4_, ↓px_r1, ↓px_r2, ↓px_r4, ↓px_r5, ↓px_p1, ↓px_p2, ↓px_p3, ↓px_pop, px_k_0, px_k_s, px_k3_0, px_stk_, px_cats, px_ent, px_st1, px_st2, px_mask, ↓px_tsw, ↓px_lsw, ct_, mls_0, mls_1, mls_2, mls_3, mls_4, mls_5, kd_0, kd_1, kd_2, kd_3, ln_0, ln_1, ln_2, ln_3, gf_0, gf_1, gf_2, gf_3, gf_4, gf_7, gf_21, gf_63, dy_0, dy_1, dy_2, dy_3, dy_7, dy_21, px_brT, px_brF, true_and, and_true, and_false, false_and, and_self, true_implies, false_implies, or_true, true_or, or_false, false_or, eq_self, ne_eq, not_false_eq_true, not_true_eq_false, if_true, if_false, List.mem_cons, List.not_mem_nil, List.length_cons, List.length_nil, Nat.reduceEqDiff, Nat.reduceAdd, Nat.reduceSub, Nat.reduceLeDiff, Nat.reduceLT, Int.reduceEq, Int.reduceLT, Int.reduceLE, Int.reduceNeg, Int.reduceAdd, Int.reduceSub, Int.reduceToNat, ↓reduceIte, one_ne_zero_, zero_ne_one_, px_in32L, cd_283, cd_204, cd_205, cd_206, cd_207]
      repeat' (first | (with_reducible apply And.intro) | (with_reducible refine px_br_intro (fun _ => ?_) (fun _ => ?_)))
      all_goals (try (first | (unfold px_in32; omega) | omega))
      have := ih (by omega) M1 (by omega)
      rw [hs, b1_f (show ¬ Mc 105 (cfC Mc i j) = 0 from a1), Int.add_zero] at this
      exact this hle (frd_trans a4 hf)
    · have e1 := frd_128 a4
      have hh := h M1 i j (frd_trans a4 hf)
      have ec1 : M1 128 (1294 + 186 * i + 18 + 14 * j + 13) = cfC Mc i j := by rw [e1]; exact ec
      have e01 : M1 128 (1294 + 186 * i + 0) = Mc (Mc 21 i) 3 := by rw [e1]; exact e0
      simp only [px_go, px_Q0_at, px_sx_0, px_sx_s, px_cl, px_step, ↓px_ll, px_lg, f4_, ↓px_r1, ↓px_r2, ↓px_r4, ↓px_r5, ↓px_p1, ↓px_p2, ↓px_p3, ↓px_pop, px_k_0, px_k_s, px_k3_0, px_stk_, px_cats, px_ent, px_st1, px_st2, px_mask, ↓px_tsw, ↓px_lsw, ct_, mls_0, mls_1, mls_2, mls_3, mls_4, mls_5, kd_0, kd_1, kd_2, kd_3, ln_0, ln_1, ln_2, ln_3, gf_0, gf_1, gf_2, gf_3, gf_4, gf_7, gf_21, gf_63, dy_0, dy_1, dy_2, dy_3, dy_7, dy_21, px_brT, px_brF, true_and, and_true, and_false, false_and, and_self, true_implies, false_implies, or_true, true_or, or_false, false_or, eq_self, ne_eq, not_false_eq_true, not_true_eq_false, if_true, if_false, List.mem_cons, List.not_mem_nil, List.length_cons, List.length_nil, Nat.reduceEqDiff, Nat.reduceAdd, Nat.reduceSub, Nat.reduceLeDiff, Nat.reduceLT, Int.reduceEq, Int.reduceLT, Int.reduceLE, Int.reduceNeg, Int.reduceAdd, Int.reduceSub, Int.reduceToNat, ↓reduceIte, one_ne_zero_, zero_ne_one_, px_in32L, cd_283, cd_204, cd_205, cd_206, cd_207, ec1, e01]
      repeat' (first | (with_reducible apply And.intro) | (with_reducible refine px_br_intro (fun _ => ?_) (fun _ => ?_)))
      all_goals (try (first | (unfold px_in32; omega) | omega))
      · rename_i c2 c3
        have hh := hh ⟨hi.1, hi.2, j0, by omega, a1, c2⟩
        rw [if_pos c3] at hh
        exact hh
      · rename_i c2 c3 c4
        have hh := hh ⟨hi.1, hi.2, j0, by omega, a1, c2⟩
        rw [if_neg c3, if_pos c4] at hh
        exact hh
      · rename_i c2 c3 c4
        have hh := hh ⟨hi.1, hi.2, j0, by omega, a1, c2⟩
        rw [if_neg c3, if_neg c4] at hh
        exact hh
      · have := ih (by omega) M1 (by omega)
        rw [hs, b1_t (show Mc 105 (cfC Mc i j) = 0 from a1), ← Int.add_assoc] at this
        exact this (by omega) (frd_trans a4 hf)
set_option maxHeartbeats 600000 in
set_option maxRecDepth 100000 in
theorem lp_rtou1 {M0 Mc : px_mem} {k w : Int} {pl : Int → Int → List Int} {nm : Int → List Int} (hT : TE Mc pl nm (M0 128)) (hwr : 0 ≤ w ∧ w ≤ 2) (h : ∀ M i j, frd M M0 → touAt Mc k i j → Q (some (0, if w = 0 then Mc (Mc 21 i) 3 else if w = 1 then j else cfC Mc i j)) M) (h0 : ∀ M, frd M M0 → tcN Mc (Mc 20 1) ≤ k → Q (some (0, -1)) M) (i : Int) (hk_i : i ≤ Mc 20 1) : ∀ M, 0 ≤ i → tcN Mc i ≤ k → frd M M0 → px_WP 283 0 0 (px_Q0 LAY Q) 20 [(2, 127), (0, k), (0, w), (0, tcN Mc i), (0, i), (9, 0)] [] LAY M 0 0 := by
  refine up_ind (P := fun i => ∀ M, 0 ≤ i → tcN Mc i ≤ k → frd M M0 → px_WP 283 0 0 (px_Q0 LAY Q) 20 [(2, 127), (0, k), (0, w), (0, tcN Mc i), (0, i), (9, 0)] [] LAY M 0 0) (Mc 20 1) (fun i hk_i ih => ?_) i hk_i
  intro M i0 hle hf
  have e128 := frd_128 hf
  have hTM : TE Mc pl nm (M 128) := by rw [e128]; exact hT
  have hTn := TE_n hTM
  have h5 := hTn.1
  refine px_go_ok (inl := []) 60 ?_
  simp only [px_go, px_Q0_at, px_sx_0, px_sx_s, px_cl, px_step, ↓px_ll, px_lg, f4_, ↓px_r1, ↓px_r2, ↓px_r4, ↓px_r5, ↓px_p1, ↓px_p2, ↓px_p3, ↓px_pop, px_k_0, px_k_s, px_k3_0, px_stk_, px_cats, px_ent, px_st1, px_st2, px_mask, ↓px_tsw, ↓px_lsw, ct_, mls_0, mls_1, mls_2, mls_3, mls_4, mls_5, kd_0, kd_1, kd_2, kd_3, ln_0, ln_1, ln_2, ln_3, gf_0, gf_1, gf_2, gf_3, gf_4, gf_7, gf_21, gf_63, dy_0, dy_1, dy_2, dy_3, dy_7, dy_21, px_brT, px_brF, true_and, and_true, and_false, false_and, and_self, true_implies, false_implies, or_true, true_or, or_false, false_or, eq_self, ne_eq, not_false_eq_true, not_true_eq_false, if_true, if_false, List.mem_cons, List.not_mem_nil, List.length_cons, List.length_nil, Nat.reduceEqDiff, Nat.reduceAdd, Nat.reduceSub, Nat.reduceLeDiff, Nat.reduceLT, Int.reduceEq, Int.reduceLT, Int.reduceLE, Int.reduceNeg, Int.reduceAdd, Int.reduceSub, Int.reduceToNat, ↓reduceIte, one_ne_zero_, zero_ne_one_, px_in32L, cd_283, h5]
  repeat' (first | (with_reducible apply And.intro) | (with_reducible refine px_br_intro (fun _ => ?_) (fun _ => ?_)))
  all_goals (try (first | (unfold px_in32; omega) | omega))
  · rename_i c1
    rw [show i = Mc 20 1 by omega] at hle
    exact h0 M hf hle
  · rename_i c1
    have e : tcJ Mc i 0 = 0 := rfl
    have hl := TE_lsA hTM i0 (show i < Mc 20 1 by omega)
    have := lp_rtou2 (Q := Q) hT hwr ⟨i0, by omega⟩ h (fun M1 a1 q => ih (by omega) M1 (by omega) q a1) 0 hl.2.1 M (Int.le_refl 0) (by rw [e]; omega) hf
    rw [e, Int.add_zero] at this
    exact this
set_option maxHeartbeats 600000 in
set_option maxRecDepth 100000 in
theorem sp_rtouched {Mc : px_mem} {k w : Int} {pl : Int → Int → List Int} {nm : Int → List Int} (hT : TE Mc pl nm (M 128)) (hb : ¬ (0 ≤ k ∧ 0 ≤ w ∧ w ≤ 2) → Q (some (0, -1)) M) (h : ∀ M' i j, (0 ≤ k ∧ 0 ≤ w ∧ w ≤ 2) → frd M' M → touAt Mc k i j → Q (some (0, if w = 0 then Mc (Mc 21 i) 3 else if w = 1 then j else cfC Mc i j)) M') (h0 : ∀ M', (0 ≤ k ∧ 0 ≤ w ∧ w ≤ 2) → frd M' M → tcN Mc (Mc 20 1) ≤ k → Q (some (0, -1)) M') : px_Ok 283 [(2, 127), (0, k), (0, w)] LAY M Q := by
  refine px_ok_go (inl := [170]) (ls0 := [(2, 127), (0, k), (0, w), (9, 0), (9, 0), (9, 0)]) 60 (by decide) (Nat.le_of_ble_eq_true rfl) rfl ?_
  simp only [px_go, px_Q0_at, px_sx_0, px_sx_s, px_cl, px_step, ↓px_ll, px_lg, f4_, ↓px_r1, ↓px_r2, ↓px_r4, ↓px_r5, ↓px_p1, ↓px_p2, ↓px_p3, ↓px_pop, px_k_0, px_k_s, px_k3_0, px_stk_, px_cats, px_ent, px_st1, px_st2, px_mask, ↓px_tsw, ↓px_lsw, ct_, mls_0, mls_1, mls_2, mls_3, mls_4, mls_5, kd_0, kd_1, kd_2, kd_3, ln_0, ln_1, ln_2, ln_3, gf_0, gf_1, gf_2, gf_3, gf_4, gf_7, gf_21, gf_63, dy_0, dy_1, dy_2, dy_3, dy_7, dy_21, px_brT, px_brF, true_and, and_true, and_false, false_and, and_self, true_implies, false_implies, or_true, true_or, or_false, false_or, eq_self, ne_eq, not_false_eq_true, not_true_eq_false, if_true, if_false, List.mem_cons, List.not_mem_nil, List.length_cons, List.length_nil, Nat.reduceEqDiff, Nat.reduceAdd, Nat.reduceSub, Nat.reduceLeDiff, Nat.reduceLT, Int.reduceEq, Int.reduceLT, Int.reduceLE, Int.reduceNeg, Int.reduceAdd, Int.reduceSub, Int.reduceToNat, ↓reduceIte, one_ne_zero_, zero_ne_one_, px_in32L, cd_283, cd_170]
  repeat' (first | (with_reducible apply And.intro) | (with_reducible refine px_br_intro (fun _ => ?_) (fun _ => ?_)))
  all_goals (try (first | (unfold px_in32; omega) | omega))
  all_goals (try exact hb (by omega))
  have hw : 0 ≤ k ∧ 0 ≤ w ∧ w ≤ 2 := by omega
  exact lp_rtou1 hT hw.2 (fun M' i j a1 a2 => h M' i j hw a1 a2) (fun M' a1 a2 => h0 M' hw a1 a2) 0 (by have := TE_n hT; omega) M (Int.le_refl 0) hw.1 (frd_refl M)
end PS
