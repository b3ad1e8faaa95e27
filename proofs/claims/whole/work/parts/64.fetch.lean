set_option maxRecDepth 100000 in
/-- X11_fetch -/
theorem cd_146 : px_at 146 0 = some (1, [], .aload_n 0, []) ∧ px_at 146 1 = some (4, [], .getfield 10, [10, 0, 2, 1, 114]) ∧ px_at 146 4 = some (5, [], .iload_n 2, []) ∧ px_at 146 5 = some (8, [], .invokevirtual 85, [102, 1, 8, 26]) ∧ px_at 146 8 = some (11, [], .ifCond .ne 5, [13]) ∧ px_at 146 11 = some (12, [], .iconst (-1), []) ∧ px_at 146 12 = some (13, [], .ireturn, [0]) ∧ px_at 146 13 = some (14, [], .aload_n 0, []) ∧ px_at 146 14 = some (17, [], .getfield 10, [10, 0, 2, 1, 114]) ∧ px_at 146 17 = some (18, [], .iconst 0, []) ∧ px_at 146 18 = some (19, [], .iload_n 2, []) ∧ px_at 146 19 = some (22, [], .invokevirtual 92, [103, 2, 8, 29]) ∧ px_at 146 22 = some (23, [], .lstore_n 3, []) ∧ px_at 146 23 = some (24, [], .aload_n 0, []) ∧ px_at 146 24 = some (27, [], .getfield 10, [10, 0, 2, 1, 114]) ∧ px_at 146 27 = some (30, [], .invokevirtual 103, [100, 0, 8, 45]) ∧ px_at 146 30 = some (31, [], .aload_n 0, []) ∧ px_at 146 31 = some (34, [], .getfield 26, [10, 2, 2, 1, 116]) ∧ px_at 146 34 = some (35, [], .iload_n 1, []) ∧ px_at 146 35 = some (38, [], .invokevirtual 162, [47, 1, 3, 61]) ∧ px_at 146 38 = some (40, [], .astore 5, []) ∧ px_at 146 40 = some (42, [], .aload 5, []) ∧ px_at 146 42 = some (45, [], .ifnonnull 6, [48]) ∧ px_at 146 45 = some (47, [], .bipush (-2), []) ∧ px_at 146 47 = some (48, [], .ireturn, [0]) ∧ px_at 146 48 = some (50, [], .aload 5, []) ∧ px_at 146 50 = some (51, [], .lload_n 3, []) ∧ px_at 146 51 = some (54, [], .invokevirtual 327, [39, 1, 2, 155]) ∧ px_at 146 54 = some (56, [], .istore 6, []) ∧ px_at 146 56 = some (57, [], .lload_n 3, []) ∧ px_at 146 57 = some (58, [], .lconst 0, []) ∧ px_at 146 58 = some (59, [], .lcmp, []) ∧ px_at 146 59 = some (62, [], .ifCond .eq 8, [67]) ∧ px_at 146 62 = some (64, [], .iload 6, []) ∧ px_at 146 64 = some (67, [], .ifCond .ne 6, [70]) ∧ px_at 146 67 = some (69, [], .bipush (-3), []) ∧ px_at 146 69 = some (70, [], .ireturn, [0]) ∧ px_at 146 70 = some (71, [], .aload_n 0, []) ∧ px_at 146 71 = some (73, [], .aload 5, []) ∧ px_at 146 73 = some (74, [], .lload_n 3, []) ∧ px_at 146 74 = some (77, [], .invokevirtual 328, [147, 2, 10, 157]) ∧ px_at 146 77 = some (80, [], .ifCond .ne 6, [83]) ∧ px_at 146 80 = some (82, [], .bipush (-4), []) ∧ px_at 146 82 = some (83, [], .ireturn, [0]) ∧ px_at 146 83 = some (84, [], .aload_n 0, []) ∧ px_at 146 84 = some (87, [], .getfield 19, [10, 1, 2, 1, 115]) ∧ px_at 146 87 = some (90, [], .getfield 129, [7, 3, 0, 0, 13]) ∧ px_at 146 90 = some (91, [], .aload_n 0, []) ∧ px_at 146 91 = some (94, [], .getfield 19, [10, 1, 2, 1, 115]) ∧ px_at 146 94 = some (95, [], .lload_n 3, []) ∧ px_at 146 95 = some (98, [], .invokevirtual 118, [86, 1, 7, 51]) ∧ px_at 146 98 = some (99, [], .isub, []) ∧ px_at 146 99 = some (101, [], .istore 7, []) ∧ px_at 146 101 = some (103, [], .iload 7, []) ∧ px_at 146 103 = some (105, [], .iload 6, []) ∧ px_at 146 105 = some (106, [], .iadd, []) ∧ px_at 146 106 = some (108, [], .bipush 12, []) ∧ px_at 146 108 = some (111, [], .if_icmp .gt 13, [121]) ∧ px_at 146 111 = some (112, [], .aload_n 0, []) ∧ px_at 146 112 = some (114, [], .aload 5, []) ∧ px_at 146 114 = some (115, [], .lload_n 3, []) ∧ px_at 146 115 = some (118, [], .invokevirtual 332, [148, 2, 10, 159]) ∧ px_at 146 118 = some (121, [], .ifCond .eq 6, [124]) ∧ px_at 146 121 = some (123, [], .bipush (-5), []) ∧ px_at 146 123 = some (124, [], .ireturn, [0]) ∧ px_at 146 124 = some (125, [], .aload_n 0, []) ∧ px_at 146 125 = some (128, [], .getfield 19, [10, 1, 2, 1, 115]) ∧ px_at 146 128 = some (129, [], .lload_n 3, []) ∧ px_at 146 129 = some (132, [], .invokevirtual 106, [93, 1, 7, 47]) ∧ px_at 146 132 = some (133, [], .pop, []) ∧ px_at 146 133 = some (134, [], .iconst 0, []) ∧ px_at 146 134 = some (136, [], .istore 8, []) ∧ px_at 146 136 = some (138, [1, 0, 0, 1, 0, 1, 1, 0, 1, 0], .iload 8, []) ∧ px_at 146 138 = some (140, [], .aload 5, []) ∧ px_at 146 140 = some (143, [], .getfield 166, [2, 2, 0, 0, 33]) ∧ px_at 146 143 = some (146, [], .if_icmp .ge 70, [213]) ∧ px_at 146 146 = some (148, [], .aload 5, []) ∧ px_at 146 148 = some (151, [], .getfield 171, [2, 0, 2, 1, 23]) ∧ px_at 146 151 = some (153, [], .iload 8, []) ∧ px_at 146 153 = some (154, [], .laload, []) ∧ px_at 146 154 = some (155, [], .lload_n 3, []) ∧ px_at 146 155 = some (158, [], .invokestatic 335, [66, 2, 0, 158]) ∧ px_at 146 158 = some (161, [], .ifCond .eq 49, [207]) ∧ px_at 146 161 = some (163, [], .aload 5, []) ∧ px_at 146 163 = some (166, [], .getfield 169, [2, 1, 2, 1, 28]) ∧ px_at 146 166 = some (168, [], .iload 8, []) ∧ px_at 146 168 = some (169, [], .iaload, []) ∧ px_at 146 169 = some (171, [], .istore 9, []) ∧ px_at 146 171 = some (172, [], .aload_n 0, []) ∧ px_at 146 172 = some (175, [], .getfield 19, [10, 1, 2, 1, 115]) ∧ px_at 146 175 = some (177, [], .aload 5, []) ∧ px_at 146 177 = some (180, [], .getfield 171, [2, 0, 2, 1, 23]) ∧ px_at 146 180 = some (182, [], .iload 8, []) ∧ px_at 146 182 = some (183, [], .laload, []) ∧ px_at 146 183 = some (184, [], .aload_n 0, []) ∧ px_at 146 184 = some (187, [], .getfield 42, [10, 4, 2, 1, 118]) ∧ px_at 146 187 = some (190, [], .getfield 315, [1, 6, 2, 1, 80]) ∧ px_at 146 190 = some (192, [], .iload 9, []) ∧ px_at 146 192 = some (193, [], .aaload, []) ∧ px_at 146 193 = some (194, [], .iconst 0, []) ∧ px_at 146 194 = some (195, [], .aload_n 0, []) ∧ px_at 146 195 = some (198, [], .getfield 42, [10, 4, 2, 1, 118]) ∧ px_at 146 198 = some (201, [], .getfield 318, [1, 0, 2, 1, 68]) ∧ px_at 146 201 = some (203, [], .iload 9, []) ∧ px_at 146 203 = some (204, [], .iaload, []) ∧ px_at 146 204 = some (207, [], .invokevirtual 339, [89, 4, 7, 161]) ∧ px_at 146 207 = some (210, [], .iinc 8 1, []) ∧ px_at 146 210 = some (213, [], .goto (-74), [136]) ∧ px_at 146 213 = some (214, [], .aload_n 0, []) ∧ px_at 146 214 = some (217, [], .getfield 19, [10, 1, 2, 1, 115]) ∧ px_at 146 217 = some (220, [], .invokevirtual 342, [91, 0, 7, 162]) ∧ px_at 146 220 = some (222, [], .iload 6, []) ∧ px_at 146 222 = some (223, [], .ireturn, [0]) := ⟨rfl, rfl, rfl, rfl, rfl, rfl, rfl, rfl, rfl, rfl, rfl, rfl, rfl, rfl, rfl, rfl, rfl, rfl, rfl, rfl, rfl, rfl, rfl, rfl, rfl, rfl, rfl, rfl, rfl, rfl, rfl, rfl, rfl, rfl, rfl, rfl, rfl, rfl, rfl, rfl, rfl, rfl, rfl, rfl, rfl, rfl, rfl, rfl, rfl, rfl, rfl, rfl, rfl, rfl, rfl, rfl, rfl, rfl, rfl, rfl, rfl, rfl, rfl, rfl, rfl, rfl, rfl, rfl, rfl, rfl, rfl, rfl, rfl, rfl, rfl, rfl, rfl, rfl, rfl, rfl, rfl, rfl, rfl, rfl, rfl, rfl, rfl, rfl, rfl, rfl, rfl, rfl, rfl, rfl, rfl, rfl, rfl, rfl, rfl, rfl, rfl, rfl, rfl, rfl, rfl, rfl, rfl, rfl, rfl, rfl, rfl, rfl, rfl⟩
set_option maxRecDepth 100000 in
/-- X11_areWholeWithin -/
theorem cd_147 : px_at 147 0 = some (1, [], .iconst 0, []) ∧ px_at 147 1 = some (3, [], .istore 4, []) ∧ px_at 147 3 = some (5, [1, 1, 1, 0, 1], .iload 4, []) ∧ px_at 147 5 = some (6, [], .aload_n 1, []) ∧ px_at 147 6 = some (9, [], .getfield 166, [2, 2, 0, 0, 33]) ∧ px_at 147 9 = some (12, [], .if_icmp .ge 43, [52]) ∧ px_at 147 12 = some (13, [], .aload_n 1, []) ∧ px_at 147 13 = some (16, [], .getfield 171, [2, 0, 2, 1, 23]) ∧ px_at 147 16 = some (18, [], .iload 4, []) ∧ px_at 147 18 = some (19, [], .laload, []) ∧ px_at 147 19 = some (20, [], .lload_n 2, []) ∧ px_at 147 20 = some (23, [], .invokestatic 335, [66, 2, 0, 158]) ∧ px_at 147 23 = some (26, [], .ifCond .eq 23, [46]) ∧ px_at 147 26 = some (27, [], .aload_n 0, []) ∧ px_at 147 27 = some (30, [], .getfield 42, [10, 4, 2, 1, 118]) ∧ px_at 147 30 = some (33, [], .getfield 176, [1, 8, 2, 1, 84]) ∧ px_at 147 33 = some (34, [], .aload_n 1, []) ∧ px_at 147 34 = some (37, [], .getfield 169, [2, 1, 2, 1, 28]) ∧ px_at 147 37 = some (39, [], .iload 4, []) ∧ px_at 147 39 = some (40, [], .iaload, []) ∧ px_at 147 40 = some (41, [], .baload, []) ∧ px_at 147 41 = some (44, [], .ifCond .ne 5, [46]) ∧ px_at 147 44 = some (45, [], .iconst 0, []) ∧ px_at 147 45 = some (46, [], .ireturn, [4]) ∧ px_at 147 46 = some (49, [], .iinc 4 1, []) ∧ px_at 147 49 = some (52, [], .goto (-46), [3]) ∧ px_at 147 52 = some (53, [], .iconst 1, []) ∧ px_at 147 53 = some (54, [], .ireturn, [4]) := ⟨rfl, rfl, rfl, rfl, rfl, rfl, rfl, rfl, rfl, rfl, rfl, rfl, rfl, rfl, rfl, rfl, rfl, rfl, rfl, rfl, rfl, rfl, rfl, rfl, rfl, rfl, rfl, rfl⟩
set_option maxRecDepth 100000 in
/-- X11_areInTheWay -/
theorem cd_148 : px_at 148 0 = some (1, [], .iconst 0, []) ∧ px_at 148 1 = some (3, [], .istore 4, []) ∧ px_at 148 3 = some (5, [1, 1, 1, 0, 1], .iload 4, []) ∧ px_at 148 5 = some (6, [], .aload_n 1, []) ∧ px_at 148 6 = some (9, [], .getfield 166, [2, 2, 0, 0, 33]) ∧ px_at 148 9 = some (12, [], .if_icmp .ge 43, [52]) ∧ px_at 148 12 = some (13, [], .aload_n 1, []) ∧ px_at 148 13 = some (16, [], .getfield 171, [2, 0, 2, 1, 23]) ∧ px_at 148 16 = some (18, [], .iload 4, []) ∧ px_at 148 18 = some (19, [], .laload, []) ∧ px_at 148 19 = some (20, [], .lload_n 2, []) ∧ px_at 148 20 = some (23, [], .invokestatic 335, [66, 2, 0, 158]) ∧ px_at 148 23 = some (26, [], .ifCond .eq 23, [46]) ∧ px_at 148 26 = some (27, [], .aload_n 0, []) ∧ px_at 148 27 = some (30, [], .getfield 19, [10, 1, 2, 1, 115]) ∧ px_at 148 30 = some (31, [], .aload_n 1, []) ∧ px_at 148 31 = some (34, [], .getfield 171, [2, 0, 2, 1, 23]) ∧ px_at 148 34 = some (36, [], .iload 4, []) ∧ px_at 148 36 = some (37, [], .laload, []) ∧ px_at 148 37 = some (38, [], .lload_n 2, []) ∧ px_at 148 38 = some (41, [], .invokevirtual 345, [87, 2, 7, 160]) ∧ px_at 148 41 = some (44, [], .ifCond .eq 5, [46]) ∧ px_at 148 44 = some (45, [], .iconst 1, []) ∧ px_at 148 45 = some (46, [], .ireturn, [4]) ∧ px_at 148 46 = some (49, [], .iinc 4 1, []) ∧ px_at 148 49 = some (52, [], .goto (-46), [3]) ∧ px_at 148 52 = some (53, [], .iconst 0, []) ∧ px_at 148 53 = some (54, [], .ireturn, [4]) := ⟨rfl, rfl, rfl, rfl, rfl, rfl, rfl, rfl, rfl, rfl, rfl, rfl, rfl, rfl, rfl, rfl, rfl, rfl, rfl, rfl, rfl, rfl, rfl, rfl, rfl, rfl, rfl, rfl⟩
/-! EditionVault: fetch, weigh, like -/
theorem b1_sum_ex {n : Int} {p : Int → Prop} (hn : 0 ≤ n) : sm n (fun j => b1 (p j)) = 0 ↔ ∀ j, 0 ≤ j → j < n → ¬ p j := by
  constructor
  · intro h j j0 j1 q
    have h1 := sm_mono (f := fun j => b1 (p j)) (n := n) (fun j _ _ => (b1_rng _).1) (i := j + 1) (by omega) (by omega)
    have h2 := sm_0le (n := j) (f := fun j => b1 (p j)) (fun j _ _ => (b1_rng _).1)
    rw [sm_s j0, b1_t q] at h1
    omega
  · intro h
    have e : sm n (fun j => b1 (p j)) = sm n (fun _ => 0) := sm_congr (fun j j0 j1 => b1_f (h j j0 j1))
    rw [e, sm_const n 0 hn, Int.mul_zero]
section PS
variable {M : px_mem} {Q : Option pv → px_mem → Prop}
set_option maxHeartbeats 600000 in
set_option maxRecDepth 100000 in
theorem lp_wholeW {e : Int} {pl : Int → List Int} {t : List Int} (he : isE e) (hls : lsC M e pl) (ht : okp t) (h1 : (∀ j, 0 ≤ j → j < M e 2 → wi (pl j) t → M 105 (M (e + 2) j) ≠ 0) → Q (some (0, 1)) M) (h0 : ¬ (∀ j, 0 ≤ j → j < M e 2 → wi (pl j) t → M 105 (M (e + 2) j) ≠ 0) → Q (some (0, 0)) M) (k : Int) (hk_k : k ≤ M e 2) : 0 ≤ k → (∀ j, 0 ≤ j → j < k → wi (pl j) t → M 105 (M (e + 2) j) ≠ 0) → px_WP 147 0 0 (px_Q0 LAY Q) 3 [(2, 1), (2, e), (1, enc t), (9, 0), (0, k)] [] LAY M 0 0 := by
  refine up_ind (P := fun k => 0 ≤ k → (∀ j, 0 ≤ j → j < k → wi (pl j) t → M 105 (M (e + 2) j) ≠ 0) → px_WP 147 0 0 (px_Q0 LAY Q) 3 [(2, 1), (2, e), (1, enc t), (9, 0), (0, k)] [] LAY M 0 0) (M e 2) (fun k hk_k ih => ?_) k hk_k
  intro k0 hl
  have hel := isE_lay he
  have heg := isE_gf he
  have hn := hls.2.1
  have hcj := fun q => (hls.2.2 k k0 q).2.2
  have hnx : (wi (pl k) t → M 105 (M (e + 2) k) ≠ 0) → ∀ j, 0 ≤ j → j < k + 1 → wi (pl j) t → M 105 (M (e + 2) j) ≠ 0 := fun z j j0 j1 => by
    by_cases q : j = k
    · rw [q]; exact z
    · exact hl j j0 (by omega)
  refine px_go_ok (inl := []) 60 ?_
  simp only [px_go, px_Q0_at, px_sx_0, px_sx_s, px_cl, px_step, ↓px_ll, px_lg, f4_, ↓px_r1, ↓px_r2, ↓px_r4, ↓px_r5, ↓px_p1, ↓px_p2, ↓px_p3, ↓px_pop, px_k_0, px_k_s, px_k3_0, px_stk_, px_cats, px_ent, px_st1, px_st2, px_mask, ↓px_tsw, ↓px_lsw, ct_, mls_0, mls_1, mls_2, mls_3, mls_4, mls_5, kd_0, kd_1, kd_2, kd_3, ln_0, ln_1, ln_2, ln_3, gf_0, gf_1, gf_2, gf_3, gf_4, gf_7, gf_21, gf_63, dy_0, dy_1, dy_2, dy_3, dy_7, dy_21, px_brT, px_brF, true_and, and_true, and_false, false_and, and_self, true_implies, false_implies, or_true, true_or, or_false, false_or, eq_self, ne_eq, not_false_eq_true, not_true_eq_false, if_true, if_false, List.mem_cons, List.not_mem_nil, List.length_cons, List.length_nil, Nat.reduceEqDiff, Nat.reduceAdd, Nat.reduceSub, Nat.reduceLeDiff, Nat.reduceLT, Int.reduceEq, Int.reduceLT, Int.reduceLE, Int.reduceNeg, Int.reduceAdd, Int.reduceSub, Int.reduceToNat, ↓reduceIte, one_ne_zero_, zero_ne_one_, px_in32L, cd_147, hel, heg]
  repeat' (first | (with_reducible apply And.intro) | (with_reducible refine px_br_intro (fun _ => ?_) (fun _ => ?_)))
  all_goals (try (first | (unfold px_in32; omega) | omega))
  · rename_i c1
    exact h1 (fun j j0 j1 => hl j j0 (by omega))
  · rename_i c1
    have hj := hls.2.2 k k0 (by omega)
    rw [hj.2.1]
    refine sp_isWithin hj.1 ht (fun w => ?_) (fun w => ?_)
    · simp only [px_go, px_Q0_at, px_sx_0, px_sx_s, px_cl, px_step, ↓px_ll, px_lg, f4_, ↓px_r1, ↓px_r2, ↓px_r4, ↓px_r5, ↓px_p1, ↓px_p2, ↓px_p3, ↓px_pop, px_k_0, px_k_s, px_k3_0, px_stk_, px_cats, px_ent, px_st1, px_st2, px_mask, ↓px_tsw, ↓px_lsw, ct_, mls_0, mls_1, mls_2, mls_3, mls_4, mls_5, kd_0, kd_1, kd_2, kd_3, ln_0, ln_1, ln_2, ln_3, gf_0, gf_1, gf_2, gf_3, gf_4, gf_7, gf_21, gf_63, dy_0, dy_1, dy_2, dy_3, dy_7, dy_21, px_brT, px_brF, true_and, and_true, and_false, false_and, and_self, true_implies, false_implies, or_true, true_or, or_false, false_or, eq_self, ne_eq, not_false_eq_true, not_true_eq_false, if_true, if_false, List.mem_cons, List.not_mem_nil, List.length_cons, List.length_nil, Nat.reduceEqDiff, Nat.reduceAdd, Nat.reduceSub, Nat.reduceLeDiff, Nat.reduceLT, Int.reduceEq, Int.reduceLT, Int.reduceLE, Int.reduceNeg, Int.reduceAdd, Int.reduceSub, Int.reduceToNat, ↓reduceIte, one_ne_zero_, zero_ne_one_, px_in32L, cd_147, hel, heg]
      repeat' (first | (with_reducible apply And.intro) | (with_reducible refine px_br_intro (fun _ => ?_) (fun _ => ?_)))
      all_goals (try (first | (unfold px_in32; omega) | omega))
      · rename_i c2
        exact h0 (fun z => z k k0 (by omega) w c2)
      · rename_i c2
        exact ih (by omega) (by omega) (hnx (fun _ => c2))
    · simp only [px_go, px_Q0_at, px_sx_0, px_sx_s, px_cl, px_step, ↓px_ll, px_lg, f4_, ↓px_r1, ↓px_r2, ↓px_r4, ↓px_r5, ↓px_p1, ↓px_p2, ↓px_p3, ↓px_pop, px_k_0, px_k_s, px_k3_0, px_stk_, px_cats, px_ent, px_st1, px_st2, px_mask, ↓px_tsw, ↓px_lsw, ct_, mls_0, mls_1, mls_2, mls_3, mls_4, mls_5, kd_0, kd_1, kd_2, kd_3, ln_0, ln_1, ln_2, ln_3, gf_0, gf_1, gf_2, gf_3, gf_4, gf_7, gf_21, gf_63, dy_0, dy_1, dy_2, dy_3, dy_7, dy_21, px_brT, px_brF, true_and, and_true, and_false, false_and, and_self, true_implies, false_implies, or_true, true_or, or_false, false_or, eq_self, ne_eq, not_false_eq_true, not_true_eq_false, if_true, if_false, List.mem_cons, List.not_mem_nil, List.length_cons, List.length_nil, Nat.reduceEqDiff, Nat.reduceAdd, Nat.reduceSub, Nat.reduceLeDiff, Nat.reduceLT, Int.reduceEq, Int.reduceLT, Int.reduceLE, Int.reduceNeg, Int.reduceAdd, Int.reduceSub, Int.reduceToNat, ↓reduceIte, one_ne_zero_, zero_ne_one_, px_in32L, cd_147, hel, heg]
      repeat' (first | (with_reducible apply And.intro) | (with_reducible refine px_br_intro (fun _ => ?_) (fun _ => ?_)))
      all_goals (try (first | (unfold px_in32; omega) | omega))
      exact ih (by omega) (by omega) (hnx (fun z => absurd z w))
set_option maxHeartbeats 600000 in
set_option maxRecDepth 100000 in
theorem sp_wholeW {e : Int} {pl : Int → List Int} {t : List Int} (he : isE e) (hls : lsC M e pl) (ht : okp t) (h1 : (∀ j, 0 ≤ j → j < M e 2 → wi (pl j) t → M 105 (M (e + 2) j) ≠ 0) → Q (some (0, 1)) M) (h0 : ¬ (∀ j, 0 ≤ j → j < M e 2 → wi (pl j) t → M 105 (M (e + 2) j) ≠ 0) → Q (some (0, 0)) M) : px_Ok 147 [(2, 1), (2, e), (1, enc t)] LAY M Q := by
  refine px_ok_go (inl := []) (ls0 := [(2, 1), (2, e), (1, enc t), (9, 0), (9, 0)]) 60 (by decide) (Nat.le_of_ble_eq_true rfl) rfl ?_
  simp only [px_go, px_Q0_at, px_sx_0, px_sx_s, px_cl, px_step, ↓px_ll, px_lg, f4_, ↓px_r1, ↓px_r2, ↓px_r4, ↓px_r5, ↓px_p1, ↓px_p2, ↓px_p3, ↓px_pop, px_k_0, px_k_s, px_k3_0, px_stk_, px_cats, px_ent, px_st1, px_st2, px_mask, ↓px_tsw, ↓px_lsw, ct_, mls_0, mls_1, mls_2, mls_3, mls_4, mls_5, kd_0, kd_1, kd_2, kd_3, ln_0, ln_1, ln_2, ln_3, gf_0, gf_1, gf_2, gf_3, gf_4, gf_7, gf_21, gf_63, dy_0, dy_1, dy_2, dy_3, dy_7, dy_21, px_brT, px_brF, true_and, and_true, and_false, false_and, and_self, true_implies, false_implies, or_true, true_or, or_false, false_or, eq_self, ne_eq, not_false_eq_true, not_true_eq_false, if_true, if_false, List.mem_cons, List.not_mem_nil, List.length_cons, List.length_nil, Nat.reduceEqDiff, Nat.reduceAdd, Nat.reduceSub, Nat.reduceLeDiff, Nat.reduceLT, Int.reduceEq, Int.reduceLT, Int.reduceLE, Int.reduceNeg, Int.reduceAdd, Int.reduceSub, Int.reduceToNat, ↓reduceIte, one_ne_zero_, zero_ne_one_, px_in32L, cd_147]
  repeat' (first | (with_reducible apply And.intro) | (with_reducible refine px_br_intro (fun _ => ?_) (fun _ => ?_)))
  all_goals (try (first | (unfold px_in32; omega) | omega))
  exact lp_wholeW he hls ht h1 h0 0 hls.1 (Int.le_refl 0) (fun j j0 j1 => by omega)
set_option maxHeartbeats 600000 in
set_option maxRecDepth 100000 in
theorem lp_inWay {e N : Int} {pl : Int → List Int} {t : List Int} {g : Int → fe} (he : isE e) (hls : lsC M e pl) (ht : okp t) (hst : stC M N g) (h1 : (∃ j, 0 ≤ j ∧ j < M e 2 ∧ wi (pl j) t ∧ mtg N g (pl j) t) → Q (some (0, 1)) M) (h0 : ¬ (∃ j, 0 ≤ j ∧ j < M e 2 ∧ wi (pl j) t ∧ mtg N g (pl j) t) → Q (some (0, 0)) M) (k : Int) (hk_k : k ≤ M e 2) : 0 ≤ k → (∀ j, 0 ≤ j → j < k → ¬ (wi (pl j) t ∧ mtg N g (pl j) t)) → px_WP 148 0 0 (px_Q0 LAY Q) 3 [(2, 1), (2, e), (1, enc t), (9, 0), (0, k)] [] LAY M 0 0 := by
  refine up_ind (P := fun k => 0 ≤ k → (∀ j, 0 ≤ j → j < k → ¬ (wi (pl j) t ∧ mtg N g (pl j) t)) → px_WP 148 0 0 (px_Q0 LAY Q) 3 [(2, 1), (2, e), (1, enc t), (9, 0), (0, k)] [] LAY M 0 0) (M e 2) (fun k hk_k ih => ?_) k hk_k
  intro k0 hl
  have hel := isE_lay he
  have heg := isE_gf he
  have hn := hls.2.1
  have hnx : ¬ (wi (pl k) t ∧ mtg N g (pl k) t) → ∀ j, 0 ≤ j → j < k + 1 → ¬ (wi (pl j) t ∧ mtg N g (pl j) t) := fun z j j0 j1 => by
    by_cases q : j = k
    · rw [q]; exact z
    · exact hl j j0 (by omega)
  refine px_go_ok (inl := []) 60 ?_
  simp only [px_go, px_Q0_at, px_sx_0, px_sx_s, px_cl, px_step, ↓px_ll, px_lg, f4_, ↓px_r1, ↓px_r2, ↓px_r4, ↓px_r5, ↓px_p1, ↓px_p2, ↓px_p3, ↓px_pop, px_k_0, px_k_s, px_k3_0, px_stk_, px_cats, px_ent, px_st1, px_st2, px_mask, ↓px_tsw, ↓px_lsw, ct_, mls_0, mls_1, mls_2, mls_3, mls_4, mls_5, kd_0, kd_1, kd_2, kd_3, ln_0, ln_1, ln_2, ln_3, gf_0, gf_1, gf_2, gf_3, gf_4, gf_7, gf_21, gf_63, dy_0, dy_1, dy_2, dy_3, dy_7, dy_21, px_brT, px_brF, true_and, and_true, and_false, false_and, and_self, true_implies, false_implies, or_true, true_or, or_false, false_or, eq_self, ne_eq, not_false_eq_true, not_true_eq_false, if_true, if_false, List.mem_cons, List.not_mem_nil, List.length_cons, List.length_nil, Nat.reduceEqDiff, Nat.reduceAdd, Nat.reduceSub, Nat.reduceLeDiff, Nat.reduceLT, Int.reduceEq, Int.reduceLT, Int.reduceLE, Int.reduceNeg, Int.reduceAdd, Int.reduceSub, Int.reduceToNat, ↓reduceIte, one_ne_zero_, zero_ne_one_, px_in32L, cd_148, hel, heg]
  repeat' (first | (with_reducible apply And.intro) | (with_reducible refine px_br_intro (fun _ => ?_) (fun _ => ?_)))
  all_goals (try (first | (unfold px_in32; omega) | omega))
  · rename_i c1
    exact h0 (fun ⟨j, j0, j1, j2⟩ => hl j j0 (by omega) j2)
  · rename_i c1
    have hj := hls.2.2 k k0 (by omega)
    rw [hj.2.1]
    refine sp_isWithin hj.1 ht (fun w => ?_) (fun w => ?_)
    · simp only [px_go, px_Q0_at, px_sx_0, px_sx_s, px_cl, px_step, ↓px_ll, px_lg, f4_, ↓px_r1, ↓px_r2, ↓px_r4, ↓px_r5, ↓px_p1, ↓px_p2, ↓px_p3, ↓px_pop, px_k_0, px_k_s, px_k3_0, px_stk_, px_cats, px_ent, px_st1, px_st2, px_mask, ↓px_tsw, ↓px_lsw, ct_, mls_0, mls_1, mls_2, mls_3, mls_4, mls_5, kd_0, kd_1, kd_2, kd_3, ln_0, ln_1, ln_2, ln_3, gf_0, gf_1, gf_2, gf_3, gf_4, gf_7, gf_21, gf_63, dy_0, dy_1, dy_2, dy_3, dy_7, dy_21, px_brT, px_brF, true_and, and_true, and_false, false_and, and_self, true_implies, false_implies, or_true, true_or, or_false, false_or, eq_self, ne_eq, not_false_eq_true, not_true_eq_false, if_true, if_false, List.mem_cons, List.not_mem_nil, List.length_cons, List.length_nil, Nat.reduceEqDiff, Nat.reduceAdd, Nat.reduceSub, Nat.reduceLeDiff, Nat.reduceLT, Int.reduceEq, Int.reduceLT, Int.reduceLE, Int.reduceNeg, Int.reduceAdd, Int.reduceSub, Int.reduceToNat, ↓reduceIte, one_ne_zero_, zero_ne_one_, px_in32L, cd_148, hel, heg]
      repeat' (first | (with_reducible apply And.intro) | (with_reducible refine px_br_intro (fun _ => ?_) (fun _ => ?_)))
      all_goals (try (first | (unfold px_in32; omega) | omega))
      rw [hj.2.1]
      refine sp_meets hst hj.1 ht (fun m => ?_) (fun m => ?_)
      · simp only [px_go, px_Q0_at, px_sx_0, px_sx_s, px_cl, px_step, ↓px_ll, px_lg, f4_, ↓px_r1, ↓px_r2, ↓px_r4, ↓px_r5, ↓px_p1, ↓px_p2, ↓px_p3, ↓px_pop, px_k_0, px_k_s, px_k3_0, px_stk_, px_cats, px_ent, px_st1, px_st2, px_mask, ↓px_tsw, ↓px_lsw, ct_, mls_0, mls_1, mls_2, mls_3, mls_4, mls_5, kd_0, kd_1, kd_2, kd_3, ln_0, ln_1, ln_2, ln_3, gf_0, gf_1, gf_2, gf_3, gf_4, gf_7, gf_21, gf_63, dy_0, dy_1, dy_2, dy_3, dy_7, dy_21, px_brT, px_brF, true_and, and_true, and_false, false_and, and_self, true_implies, false_implies, or_true, true_or, or_false, false_or, eq_self, ne_eq, not_false_eq_true, not_true_eq_false, if_true, if_false, List.mem_cons, List.not_mem_nil, List.length_cons, List.length_nil, Nat.reduceEqDiff, Nat.reduceAdd, Nat.reduceSub, Nat.reduceLeDiff, Nat.reduceLT, Int.reduceEq, Int.reduceLT, Int.reduceLE, Int.reduceNeg, Int.reduceAdd, Int.reduceSub, Int.reduceToNat, ↓reduceIte, one_ne_zero_, zero_ne_one_, px_in32L, cd_148]
        exact h1 ⟨k, k0, by omega, w, m⟩
      · simp only [px_go, px_Q0_at, px_sx_0, px_sx_s, px_cl, px_step, ↓px_ll, px_lg, f4_, ↓px_r1, ↓px_r2, ↓px_r4, ↓px_r5, ↓px_p1, ↓px_p2, ↓px_p3, ↓px_pop, px_k_0, px_k_s, px_k3_0, px_stk_, px_cats, px_ent, px_st1, px_st2, px_mask, ↓px_tsw, ↓px_lsw, ct_, mls_0, mls_1, mls_2, mls_3, mls_4, mls_5, kd_0, kd_1, kd_2, kd_3, ln_0, ln_1, ln_2, ln_3, gf_0, gf_1, gf_2, gf_3, gf_4, gf_7, gf_21, gf_63, dy_0, dy_1, dy_2, dy_3, dy_7, dy_21, px_brT, px_brF, true_and, and_true, and_false, false_and, and_self, true_implies, false_implies, or_true, true_or, or_false, false_or, eq_self, ne_eq, not_false_eq_true, not_true_eq_false, if_true, if_false, List.mem_cons, List.not_mem_nil, List.length_cons, List.length_nil, Nat.reduceEqDiff, Nat.reduceAdd, Nat.reduceSub, Nat.reduceLeDiff, Nat.reduceLT, Int.reduceEq, Int.reduceLT, Int.reduceLE, Int.reduceNeg, Int.reduceAdd, Int.reduceSub, Int.reduceToNat, ↓reduceIte, one_ne_zero_, zero_ne_one_, px_in32L, cd_148]
        repeat' (first | (with_reducible apply And.intro) | (with_reducible refine px_br_intro (fun _ => ?_) (fun _ => ?_)))
        all_goals (try (first | (unfold px_in32; omega) | omega))
        exact ih (by omega) (by omega) (hnx (fun z => m z.2))
    · simp only [px_go, px_Q0_at, px_sx_0, px_sx_s, px_cl, px_step, ↓px_ll, px_lg, f4_, ↓px_r1, ↓px_r2, ↓px_r4, ↓px_r5, ↓px_p1, ↓px_p2, ↓px_p3, ↓px_pop, px_k_0, px_k_s, px_k3_0, px_stk_, px_cats, px_ent, px_st1, px_st2, px_mask, ↓px_tsw, ↓px_lsw, ct_, mls_0, mls_1, mls_2, mls_3, mls_4, mls_5, kd_0, kd_1, kd_2, kd_3, ln_0, ln_1, ln_2, ln_3, gf_0, gf_1, gf_2, gf_3, gf_4, gf_7, gf_21, gf_63, dy_0, dy_1, dy_2, dy_3, dy_7, dy_21, px_brT, px_brF, true_and, and_true, and_false, false_and, and_self, true_implies, false_implies, or_true, true_or, or_false, false_or, eq_self, ne_eq, not_false_eq_true, not_true_eq_false, if_true, if_false, List.mem_cons, List.not_mem_nil, List.length_cons, List.length_nil, Nat.reduceEqDiff, Nat.reduceAdd, Nat.reduceSub, Nat.reduceLeDiff, Nat.reduceLT, Int.reduceEq, Int.reduceLT, Int.reduceLE, Int.reduceNeg, Int.reduceAdd, Int.reduceSub, Int.reduceToNat, ↓reduceIte, one_ne_zero_, zero_ne_one_, px_in32L, cd_148, hel, heg]
      repeat' (first | (with_reducible apply And.intro) | (with_reducible refine px_br_intro (fun _ => ?_) (fun _ => ?_)))
      all_goals (try (first | (unfold px_in32; omega) | omega))
      exact ih (by omega) (by omega) (hnx (fun z => w z.1))
set_option maxHeartbeats 600000 in
set_option maxRecDepth 100000 in
theorem sp_inWay {e N : Int} {pl : Int → List Int} {t : List Int} {g : Int → fe} (he : isE e) (hls : lsC M e pl) (ht : okp t) (hst : stC M N g) (h1 : (∃ j, 0 ≤ j ∧ j < M e 2 ∧ wi (pl j) t ∧ mtg N g (pl j) t) → Q (some (0, 1)) M) (h0 : ¬ (∃ j, 0 ≤ j ∧ j < M e 2 ∧ wi (pl j) t ∧ mtg N g (pl j) t) → Q (some (0, 0)) M) : px_Ok 148 [(2, 1), (2, e), (1, enc t)] LAY M Q := by
  refine px_ok_go (inl := []) (ls0 := [(2, 1), (2, e), (1, enc t), (9, 0), (9, 0)]) 60 (by decide) (Nat.le_of_ble_eq_true rfl) rfl ?_
  simp only [px_go, px_Q0_at, px_sx_0, px_sx_s, px_cl, px_step, ↓px_ll, px_lg, f4_, ↓px_r1, ↓px_r2, ↓px_r4, ↓px_r5, ↓px_p1, ↓px_p2, ↓px_p3, ↓px_pop, px_k_0, px_k_s, px_k3_0, px_stk_, px_cats, px_ent, px_st1, px_st2, px_mask, ↓px_tsw, ↓px_lsw, ct_, mls_0, mls_1, mls_2, mls_3, mls_4, mls_5, kd_0, kd_1, kd_2, kd_3, ln_0, ln_1, ln_2, ln_3, gf_0, gf_1, gf_2, gf_3, gf_4, gf_7, gf_21, gf_63, dy_0, dy_1, dy_2, dy_3, dy_7, dy_21, px_brT, px_brF, true_and, and_true, and_false, false_and, and_self, true_implies, false_implies, or_true, true_or, or_false, false_or, eq_self, ne_eq, not_false_eq_true, not_true_eq_false, if_true, if_false, List.mem_cons, List.not_mem_nil, List.length_cons, List.length_nil, Nat.reduceEqDiff, Nat.reduceAdd, Nat.reduceSub, Nat.reduceLeDiff, Nat.reduceLT, Int.reduceEq, Int.reduceLT, Int.reduceLE, Int.reduceNeg, Int.reduceAdd, Int.reduceSub, Int.reduceToNat, ↓reduceIte, one_ne_zero_, zero_ne_one_, px_in32L, cd_148]
  repeat' (first | (with_reducible apply And.intro) | (with_reducible refine px_br_intro (fun _ => ?_) (fun _ => ?_)))
  all_goals (try (first | (unfold px_in32; omega) | omega))
  exact lp_inWay he hls ht hst h1 h0 0 hls.1 (Int.le_refl 0) (fun j j0 j1 => by omega)
set_option maxHeartbeats 600000 in
set_option maxRecDepth 100000 in
theorem lp_fetch {M0 : px_mem} {e N w : Int} {pl : Int → List Int} {t : List Int} {g : Int → fe} (he : isE e) (hls : lsC M0 e pl) (hsE : sE M0 e) (ht : okp t) (hN : 0 ≤ N) (hci : ci M0) (hu : ∀ j, 0 ≤ j → j < M0 e 2 → wi (pl j) t → 0 ≤ M0 62 (M0 (e + 2) j) ∧ M0 105 (M0 (e + 2) j) ≠ 0) (hnew : ∀ i j, 0 ≤ i → i < N → 0 ≤ j → j < M0 e 2 → wi (pl j) t → (g i).1 ≠ pl j) (hroom : N + sm (M0 e 2) (fun j => b1 (wi (pl j) t)) ≤ 12) (h : ∀ M' g', stC M' (N + sm (M0 e 2) (fun j => b1 (wi (pl j) t))) g' → srt (N + sm (M0 e 2) (fun j => b1 (wi (pl j) t))) g' → (∀ y, isM (N + sm (M0 e 2) (fun j => b1 (wi (pl j) t))) g' y ↔ (isM N g y ∨ ∃ j, 0 ≤ j ∧ j < M0 e 2 ∧ wi (pl j) t ∧ y = (pl j, rdC M0 (M0 (e + 2) j)))) → frS M' M0 → Q (some (0, w)) M') (k : Int) (hk_k : k ≤ M0 e 2) : ∀ (M : px_mem) (g' : Int → fe) (m : Int), 0 ≤ k → stC M m g' → m = N + sm k (fun j => b1 (wi (pl j) t)) → (∀ y, isM m g' y ↔ (isM N g y ∨ ∃ j, 0 ≤ j ∧ j < k ∧ wi (pl j) t ∧ y = (pl j, rdC M0 (M0 (e + 2) j)))) → dst m g' → frS M M0 → px_WP 146 0 0 (px_Q0 LAY Q) 136 [(2, 1), (9, 0), (9, 0), (1, enc t), (9, 0), (2, e), (0, w), (9, 0), (0, k), (9, 0)] [] LAY M 0 0 := by
  refine up_ind (P := fun k => ∀ (M : px_mem) (g' : Int → fe) (m : Int), 0 ≤ k → stC M m g' → m = N + sm k (fun j => b1 (wi (pl j) t)) → (∀ y, isM m g' y ↔ (isM N g y ∨ ∃ j, 0 ≤ j ∧ j < k ∧ wi (pl j) t ∧ y = (pl j, rdC M0 (M0 (e + 2) j)))) → dst m g' → frS M M0 → px_WP 146 0 0 (px_Q0 LAY Q) 136 [(2, 1), (9, 0), (9, 0), (1, enc t), (9, 0), (2, e), (0, w), (9, 0), (0, k), (9, 0)] [] LAY M 0 0) (M0 e 2) (fun k hk_k ih => ?_) k hk_k
  intro M g' m k0 hst hm hmem hd hfr
  have hel := isE_lay he
  have heg := isE_gf he
  have hem := isE_m he
  have fr : ∀ b, 20 ≤ b → M b = M0 b := fun b b0 => hfr.2 b (by omega) (by omega) (by omega) (by omega) (by omega)
  have fe0 := fr e (by omega)
  have fe1 := fr (e + 1) (by omega)
  have fe2 := fr (e + 2) (by omega)
  have f57 := fr 57 (by decide)
  have hn12 := hls.2.1
  have hs := sm_s k0 (fun j => b1 (wi (pl j) t))
  have hb := sm_mono (f := fun j => b1 (wi (pl j) t)) (n := M0 e 2) (fun j _ _ => (b1_rng _).1) (i := k + 1)
  have hcj : k < M0 e 2 → 0 ≤ M0 (e + 2) k ∧ M0 (e + 2) k < 40 := fun q => (hls.2.2 k k0 q).2.2
  refine px_go_ok (inl := []) 60 ?_
  simp only [px_go, px_Q0_at, px_sx_0, px_sx_s, px_cl, px_step, ↓px_ll, px_lg, f4_, ↓px_r1, ↓px_r2, ↓px_r4, ↓px_r5, ↓px_p1, ↓px_p2, ↓px_p3, ↓px_pop, px_k_0, px_k_s, px_k3_0, px_stk_, px_cats, px_ent, px_st1, px_st2, px_mask, ↓px_tsw, ↓px_lsw, ct_, mls_0, mls_1, mls_2, mls_3, mls_4, mls_5, kd_0, kd_1, kd_2, kd_3, ln_0, ln_1, ln_2, ln_3, gf_0, gf_1, gf_2, gf_3, gf_4, gf_7, gf_21, gf_63, dy_0, dy_1, dy_2, dy_3, dy_7, dy_21, px_brT, px_brF, true_and, and_true, and_false, false_and, and_self, true_implies, false_implies, or_true, true_or, or_false, false_or, eq_self, ne_eq, not_false_eq_true, not_true_eq_false, if_true, if_false, List.mem_cons, List.not_mem_nil, List.length_cons, List.length_nil, Nat.reduceEqDiff, Nat.reduceAdd, Nat.reduceSub, Nat.reduceLeDiff, Nat.reduceLT, Int.reduceEq, Int.reduceLT, Int.reduceLE, Int.reduceNeg, Int.reduceAdd, Int.reduceSub, Int.reduceToNat, ↓reduceIte, one_ne_zero_, zero_ne_one_, px_in32L, cd_146, hel, heg, fe0, fe1, fe2, f57]
  repeat' (first | (with_reducible apply And.intro) | (with_reducible refine px_br_intro (fun _ => ?_) (fun _ => ?_)))
  all_goals (try (first | (unfold px_in32; omega) | omega))
  · rename_i c1
    have e1 : k = M0 e 2 := by omega
    rw [e1] at hm hmem
    rw [hm] at hst hd hmem
    refine sp_sort hst hd (fun M' g2 q1 q2 q3 q4 => ?_)
    simp only [px_go, px_Q0_at, px_sx_0, px_sx_s, px_cl, px_step, ↓px_ll, px_lg, f4_, ↓px_r1, ↓px_r2, ↓px_r4, ↓px_r5, ↓px_p1, ↓px_p2, ↓px_p3, ↓px_pop, px_k_0, px_k_s, px_k3_0, px_stk_, px_cats, px_ent, px_st1, px_st2, px_mask, ↓px_tsw, ↓px_lsw, ct_, mls_0, mls_1, mls_2, mls_3, mls_4, mls_5, kd_0, kd_1, kd_2, kd_3, ln_0, ln_1, ln_2, ln_3, gf_0, gf_1, gf_2, gf_3, gf_4, gf_7, gf_21, gf_63, dy_0, dy_1, dy_2, dy_3, dy_7, dy_21, px_brT, px_brF, true_and, and_true, and_false, false_and, and_self, true_implies, false_implies, or_true, true_or, or_false, false_or, eq_self, ne_eq, not_false_eq_true, not_true_eq_false, if_true, if_false, List.mem_cons, List.not_mem_nil, List.length_cons, List.length_nil, Nat.reduceEqDiff, Nat.reduceAdd, Nat.reduceSub, Nat.reduceLeDiff, Nat.reduceLT, Int.reduceEq, Int.reduceLT, Int.reduceLE, Int.reduceNeg, Int.reduceAdd, Int.reduceSub, Int.reduceToNat, ↓reduceIte, one_ne_zero_, zero_ne_one_, px_in32L, cd_146]
    exact h M' g2 q1 q2 (fun y => by rw [q3 y]; exact hmem y) ⟨fun j j0 => by rw [q4 4 (by decide) (by decide) (by decide)]; exact hfr.1 j j0, fun b b0 b1 b2 b3 b4 => by rw [q4 b b1 b2 b3]; exact hfr.2 b b0 b1 b2 b3 b4⟩
  · rename_i c1
    have hj := hls.2.2 k k0 (by omega)
    have hck := hcj (by omega)
    rw [hj.2.1]
    refine sp_isWithin hj.1 ht (fun wi1 => ?_) (fun wi1 => ?_)
    · have hu2 := hu k k0 (by omega) wi1
      have hr := rdC_rng hci hck.1 hck.2 hu2.1 hu2.2
      have hrl := row_lay (v := 64 + M0 (e + 2) k) (Or.inr (by omega))
      have hN2 := hst.2.2.1
      rw [b1_t wi1] at hs
      have hb2 := hb (by omega) (by omega)
      have hrow := hst.2.2.2.1.1 m hst.2.1 (by omega)
      simp only [px_go, px_Q0_at, px_sx_0, px_sx_s, px_cl, px_step, ↓px_ll, px_lg, f4_, ↓px_r1, ↓px_r2, ↓px_r4, ↓px_r5, ↓px_p1, ↓px_p2, ↓px_p3, ↓px_pop, px_k_0, px_k_s, px_k3_0, px_stk_, px_cats, px_ent, px_st1, px_st2, px_mask, ↓px_tsw, ↓px_lsw, ct_, mls_0, mls_1, mls_2, mls_3, mls_4, mls_5, kd_0, kd_1, kd_2, kd_3, ln_0, ln_1, ln_2, ln_3, gf_0, gf_1, gf_2, gf_3, gf_4, gf_7, gf_21, gf_63, dy_0, dy_1, dy_2, dy_3, dy_7, dy_21, px_brT, px_brF, true_and, and_true, and_false, false_and, and_self, true_implies, false_implies, or_true, true_or, or_false, false_or, eq_self, ne_eq, not_false_eq_true, not_true_eq_false, if_true, if_false, List.mem_cons, List.not_mem_nil, List.length_cons, List.length_nil, Nat.reduceEqDiff, Nat.reduceAdd, Nat.reduceSub, Nat.reduceLeDiff, Nat.reduceLT, Int.reduceEq, Int.reduceLT, Int.reduceLE, Int.reduceNeg, Int.reduceAdd, Int.reduceSub, Int.reduceToNat, ↓reduceIte, one_ne_zero_, zero_ne_one_, px_in32L, cd_146, hel, heg, fe0, fe1, fe2, f57]
      repeat' (first | (with_reducible apply And.intro) | (with_reducible refine px_br_intro (fun _ => ?_) (fun _ => ?_)))
      all_goals (try (first | (unfold px_in32; omega) | omega))
      rw [hj.2.1, ← hr.2.1]
      refine sp_sAppend (x := (pl k, rdC M0 (M0 (e + 2) k))) hst (by omega) ⟨hj.1, by have := hr.2.1; have := hr.2.2.1; show (rdC M0 (M0 (e + 2) k)).length ≤ 40; omega, hr.1⟩ hrl.1 (Int.le_refl 0) rfl (by omega) (by omega) (by omega) (by omega) ?_ (fun M1 q1 q2 q3 => ?_)
      · show _ = rdC M0 (M0 (e + 2) k)
        rw [fr (64 + M0 (e + 2) k) (by omega)]
        refine Eq.trans ?_ hr.2.2.2.1
        exact lst_congr (fun j _ _ => by rw [Int.zero_add])
      · simp only [px_go, px_Q0_at, px_sx_0, px_sx_s, px_cl, px_step, ↓px_ll, px_lg, f4_, ↓px_r1, ↓px_r2, ↓px_r4, ↓px_r5, ↓px_p1, ↓px_p2, ↓px_p3, ↓px_pop, px_k_0, px_k_s, px_k3_0, px_stk_, px_cats, px_ent, px_st1, px_st2, px_mask, ↓px_tsw, ↓px_lsw, ct_, mls_0, mls_1, mls_2, mls_3, mls_4, mls_5, kd_0, kd_1, kd_2, kd_3, ln_0, ln_1, ln_2, ln_3, gf_0, gf_1, gf_2, gf_3, gf_4, gf_7, gf_21, gf_63, dy_0, dy_1, dy_2, dy_3, dy_7, dy_21, px_brT, px_brF, true_and, and_true, and_false, false_and, and_self, true_implies, false_implies, or_true, true_or, or_false, false_or, eq_self, ne_eq, not_false_eq_true, not_true_eq_false, if_true, if_false, List.mem_cons, List.not_mem_nil, List.length_cons, List.length_nil, Nat.reduceEqDiff, Nat.reduceAdd, Nat.reduceSub, Nat.reduceLeDiff, Nat.reduceLT, Int.reduceEq, Int.reduceLT, Int.reduceLE, Int.reduceNeg, Int.reduceAdd, Int.reduceSub, Int.reduceToNat, ↓reduceIte, one_ne_zero_, zero_ne_one_, px_in32L, cd_146]
        repeat' (first | (with_reducible apply And.intro) | (with_reducible refine px_br_intro (fun _ => ?_) (fun _ => ?_)))
        all_goals (try (first | (unfold px_in32; omega) | omega))
        have okj : ∀ j, 0 ≤ j → j < m → okp (g' j).1 := fun j j0 j1 => (hst.2.2.2.2 j j0 j1).1
        have hne : ∀ j, 0 ≤ j → j < m → (g' j).1 ≠ pl k := fun j j0 j1 z => by
          rcases (hmem (g' j)).mp ⟨j, j0, j1, rfl⟩ with ⟨i, i0, i1, i2⟩ | ⟨i, i0, i1, i2, i3⟩
          · rw [← i2] at z; exact hnew i k i0 i1 k0 (by omega) wi1 z
          · rw [i3] at z
            have z : pl i = pl k := z
            have h1 := hsE i k i0 i1 (by omega)
            rw [(hls.2.2 i i0 (by omega)).2.1, hj.2.1, z] at h1
            omega
        refine ih (by omega) M1 (stF g' m (pl k, rdC M0 (M0 (e + 2) k))) (m + 1) (by omega) q1 (by omega) (fun y => ?_) (fun i j i0 i1 j0 j1 z => ?_) (frS_trans q2 hfr)
        · rw [stF_isM hst.2.1, hmem y]
          constructor
          · rintro ((a | ⟨i, i0, i1, i2⟩) | a)
            · exact Or.inl a
            · exact Or.inr ⟨i, i0, by omega, i2⟩
            · exact Or.inr ⟨k, k0, by omega, wi1, a⟩
          · rintro (a | ⟨i, i0, i1, i2, i3⟩)
            · exact Or.inl (Or.inl a)
            · by_cases q : i = k
              · rw [q] at i3; exact Or.inr i3
              · exact Or.inl (Or.inr ⟨i, i0, by omega, i2, i3⟩)
        · unfold stF at z
          by_cases ei : i = m
          · by_cases ej : j = m
            · omega
            · rw [if_pos ei, if_neg ej] at z
              have o := okj j j0 (by omega)
              exact absurd (enc_inj hj.1.1 o.1 hj.1.2 o.2 z).symm (hne j j0 (by omega))
          · by_cases ej : j = m
            · rw [if_neg ei, if_pos ej] at z
              have o := okj i i0 (by omega)
              exact absurd (enc_inj o.1 hj.1.1 o.2 hj.1.2 z) (hne i i0 (by omega))
            · rw [if_neg ei, if_neg ej] at z
              exact hd i j i0 (by omega) j0 (by omega) z
    · rw [b1_f wi1] at hs
      simp only [px_go, px_Q0_at, px_sx_0, px_sx_s, px_cl, px_step, ↓px_ll, px_lg, f4_, ↓px_r1, ↓px_r2, ↓px_r4, ↓px_r5, ↓px_p1, ↓px_p2, ↓px_p3, ↓px_pop, px_k_0, px_k_s, px_k3_0, px_stk_, px_cats, px_ent, px_st1, px_st2, px_mask, ↓px_tsw, ↓px_lsw, ct_, mls_0, mls_1, mls_2, mls_3, mls_4, mls_5, kd_0, kd_1, kd_2, kd_3, ln_0, ln_1, ln_2, ln_3, gf_0, gf_1, gf_2, gf_3, gf_4, gf_7, gf_21, gf_63, dy_0, dy_1, dy_2, dy_3, dy_7, dy_21, px_brT, px_brF, true_and, and_true, and_false, false_and, and_self, true_implies, false_implies, or_true, true_or, or_false, false_or, eq_self, ne_eq, not_false_eq_true, not_true_eq_false, if_true, if_false, List.mem_cons, List.not_mem_nil, List.length_cons, List.length_nil, Nat.reduceEqDiff, Nat.reduceAdd, Nat.reduceSub, Nat.reduceLeDiff, Nat.reduceLT, Int.reduceEq, Int.reduceLT, Int.reduceLE, Int.reduceNeg, Int.reduceAdd, Int.reduceSub, Int.reduceToNat, ↓reduceIte, one_ne_zero_, zero_ne_one_, px_in32L, cd_146, hel, heg, fe0, fe1, fe2, f57]
      repeat' (first | (with_reducible apply And.intro) | (with_reducible refine px_br_intro (fun _ => ?_) (fun _ => ?_)))
      all_goals (try (first | (unfold px_in32; omega) | omega))
      refine ih (by omega) M g' m (by omega) hst (by omega) (fun y => ?_) hd hfr
      rw [hmem y]
      constructor
      · rintro (a | ⟨i, i0, i1, i2⟩)
        · exact Or.inl a
        · exact Or.inr ⟨i, i0, by omega, i2⟩
      · rintro (a | ⟨i, i0, i1, i2, i3⟩)
        · exact Or.inl a
        · refine Or.inr ⟨i, i0, ?_, i2, i3⟩
          by_cases q : i = k
          · rw [q] at i2; exact absurd i2 wi1
          · omega
def wrd (M : px_mem) (p : Int) : Prop := 1 ≤ p ∧ p ≤ 12 ∧ p ≤ M 2 1
set_option maxHeartbeats 600000 in
set_option maxRecDepth 100000 in
theorem sp_fetch {num p N : Int} {pl : Int → Int → List Int} {nm : Int → List Int} {g : Int → fe} (ht : tpI M) (hed : edA M pl nm) (hci : ci M) (hst : stC M N g) (hs : sgI N g) (h0 : ¬ wrd M p → Q (some (0, -1)) M) (h2 : wrd M p → slot M num < 0 → Q (some (0, -2)) (px_up M 2 1 0)) (h3 : ∀ s e, wrd M p → slot M num = s → 0 ≤ s → e = M 21 s → (isP (lst (M 3) p) → sm (M e 2) (fun j => b1 (wi (pl s j) (lst (M 3) p))) = 0) → Q (some (0, -3)) (px_up M 2 1 0)) (h4 : ∀ s e, wrd M p → slot M num = s → 0 ≤ s → e = M 21 s → isP (lst (M 3) p) → sm (M e 2) (fun j => b1 (wi (pl s j) (lst (M 3) p))) ≠ 0 → ¬ (∀ j, 0 ≤ j → j < M e 2 → wi (pl s j) (lst (M 3) p) → M 105 (M (e + 2) j) ≠ 0) → Q (some (0, -4)) (px_up M 2 1 0)) (h5 : ∀ s e, wrd M p → slot M num = s → 0 ≤ s → e = M 21 s → isP (lst (M 3) p) → sm (M e 2) (fun j => b1 (wi (pl s j) (lst (M 3) p))) ≠ 0 → (∀ j, 0 ≤ j → j < M e 2 → wi (pl s j) (lst (M 3) p) → M 105 (M (e + 2) j) ≠ 0) → (12 < N - sm N (fun i => b1 (wi (g i).1 (lst (M 3) p))) + sm (M e 2) (fun j => b1 (wi (pl s j) (lst (M 3) p))) ∨ ∃ j, 0 ≤ j ∧ j < M e 2 ∧ wi (pl s j) (lst (M 3) p) ∧ mtg N g (pl s j) (lst (M 3) p)) → Q (some (0, -5)) (px_up M 2 1 0)) (h1 : ∀ M' g' s e, wrd M p → slot M num = s → 0 ≤ s → s < M 20 1 → e = M 21 s → isP (lst (M 3) p) → sm (M e 2) (fun j => b1 (wi (pl s j) (lst (M 3) p))) ≠ 0 → (∀ j, 0 ≤ j → j < M e 2 → wi (pl s j) (lst (M 3) p) → M 105 (M (e + 2) j) ≠ 0) → N - sm N (fun i => b1 (wi (g i).1 (lst (M 3) p))) + sm (M e 2) (fun j => b1 (wi (pl s j) (lst (M 3) p))) ≤ 12 → ¬ (∃ j, 0 ≤ j ∧ j < M e 2 ∧ wi (pl s j) (lst (M 3) p) ∧ mtg N g (pl s j) (lst (M 3) p)) → stC M' (N - sm N (fun i => b1 (wi (g i).1 (lst (M 3) p))) + sm (M e 2) (fun j => b1 (wi (pl s j) (lst (M 3) p)))) g' → srt (N - sm N (fun i => b1 (wi (g i).1 (lst (M 3) p))) + sm (M e 2) (fun j => b1 (wi (pl s j) (lst (M 3) p)))) g' → (∀ y, isM (N - sm N (fun i => b1 (wi (g i).1 (lst (M 3) p))) + sm (M e 2) (fun j => b1 (wi (pl s j) (lst (M 3) p)))) g' y ↔ ((isM N g y ∧ ¬ wi y.1 (lst (M 3) p)) ∨ ∃ j, 0 ≤ j ∧ j < M e 2 ∧ wi (pl s j) (lst (M 3) p) ∧ y = (pl s j, rdC M (M (e + 2) j)))) → frW M' M → Q (some (0, sm (M e 2) (fun j => b1 (wi (pl s j) (lst (M 3) p))))) M') : px_Ok 146 [(2, 1), (0, num), (0, p)] LAY M Q := by
  have ht1 := ht.1
  have ht2 := ht.2.1
  have hw := hed.1
  have hn := hw.2.2
  unfold wrd at h0 h2 h3 h4 h5 h1
  have fc : ∀ b, b ≠ 2 → px_up M 2 1 0 b = M b := fun b b0 => row_ne b0
  have hw2 : edW (px_up M 2 1 0) := by unfold edW; rw [fc 20 (by decide), fc 21 (by decide)]; exact hw
  have es : slot (px_up M 2 1 0) num = slot M num := by
    unfold slot
    rw [fc 20 (by decide), fc 21 (by decide)]
    refine fnd_congr (fun j j0 j1 => ?_)
    have := isE_m (hw.1 j j0 (by omega)).1
    rw [fc _ (by omega)]
  have hst2 : stC (px_up M 2 1 0) N g := stF_frame hst (fun b b0 b1 => fc b (by omega))
  have hlc0 := (lcmp_lt 0 0).2.1
  refine px_ok_go (inl := [100, 101, 102]) (ls0 := [(2, 1), (0, num), (0, p), (9, 0), (9, 0), (9, 0), (9, 0), (9, 0), (9, 0), (9, 0)]) 140 (by decide) (Nat.le_of_ble_eq_true rfl) rfl ?_
  simp only [px_go, px_Q0_at, px_sx_0, px_sx_s, px_cl, px_step, ↓px_ll, px_lg, f4_, ↓px_r1, ↓px_r2, ↓px_r4, ↓px_r5, ↓px_p1, ↓px_p2, ↓px_p3, ↓px_pop, px_k_0, px_k_s, px_k3_0, px_stk_, px_cats, px_ent, px_st1, px_st2, px_mask, ↓px_tsw, ↓px_lsw, ct_, mls_0, mls_1, mls_2, mls_3, mls_4, mls_5, kd_0, kd_1, kd_2, kd_3, ln_0, ln_1, ln_2, ln_3, gf_0, gf_1, gf_2, gf_3, gf_4, gf_7, gf_21, gf_63, dy_0, dy_1, dy_2, dy_3, dy_7, dy_21, px_brT, px_brF, true_and, and_true, and_false, false_and, and_self, true_implies, false_implies, or_true, true_or, or_false, false_or, eq_self, ne_eq, not_false_eq_true, not_true_eq_false, if_true, if_false, List.mem_cons, List.not_mem_nil, List.length_cons, List.length_nil, Nat.reduceEqDiff, Nat.reduceAdd, Nat.reduceSub, Nat.reduceLeDiff, Nat.reduceLT, Int.reduceEq, Int.reduceLT, Int.reduceLE, Int.reduceNeg, Int.reduceAdd, Int.reduceSub, Int.reduceToNat, ↓reduceIte, one_ne_zero_, zero_ne_one_, px_in32L, cd_146, cd_100, cd_101, cd_102]
  repeat' (first | (with_reducible apply And.intro) | (with_reducible refine px_br_intro (fun _ => ?_) (fun _ => ?_)))
  all_goals (try (first | (unfold px_in32; omega) | omega))
  all_goals (try exact h0 (by omega))
  refine sp_pathFrom (by decide) (by omega) (by omega) (by omega) (by omega) (fun hp => ?_) (fun hp => ?_)
  · rw [lst0] at hp ⊢
    have hok := isP_okp (by omega) hp
    have hlc := (lcmp_lt (enc (lst (M 3) p)) 0).2.1
    have he0 := enc_0 hok.1 hok.2
    generalize lst (M 3) p = t at *
    simp only [px_go, px_Q0_at, px_sx_0, px_sx_s, px_cl, px_step, ↓px_ll, px_lg, f4_, ↓px_r1, ↓px_r2, ↓px_r4, ↓px_r5, ↓px_p1, ↓px_p2, ↓px_p3, ↓px_pop, px_k_0, px_k_s, px_k3_0, px_stk_, px_cats, px_ent, px_st1, px_st2, px_mask, ↓px_tsw, ↓px_lsw, ct_, mls_0, mls_1, mls_2, mls_3, mls_4, mls_5, kd_0, kd_1, kd_2, kd_3, ln_0, ln_1, ln_2, ln_3, gf_0, gf_1, gf_2, gf_3, gf_4, gf_7, gf_21, gf_63, dy_0, dy_1, dy_2, dy_3, dy_7, dy_21, px_brT, px_brF, true_and, and_true, and_false, false_and, and_self, true_implies, false_implies, or_true, true_or, or_false, false_or, eq_self, ne_eq, not_false_eq_true, not_true_eq_false, if_true, if_false, List.mem_cons, List.not_mem_nil, List.length_cons, List.length_nil, Nat.reduceEqDiff, Nat.reduceAdd, Nat.reduceSub, Nat.reduceLeDiff, Nat.reduceLT, Int.reduceEq, Int.reduceLT, Int.reduceLE, Int.reduceNeg, Int.reduceAdd, Int.reduceSub, Int.reduceToNat, ↓reduceIte, one_ne_zero_, zero_ne_one_, px_in32L, cd_146, cd_100, cd_101, cd_102]
    repeat' (first | (with_reducible apply And.intro) | (with_reducible refine px_br_intro (fun _ => ?_) (fun _ => ?_)))
    all_goals (try (first | (unfold px_in32; omega) | omega))
    refine sp_numbered hw2 ?_
    unfold edR
    rw [es, fc 21 (by decide)]
    have hsr := slot_rng (M := M) num
    generalize slot M num = s at *
    by_cases q : s < 0
    · rw [if_pos q]
      simp only [px_go, px_Q0_at, px_sx_0, px_sx_s, px_cl, px_step, ↓px_ll, px_lg, f4_, ↓px_r1, ↓px_r2, ↓px_r4, ↓px_r5, ↓px_p1, ↓px_p2, ↓px_p3, ↓px_pop, px_k_0, px_k_s, px_k3_0, px_stk_, px_cats, px_ent, px_st1, px_st2, px_mask, ↓px_tsw, ↓px_lsw, ct_, mls_0, mls_1, mls_2, mls_3, mls_4, mls_5, kd_0, kd_1, kd_2, kd_3, ln_0, ln_1, ln_2, ln_3, gf_0, gf_1, gf_2, gf_3, gf_4, gf_7, gf_21, gf_63, dy_0, dy_1, dy_2, dy_3, dy_7, dy_21, px_brT, px_brF, true_and, and_true, and_false, false_and, and_self, true_implies, false_implies, or_true, true_or, or_false, false_or, eq_self, ne_eq, not_false_eq_true, not_true_eq_false, if_true, if_false, List.mem_cons, List.not_mem_nil, List.length_cons, List.length_nil, Nat.reduceEqDiff, Nat.reduceAdd, Nat.reduceSub, Nat.reduceLeDiff, Nat.reduceLT, Int.reduceEq, Int.reduceLT, Int.reduceLE, Int.reduceNeg, Int.reduceAdd, Int.reduceSub, Int.reduceToNat, ↓reduceIte, one_ne_zero_, zero_ne_one_, px_in32L, cd_146, cd_100, cd_101, cd_102]
      exact h2 (by omega) q
    · rw [if_neg q]
      have hE := hw.1 s (by omega) (by omega)
      have hei := hed.2 s (by omega) (by omega)
      have h3 := h3 s _ (by omega) rfl (by omega) rfl
      have h4 := h4 s _ (by omega) rfl (by omega) rfl
      have h5 := h5 s _ (by omega) rfl (by omega) rfl
      have h1 := fun M' g' => h1 M' g' s _ (by omega) rfl (by omega) (by omega) rfl
      have hel := isE_lay hE.1
      have heg := isE_gf hE.1
      have hem := isE_m hE.1
      generalize M 21 s = e at *
      obtain ⟨b1', b2, b3, b4, _⟩ := hei
      have hls2 : lsC (px_up M 2 1 0) e (pl s) := lsC_frame b1' (fc _ (by omega)) (fc _ (by omega)) (fc _ (by omega))
      have ec : px_up M 2 1 0 e 2 = M e 2 := by rw [fc e (by omega)]
      have e43 : px_up M 2 1 0 4 3 = N := hst2.1
      simp only [px_go, px_Q0_at, px_sx_0, px_sx_s, px_cl, px_step, ↓px_ll, px_lg, f4_, ↓px_r1, ↓px_r2, ↓px_r4, ↓px_r5, ↓px_p1, ↓px_p2, ↓px_p3, ↓px_pop, px_k_0, px_k_s, px_k3_0, px_stk_, px_cats, px_ent, px_st1, px_st2, px_mask, ↓px_tsw, ↓px_lsw, ct_, mls_0, mls_1, mls_2, mls_3, mls_4, mls_5, kd_0, kd_1, kd_2, kd_3, ln_0, ln_1, ln_2, ln_3, gf_0, gf_1, gf_2, gf_3, gf_4, gf_7, gf_21, gf_63, dy_0, dy_1, dy_2, dy_3, dy_7, dy_21, px_brT, px_brF, true_and, and_true, and_false, false_and, and_self, true_implies, false_implies, or_true, true_or, or_false, false_or, eq_self, ne_eq, not_false_eq_true, not_true_eq_false, if_true, if_false, List.mem_cons, List.not_mem_nil, List.length_cons, List.length_nil, Nat.reduceEqDiff, Nat.reduceAdd, Nat.reduceSub, Nat.reduceLeDiff, Nat.reduceLT, Int.reduceEq, Int.reduceLT, Int.reduceLE, Int.reduceNeg, Int.reduceAdd, Int.reduceSub, Int.reduceToNat, ↓reduceIte, one_ne_zero_, zero_ne_one_, px_in32L, cd_146, cd_100, cd_101, cd_102, hel, heg]
      repeat' (first | (with_reducible apply And.intro) | (with_reducible refine px_br_intro (fun _ => ?_) (fun _ => ?_)))
      all_goals (try (first | (unfold px_in32; omega) | omega))
      refine sp_eWithin hE.1 hls2 hok ?_
      rw [ec]
      generalize hcm : sm (M e 2) (fun j => b1 (wi (pl s j) t)) = cm at *
      have hcmr : 0 ≤ cm ∧ cm ≤ 12 := by
        have := sm_bnd (c := 1) b1'.1 (f := fun j => b1 (wi (pl s j) t)) (fun j _ _ => b1_rng _)
        have := b1'.2.1
        omega
      simp only [px_go, px_Q0_at, px_sx_0, px_sx_s, px_cl, px_step, ↓px_ll, px_lg, f4_, ↓px_r1, ↓px_r2, ↓px_r4, ↓px_r5, ↓px_p1, ↓px_p2, ↓px_p3, ↓px_pop, px_k_0, px_k_s, px_k3_0, px_stk_, px_cats, px_ent, px_st1, px_st2, px_mask, ↓px_tsw, ↓px_lsw, ct_, mls_0, mls_1, mls_2, mls_3, mls_4, mls_5, kd_0, kd_1, kd_2, kd_3, ln_0, ln_1, ln_2, ln_3, gf_0, gf_1, gf_2, gf_3, gf_4, gf_7, gf_21, gf_63, dy_0, dy_1, dy_2, dy_3, dy_7, dy_21, px_brT, px_brF, true_and, and_true, and_false, false_and, and_self, true_implies, false_implies, or_true, true_or, or_false, false_or, eq_self, ne_eq, not_false_eq_true, not_true_eq_false, if_true, if_false, List.mem_cons, List.not_mem_nil, List.length_cons, List.length_nil, Nat.reduceEqDiff, Nat.reduceAdd, Nat.reduceSub, Nat.reduceLeDiff, Nat.reduceLT, Int.reduceEq, Int.reduceLT, Int.reduceLE, Int.reduceNeg, Int.reduceAdd, Int.reduceSub, Int.reduceToNat, ↓reduceIte, one_ne_zero_, zero_ne_one_, px_in32L, cd_146, cd_100, cd_101, cd_102, hel, heg]
      repeat' (first | (with_reducible apply And.intro) | (with_reducible refine px_br_intro (fun _ => ?_) (fun _ => ?_)))
      all_goals (try (first | (unfold px_in32; omega) | omega))
      · rename_i c1 c2; exact absurd (he0.mp (hlc.mp c2)) (isP_ne hp)
      · rename_i c1 c2 c3; exact h3 (fun _ => c3)
      · rename_i c1 c2 c3
        have hww : ∀ P : Prop, (∀ j, 0 ≤ j → j < px_up M 2 1 0 e 2 → wi (pl s j) t → px_up M 2 1 0 105 (px_up M 2 1 0 (e + 2) j) ≠ 0) ↔ (∀ j, 0 ≤ j → j < M e 2 → wi (pl s j) t → M 105 (M (e + 2) j) ≠ 0) := fun _ => by
          rw [fc e (by omega), fc 105 (by decide), fc (e + 2) (by omega)]
        refine sp_wholeW hE.1 hls2 hok (fun z => ?_) (fun z => ?_)
        · rw [hww True] at z
          simp only [px_go, px_Q0_at, px_sx_0, px_sx_s, px_cl, px_step, ↓px_ll, px_lg, f4_, ↓px_r1, ↓px_r2, ↓px_r4, ↓px_r5, ↓px_p1, ↓px_p2, ↓px_p3, ↓px_pop, px_k_0, px_k_s, px_k3_0, px_stk_, px_cats, px_ent, px_st1, px_st2, px_mask, ↓px_tsw, ↓px_lsw, ct_, mls_0, mls_1, mls_2, mls_3, mls_4, mls_5, kd_0, kd_1, kd_2, kd_3, ln_0, ln_1, ln_2, ln_3, gf_0, gf_1, gf_2, gf_3, gf_4, gf_7, gf_21, gf_63, dy_0, dy_1, dy_2, dy_3, dy_7, dy_21, px_brT, px_brF, true_and, and_true, and_false, false_and, and_self, true_implies, false_implies, or_true, true_or, or_false, false_or, eq_self, ne_eq, not_false_eq_true, not_true_eq_false, if_true, if_false, List.mem_cons, List.not_mem_nil, List.length_cons, List.length_nil, Nat.reduceEqDiff, Nat.reduceAdd, Nat.reduceSub, Nat.reduceLeDiff, Nat.reduceLT, Int.reduceEq, Int.reduceLT, Int.reduceLE, Int.reduceNeg, Int.reduceAdd, Int.reduceSub, Int.reduceToNat, ↓reduceIte, one_ne_zero_, zero_ne_one_, px_in32L, cd_146, cd_100, cd_101, cd_102, hel, heg]
          refine sp_sWithin hst2 hok ?_
          generalize hsm : sm N (fun i => b1 (wi (g i).1 t)) = sw at *
          have hswr : 0 ≤ sw ∧ sw ≤ N := by
            have := sm_bnd (c := 1) hst.2.1 (f := fun i => b1 (wi (g i).1 t)) (fun j _ _ => b1_rng _)
            omega
          have hN12 := hst.2.2.1
          simp only [px_go, px_Q0_at, px_sx_0, px_sx_s, px_cl, px_step, ↓px_ll, px_lg, f4_, ↓px_r1, ↓px_r2, ↓px_r4, ↓px_r5, ↓px_p1, ↓px_p2, ↓px_p3, ↓px_pop, px_k_0, px_k_s, px_k3_0, px_stk_, px_cats, px_ent, px_st1, px_st2, px_mask, ↓px_tsw, ↓px_lsw, ct_, mls_0, mls_1, mls_2, mls_3, mls_4, mls_5, kd_0, kd_1, kd_2, kd_3, ln_0, ln_1, ln_2, ln_3, gf_0, gf_1, gf_2, gf_3, gf_4, gf_7, gf_21, gf_63, dy_0, dy_1, dy_2, dy_3, dy_7, dy_21, px_brT, px_brF, true_and, and_true, and_false, false_and, and_self, true_implies, false_implies, or_true, true_or, or_false, false_or, eq_self, ne_eq, not_false_eq_true, not_true_eq_false, if_true, if_false, List.mem_cons, List.not_mem_nil, List.length_cons, List.length_nil, Nat.reduceEqDiff, Nat.reduceAdd, Nat.reduceSub, Nat.reduceLeDiff, Nat.reduceLT, Int.reduceEq, Int.reduceLT, Int.reduceLE, Int.reduceNeg, Int.reduceAdd, Int.reduceSub, Int.reduceToNat, ↓reduceIte, one_ne_zero_, zero_ne_one_, px_in32L, cd_146, cd_100, cd_101, cd_102, hel, heg, e43]
          repeat' (first | (with_reducible apply And.intro) | (with_reducible refine px_br_intro (fun _ => ?_) (fun _ => ?_)))
          all_goals (try (first | (unfold px_in32; omega) | omega))
          · rename_i c4; exact h5 hp c3 z (Or.inl (by omega))
          · rename_i c4
            have hmi : (∃ j, 0 ≤ j ∧ j < px_up M 2 1 0 e 2 ∧ wi (pl s j) t ∧ mtg N g (pl s j) t) ↔ (∃ j, 0 ≤ j ∧ j < M e 2 ∧ wi (pl s j) t ∧ mtg N g (pl s j) t) := by rw [ec]
            refine sp_inWay hE.1 hls2 hok hst2 (fun y => ?_) (fun y => ?_)
            · rw [hmi] at y
              simp only [px_go, px_Q0_at, px_sx_0, px_sx_s, px_cl, px_step, ↓px_ll, px_lg, f4_, ↓px_r1, ↓px_r2, ↓px_r4, ↓px_r5, ↓px_p1, ↓px_p2, ↓px_p3, ↓px_pop, px_k_0, px_k_s, px_k3_0, px_stk_, px_cats, px_ent, px_st1, px_st2, px_mask, ↓px_tsw, ↓px_lsw, ct_, mls_0, mls_1, mls_2, mls_3, mls_4, mls_5, kd_0, kd_1, kd_2, kd_3, ln_0, ln_1, ln_2, ln_3, gf_0, gf_1, gf_2, gf_3, gf_4, gf_7, gf_21, gf_63, dy_0, dy_1, dy_2, dy_3, dy_7, dy_21, px_brT, px_brF, true_and, and_true, and_false, false_and, and_self, true_implies, false_implies, or_true, true_or, or_false, false_or, eq_self, ne_eq, not_false_eq_true, not_true_eq_false, if_true, if_false, List.mem_cons, List.not_mem_nil, List.length_cons, List.length_nil, Nat.reduceEqDiff, Nat.reduceAdd, Nat.reduceSub, Nat.reduceLeDiff, Nat.reduceLT, Int.reduceEq, Int.reduceLT, Int.reduceLE, Int.reduceNeg, Int.reduceAdd, Int.reduceSub, Int.reduceToNat, ↓reduceIte, one_ne_zero_, zero_ne_one_, px_in32L, cd_146, cd_100, cd_101, cd_102, hel, heg]
              exact h5 hp c3 z (Or.inr y)
            · rw [hmi] at y
              simp only [px_go, px_Q0_at, px_sx_0, px_sx_s, px_cl, px_step, ↓px_ll, px_lg, f4_, ↓px_r1, ↓px_r2, ↓px_r4, ↓px_r5, ↓px_p1, ↓px_p2, ↓px_p3, ↓px_pop, px_k_0, px_k_s, px_k3_0, px_stk_, px_cats, px_ent, px_st1, px_st2, px_mask, ↓px_tsw, ↓px_lsw, ct_, mls_0, mls_1, mls_2, mls_3, mls_4, mls_5, kd_0, kd_1, kd_2, kd_3, ln_0, ln_1, ln_2, ln_3, gf_0, gf_1, gf_2, gf_3, gf_4, gf_7, gf_21, gf_63, dy_0, dy_1, dy_2, dy_3, dy_7, dy_21, px_brT, px_brF, true_and, and_true, and_false, false_and, and_self, true_implies, false_implies, or_true, true_or, or_false, false_or, eq_self, ne_eq, not_false_eq_true, not_true_eq_false, if_true, if_false, List.mem_cons, List.not_mem_nil, List.length_cons, List.length_nil, Nat.reduceEqDiff, Nat.reduceAdd, Nat.reduceSub, Nat.reduceLeDiff, Nat.reduceLT, Int.reduceEq, Int.reduceLT, Int.reduceLE, Int.reduceNeg, Int.reduceAdd, Int.reduceSub, Int.reduceToNat, ↓reduceIte, one_ne_zero_, zero_ne_one_, px_in32L, cd_146, cd_100, cd_101, cd_102, hel, heg]
              refine sp_loseWithin hst2 hs.1 hok (fun M1 N1 g1 q1 q2 q3 q4 q5 q6 => ?_)
              rw [hsm] at q6
              have fr1 : ∀ b, 20 ≤ b → M1 b = M b := fun b b0 => by rw [q5.2 b (by omega) (by omega) (by omega) (by omega) (by omega), fc b (by omega)]
              have hls1 : lsC M1 e (pl s) := lsC_frame b1' (fr1 _ (by omega)) (fr1 _ (by omega)) (fr1 _ (by omega))
              have e1 : M1 e 2 = M e 2 := by rw [fr1 e (by omega)]
              have hci1 : ci M1 := ci_congr (fun b b0 _ _ => fr1 b (by omega)) hci
              have hfull := lp_fetch (M0 := M1) (N := N1) (w := cm) (g := g1) (pl := pl s) (t := t) (Q := Q) hE.1 hls1 (fun i j i0 i1 j1 => by rw [fr1 (e + 1) (by omega)]; rw [e1] at j1; exact b2 i j i0 i1 j1) hok q1.2.1 hci1 (fun j j0 j1 w1 => by
                rw [e1] at j1
                rw [fr1 62 (by decide), fr1 105 (by decide), fr1 (e + 2) (by omega)]
                exact ⟨(b3 j j0 j1).1, z j j0 j1 w1⟩) (fun i j i0 i1 j0 j1 w1 x => by
                rw [e1] at j1
                obtain ⟨⟨l, l0, l1, l2⟩, l3⟩ := (q3 (g1 i)).mp ⟨i, i0, i1, rfl⟩
                rw [x] at l3
                exact l3 w1) (by rw [e1, hcm]; omega) (fun M' g' a1 a2 a3 a4 => by
                rw [e1, hcm, q6] at a1 a2 a3
                refine h1 M' g' hp c3 z (by omega) y a1 a2 (fun x => ?_) (frS_frW2 (frS_trans a4 q5))
                rw [a3 x, ← q6, q3 x]
                refine or_congr Iff.rfl (exists_congr (fun j => ?_))
                constructor
                · rintro ⟨d0, d1, d2, d3⟩
                  have hj := b1'.2.2 j d0 d1
                  refine ⟨d0, d1, d2, ?_⟩
                  rw [d3, fr1 (e + 2) (by omega)]
                  unfold rdC
                  rw [fr1 57 (by decide), fr1 (64 + M (e + 2) j) (by omega)]
                · rintro ⟨d0, d1, d2, d3⟩
                  have hj := b1'.2.2 j d0 d1
                  refine ⟨d0, d1, d2, ?_⟩
                  rw [d3, fr1 (e + 2) (by omega)]
                  unfold rdC
                  rw [fr1 57 (by decide), fr1 (64 + M (e + 2) j) (by omega)])
                0 (by rw [e1]; exact b1'.1) M1 g1 N1 (Int.le_refl 0) q1 (by rw [sm_0]; omega) (fun y => ⟨fun a => Or.inl a, fun a => by
                  rcases a with a | ⟨i, i0, i1, _⟩
                  · exact a
                  · omega⟩) (srt_dst q2) (frS_refl M1)
              simp only [px_go, px_Q0_at, px_sx_0, px_sx_s, px_cl, px_step, ↓px_ll, px_lg, f4_, ↓px_r1, ↓px_r2, ↓px_r4, ↓px_r5, ↓px_p1, ↓px_p2, ↓px_p3, ↓px_pop, px_k_0, px_k_s, px_k3_0, px_stk_, px_cats, px_ent, px_st1, px_st2, px_mask, ↓px_tsw, ↓px_lsw, ct_, mls_0, mls_1, mls_2, mls_3, mls_4, mls_5, kd_0, kd_1, kd_2, kd_3, ln_0, ln_1, ln_2, ln_3, gf_0, gf_1, gf_2, gf_3, gf_4, gf_7, gf_21, gf_63, dy_0, dy_1, dy_2, dy_3, dy_7, dy_21, px_brT, px_brF, true_and, and_true, and_false, false_and, and_self, true_implies, false_implies, or_true, true_or, or_false, false_or, eq_self, ne_eq, not_false_eq_true, not_true_eq_false, if_true, if_false, List.mem_cons, List.not_mem_nil, List.length_cons, List.length_nil, Nat.reduceEqDiff, Nat.reduceAdd, Nat.reduceSub, Nat.reduceLeDiff, Nat.reduceLT, Int.reduceEq, Int.reduceLT, Int.reduceLE, Int.reduceNeg, Int.reduceAdd, Int.reduceSub, Int.reduceToNat, ↓reduceIte, one_ne_zero_, zero_ne_one_, px_in32L, cd_146, cd_100, cd_101, cd_102, hel, heg]
              exact hfull
        · rw [hww True] at z
          simp only [px_go, px_Q0_at, px_sx_0, px_sx_s, px_cl, px_step, ↓px_ll, px_lg, f4_, ↓px_r1, ↓px_r2, ↓px_r4, ↓px_r5, ↓px_p1, ↓px_p2, ↓px_p3, ↓px_pop, px_k_0, px_k_s, px_k3_0, px_stk_, px_cats, px_ent, px_st1, px_st2, px_mask, ↓px_tsw, ↓px_lsw, ct_, mls_0, mls_1, mls_2, mls_3, mls_4, mls_5, kd_0, kd_1, kd_2, kd_3, ln_0, ln_1, ln_2, ln_3, gf_0, gf_1, gf_2, gf_3, gf_4, gf_7, gf_21, gf_63, dy_0, dy_1, dy_2, dy_3, dy_7, dy_21, px_brT, px_brF, true_and, and_true, and_false, false_and, and_self, true_implies, false_implies, or_true, true_or, or_false, false_or, eq_self, ne_eq, not_false_eq_true, not_true_eq_false, if_true, if_false, List.mem_cons, List.not_mem_nil, List.length_cons, List.length_nil, Nat.reduceEqDiff, Nat.reduceAdd, Nat.reduceSub, Nat.reduceLeDiff, Nat.reduceLT, Int.reduceEq, Int.reduceLT, Int.reduceLE, Int.reduceNeg, Int.reduceAdd, Int.reduceSub, Int.reduceToNat, ↓reduceIte, one_ne_zero_, zero_ne_one_, px_in32L, cd_146, cd_100, cd_101, cd_102, hel, heg]
          exact h4 hp c3 z
  · rw [lst0] at hp
    simp only [px_go, px_Q0_at, px_sx_0, px_sx_s, px_cl, px_step, ↓px_ll, px_lg, f4_, ↓px_r1, ↓px_r2, ↓px_r4, ↓px_r5, ↓px_p1, ↓px_p2, ↓px_p3, ↓px_pop, px_k_0, px_k_s, px_k3_0, px_stk_, px_cats, px_ent, px_st1, px_st2, px_mask, ↓px_tsw, ↓px_lsw, ct_, mls_0, mls_1, mls_2, mls_3, mls_4, mls_5, kd_0, kd_1, kd_2, kd_3, ln_0, ln_1, ln_2, ln_3, gf_0, gf_1, gf_2, gf_3, gf_4, gf_7, gf_21, gf_63, dy_0, dy_1, dy_2, dy_3, dy_7, dy_21, px_brT, px_brF, true_and, and_true, and_false, false_and, and_self, true_implies, false_implies, or_true, true_or, or_false, false_or, eq_self, ne_eq, not_false_eq_true, not_true_eq_false, if_true, if_false, List.mem_cons, List.not_mem_nil, List.length_cons, List.length_nil, Nat.reduceEqDiff, Nat.reduceAdd, Nat.reduceSub, Nat.reduceLeDiff, Nat.reduceLT, Int.reduceEq, Int.reduceLT, Int.reduceLE, Int.reduceNeg, Int.reduceAdd, Int.reduceSub, Int.reduceToNat, ↓reduceIte, one_ne_zero_, zero_ne_one_, px_in32L, cd_146, cd_100, cd_101, cd_102]
    refine sp_numbered hw2 ?_
    unfold edR
    rw [es, fc 21 (by decide)]
    have hsr := slot_rng (M := M) num
    generalize slot M num = s at *
    by_cases q : s < 0
    · rw [if_pos q]
      simp only [px_go, px_Q0_at, px_sx_0, px_sx_s, px_cl, px_step, ↓px_ll, px_lg, f4_, ↓px_r1, ↓px_r2, ↓px_r4, ↓px_r5, ↓px_p1, ↓px_p2, ↓px_p3, ↓px_pop, px_k_0, px_k_s, px_k3_0, px_stk_, px_cats, px_ent, px_st1, px_st2, px_mask, ↓px_tsw, ↓px_lsw, ct_, mls_0, mls_1, mls_2, mls_3, mls_4, mls_5, kd_0, kd_1, kd_2, kd_3, ln_0, ln_1, ln_2, ln_3, gf_0, gf_1, gf_2, gf_3, gf_4, gf_7, gf_21, gf_63, dy_0, dy_1, dy_2, dy_3, dy_7, dy_21, px_brT, px_brF, true_and, and_true, and_false, false_and, and_self, true_implies, false_implies, or_true, true_or, or_false, false_or, eq_self, ne_eq, not_false_eq_true, not_true_eq_false, if_true, if_false, List.mem_cons, List.not_mem_nil, List.length_cons, List.length_nil, Nat.reduceEqDiff, Nat.reduceAdd, Nat.reduceSub, Nat.reduceLeDiff, Nat.reduceLT, Int.reduceEq, Int.reduceLT, Int.reduceLE, Int.reduceNeg, Int.reduceAdd, Int.reduceSub, Int.reduceToNat, ↓reduceIte, one_ne_zero_, zero_ne_one_, px_in32L, cd_146, cd_100, cd_101, cd_102]
      exact h2 (by omega) q
    · rw [if_neg q]
      have hE := hw.1 s (by omega) (by omega)
      have hei := hed.2 s (by omega) (by omega)
      have h3 := h3 s _ (by omega) rfl (by omega) rfl (fun z => absurd z hp)
      have hel := isE_lay hE.1
      have heg := isE_gf hE.1
      have hem := isE_m hE.1
      generalize M 21 s = e at *
      have hls2 : lsC (px_up M 2 1 0) e (pl s) := lsC_frame hei.1 (fc _ (by omega)) (fc _ (by omega)) (fc _ (by omega))
      simp only [px_go, px_Q0_at, px_sx_0, px_sx_s, px_cl, px_step, ↓px_ll, px_lg, f4_, ↓px_r1, ↓px_r2, ↓px_r4, ↓px_r5, ↓px_p1, ↓px_p2, ↓px_p3, ↓px_pop, px_k_0, px_k_s, px_k3_0, px_stk_, px_cats, px_ent, px_st1, px_st2, px_mask, ↓px_tsw, ↓px_lsw, ct_, mls_0, mls_1, mls_2, mls_3, mls_4, mls_5, kd_0, kd_1, kd_2, kd_3, ln_0, ln_1, ln_2, ln_3, gf_0, gf_1, gf_2, gf_3, gf_4, gf_7, gf_21, gf_63, dy_0, dy_1, dy_2, dy_3, dy_7, dy_21, px_brT, px_brF, true_and, and_true, and_false, false_and, and_self, true_implies, false_implies, or_true, true_or, or_false, false_or, eq_self, ne_eq, not_false_eq_true, not_true_eq_false, if_true, if_false, List.mem_cons, List.not_mem_nil, List.length_cons, List.length_nil, Nat.reduceEqDiff, Nat.reduceAdd, Nat.reduceSub, Nat.reduceLeDiff, Nat.reduceLT, Int.reduceEq, Int.reduceLT, Int.reduceLE, Int.reduceNeg, Int.reduceAdd, Int.reduceSub, Int.reduceToNat, ↓reduceIte, one_ne_zero_, zero_ne_one_, px_in32L, cd_146, cd_100, cd_101, cd_102, hel, heg]
      repeat' (first | (with_reducible apply And.intro) | (with_reducible refine px_br_intro (fun _ => ?_) (fun _ => ?_)))
      all_goals (try (first | (unfold px_in32; omega) | omega))
      refine sp_eWithin (t := []) hE.1 hls2 ⟨okl_nil, by decide⟩ ?_
      simp only [px_go, px_Q0_at, px_sx_0, px_sx_s, px_cl, px_step, ↓px_ll, px_lg, f4_, ↓px_r1, ↓px_r2, ↓px_r4, ↓px_r5, ↓px_p1, ↓px_p2, ↓px_p3, ↓px_pop, px_k_0, px_k_s, px_k3_0, px_stk_, px_cats, px_ent, px_st1, px_st2, px_mask, ↓px_tsw, ↓px_lsw, ct_, mls_0, mls_1, mls_2, mls_3, mls_4, mls_5, kd_0, kd_1, kd_2, kd_3, ln_0, ln_1, ln_2, ln_3, gf_0, gf_1, gf_2, gf_3, gf_4, gf_7, gf_21, gf_63, dy_0, dy_1, dy_2, dy_3, dy_7, dy_21, px_brT, px_brF, true_and, and_true, and_false, false_and, and_self, true_implies, false_implies, or_true, true_or, or_false, false_or, eq_self, ne_eq, not_false_eq_true, not_true_eq_false, if_true, if_false, List.mem_cons, List.not_mem_nil, List.length_cons, List.length_nil, Nat.reduceEqDiff, Nat.reduceAdd, Nat.reduceSub, Nat.reduceLeDiff, Nat.reduceLT, Int.reduceEq, Int.reduceLT, Int.reduceLE, Int.reduceNeg, Int.reduceAdd, Int.reduceSub, Int.reduceToNat, ↓reduceIte, one_ne_zero_, zero_ne_one_, px_in32L, cd_146, cd_100, cd_101, cd_102, hel, heg]
      repeat' (first | (with_reducible apply And.intro) | (with_reducible refine px_br_intro (fun _ => ?_) (fun _ => ?_)))
      all_goals first
        | exact h3
        | (rename_i c1 c2; exact absurd (hlc0.mpr rfl) c2)
        | (rename_i c1 c2 c3; exact absurd (hlc0.mpr rfl) c2)
        | (rename_i c1 c2 c3; exact absurd (hlc0.mpr rfl) c1)
        | (rename_i c1; exact absurd (hlc0.mpr rfl) c1)
end PS
