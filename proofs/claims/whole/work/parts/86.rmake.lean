set_option maxRecDepth 100000 in
/-- X12_runAt -/
theorem cd_195 : px_at 195 0 = some (1, [], .iconst 0, []) ∧ px_at 195 1 = some (2, [], .istore_n 3, []) ∧ px_at 195 2 = some (3, [1, 1, 1, 1], .iload_n 1, []) ∧ px_at 195 3 = some (4, [], .iload_n 3, []) ∧ px_at 195 4 = some (5, [], .iadd, []) ∧ px_at 195 5 = some (6, [], .aload_n 0, []) ∧ px_at 195 6 = some (9, [], .getfield 129, [11, 14, 0, 0, 139]) ∧ px_at 195 9 = some (12, [], .if_icmp .ge 39, [48]) ∧ px_at 195 12 = some (13, [], .iload_n 2, []) ∧ px_at 195 13 = some (14, [], .iload_n 3, []) ∧ px_at 195 14 = some (15, [], .iadd, []) ∧ px_at 195 15 = some (16, [], .aload_n 0, []) ∧ px_at 195 16 = some (19, [], .getfield 115, [11, 9, 0, 0, 134]) ∧ px_at 195 19 = some (22, [], .if_icmp .ge 29, [48]) ∧ px_at 195 22 = some (23, [], .aload_n 0, []) ∧ px_at 195 23 = some (26, [], .getfield 38, [11, 11, 2, 1, 136]) ∧ px_at 195 26 = some (27, [], .iload_n 1, []) ∧ px_at 195 27 = some (28, [], .iload_n 3, []) ∧ px_at 195 28 = some (29, [], .iadd, []) ∧ px_at 195 29 = some (30, [], .iaload, []) ∧ px_at 195 30 = some (31, [], .aload_n 0, []) ∧ px_at 195 31 = some (34, [], .getfield 29, [11, 7, 2, 1, 132]) ∧ px_at 195 34 = some (35, [], .iload_n 2, []) ∧ px_at 195 35 = some (36, [], .iload_n 3, []) ∧ px_at 195 36 = some (37, [], .iadd, []) ∧ px_at 195 37 = some (38, [], .iaload, []) ∧ px_at 195 38 = some (41, [], .if_icmp .ne 10, [48]) ∧ px_at 195 41 = some (42, [], .iload_n 3, []) ∧ px_at 195 42 = some (43, [], .iconst 1, []) ∧ px_at 195 43 = some (44, [], .iadd, []) ∧ px_at 195 44 = some (45, [], .istore_n 3, []) ∧ px_at 195 45 = some (48, [], .goto (-43), [2]) ∧ px_at 195 48 = some (49, [], .iload_n 3, []) ∧ px_at 195 49 = some (50, [], .ireturn, [0]) := ⟨rfl, rfl, rfl, rfl, rfl, rfl, rfl, rfl, rfl, rfl, rfl, rfl, rfl, rfl, rfl, rfl, rfl, rfl, rfl, rfl, rfl, rfl, rfl, rfl, rfl, rfl, rfl, rfl, rfl, rfl, rfl, rfl, rfl, rfl⟩
set_option maxRecDepth 100000 in
/-- X12_makes -/
theorem cd_196 : px_at 196 0 = some (1, [], .aload_n 0, []) ∧ px_at 196 1 = some (2, [], .iconst 0, []) ∧ px_at 196 2 = some (5, [], .putfield 132, [11, 15, 0, 0, 140]) ∧ px_at 196 5 = some (6, [], .iconst (-1), []) ∧ px_at 196 6 = some (7, [], .istore_n 1, []) ∧ px_at 196 7 = some (8, [], .iconst 0, []) ∧ px_at 196 8 = some (9, [], .istore_n 2, []) ∧ px_at 196 9 = some (10, [1, 1, 1, 0, 0, 0, 0], .iload_n 2, []) ∧ px_at 196 10 = some (11, [], .aload_n 0, []) ∧ px_at 196 11 = some (14, [], .getfield 129, [11, 14, 0, 0, 139]) ∧ px_at 196 14 = some (17, [], .if_icmp .ge 127, [141]) ∧ px_at 196 17 = some (18, [], .iconst 2, []) ∧ px_at 196 18 = some (19, [], .istore_n 3, []) ∧ px_at 196 19 = some (20, [], .iconst (-1), []) ∧ px_at 196 20 = some (22, [], .istore 4, []) ∧ px_at 196 22 = some (23, [], .iconst 0, []) ∧ px_at 196 23 = some (25, [], .istore 5, []) ∧ px_at 196 25 = some (27, [1, 1, 1, 1, 1, 1, 0], .iload 5, []) ∧ px_at 196 27 = some (28, [], .aload_n 0, []) ∧ px_at 196 28 = some (31, [], .getfield 115, [11, 9, 0, 0, 134]) ∧ px_at 196 31 = some (34, [], .if_icmp .ge 34, [65]) ∧ px_at 196 34 = some (35, [], .aload_n 0, []) ∧ px_at 196 35 = some (36, [], .iload_n 2, []) ∧ px_at 196 36 = some (38, [], .iload 5, []) ∧ px_at 196 38 = some (41, [], .invokevirtual 135, [195, 2, 11, 270]) ∧ px_at 196 41 = some (43, [], .istore 6, []) ∧ px_at 196 43 = some (45, [], .iload 6, []) ∧ px_at 196 45 = some (46, [], .iload_n 3, []) ∧ px_at 196 46 = some (49, [], .if_icmp .gt 6, [52]) ∧ px_at 196 49 = some (52, [], .goto 10, [59]) ∧ px_at 196 52 = some (54, [], .iload 6, []) ∧ px_at 196 54 = some (55, [], .istore_n 3, []) ∧ px_at 196 55 = some (57, [], .iload 5, []) ∧ px_at 196 57 = some (59, [], .istore 4, []) ∧ px_at 196 59 = some (62, [], .iinc 5 1, []) ∧ px_at 196 62 = some (65, [], .goto (-37), [25]) ∧ px_at 196 65 = some (67, [], .iload 4, []) ∧ px_at 196 67 = some (68, [], .iconst (-1), []) ∧ px_at 196 68 = some (71, [], .if_icmp .eq 27, [95]) ∧ px_at 196 71 = some (72, [], .aload_n 0, []) ∧ px_at 196 72 = some (75, [], .sipush 128, []) ∧ px_at 196 75 = some (77, [], .iload 4, []) ∧ px_at 196 77 = some (78, [], .iadd, []) ∧ px_at 196 78 = some (81, [], .invokevirtual 138, [197, 1, 11, 271]) ∧ px_at 196 81 = some (82, [], .aload_n 0, []) ∧ px_at 196 82 = some (83, [], .iload_n 3, []) ∧ px_at 196 83 = some (86, [], .invokevirtual 138, [197, 1, 11, 271]) ∧ px_at 196 86 = some (87, [], .iconst (-1), []) ∧ px_at 196 87 = some (88, [], .istore_n 1, []) ∧ px_at 196 88 = some (89, [], .iload_n 2, []) ∧ px_at 196 89 = some (90, [], .iload_n 3, []) ∧ px_at 196 90 = some (91, [], .iadd, []) ∧ px_at 196 91 = some (92, [], .istore_n 2, []) ∧ px_at 196 92 = some (95, [], .goto (-83), [9]) ∧ px_at 196 95 = some (96, [], .iload_n 1, []) ∧ px_at 196 96 = some (97, [], .iconst (-1), []) ∧ px_at 196 97 = some (100, [], .if_icmp .ne 13, [110]) ∧ px_at 196 100 = some (101, [], .aload_n 0, []) ∧ px_at 196 101 = some (104, [], .getfield 132, [11, 15, 0, 0, 140]) ∧ px_at 196 104 = some (105, [], .istore_n 1, []) ∧ px_at 196 105 = some (106, [], .aload_n 0, []) ∧ px_at 196 106 = some (107, [], .iconst 0, []) ∧ px_at 196 107 = some (110, [], .invokevirtual 138, [197, 1, 11, 271]) ∧ px_at 196 110 = some (111, [], .aload_n 0, []) ∧ px_at 196 111 = some (114, [], .getfield 41, [11, 12, 2, 1, 137]) ∧ px_at 196 114 = some (115, [], .iload_n 1, []) ∧ px_at 196 115 = some (116, [], .aload_n 0, []) ∧ px_at 196 116 = some (119, [], .getfield 41, [11, 12, 2, 1, 137]) ∧ px_at 196 119 = some (120, [], .iload_n 1, []) ∧ px_at 196 120 = some (121, [], .iaload, []) ∧ px_at 196 121 = some (122, [], .iconst 1, []) ∧ px_at 196 122 = some (123, [], .iadd, []) ∧ px_at 196 123 = some (124, [], .iastore, []) ∧ px_at 196 124 = some (125, [], .aload_n 0, []) ∧ px_at 196 125 = some (126, [], .aload_n 0, []) ∧ px_at 196 126 = some (129, [], .getfield 38, [11, 11, 2, 1, 136]) ∧ px_at 196 129 = some (130, [], .iload_n 2, []) ∧ px_at 196 130 = some (131, [], .iaload, []) ∧ px_at 196 131 = some (134, [], .invokevirtual 138, [197, 1, 11, 271]) ∧ px_at 196 134 = some (135, [], .iload_n 2, []) ∧ px_at 196 135 = some (136, [], .iconst 1, []) ∧ px_at 196 136 = some (137, [], .iadd, []) ∧ px_at 196 137 = some (138, [], .istore_n 2, []) ∧ px_at 196 138 = some (141, [], .goto (-129), [9]) ∧ px_at 196 141 = some (142, [], .return_, []) := ⟨rfl, rfl, rfl, rfl, rfl, rfl, rfl, rfl, rfl, rfl, rfl, rfl, rfl, rfl, rfl, rfl, rfl, rfl, rfl, rfl, rfl, rfl, rfl, rfl, rfl, rfl, rfl, rfl, rfl, rfl, rfl, rfl, rfl, rfl, rfl, rfl, rfl, rfl, rfl, rfl, rfl, rfl, rfl, rfl, rfl, rfl, rfl, rfl, rfl, rfl, rfl, rfl, rfl, rfl, rfl, rfl, rfl, rfl, rfl, rfl, rfl, rfl, rfl, rfl, rfl, rfl, rfl, rfl, rfl, rfl, rfl, rfl, rfl, rfl, rfl, rfl, rfl, rfl, rfl, rfl, rfl, rfl, rfl, rfl, rfl⟩
set_option maxRecDepth 100000 in
/-- X12_puts -/
theorem cd_197 : px_at 197 0 = some (1, [], .aload_n 0, []) ∧ px_at 197 1 = some (4, [], .getfield 41, [11, 12, 2, 1, 137]) ∧ px_at 197 4 = some (5, [], .aload_n 0, []) ∧ px_at 197 5 = some (8, [], .getfield 132, [11, 15, 0, 0, 140]) ∧ px_at 197 8 = some (9, [], .iload_n 1, []) ∧ px_at 197 9 = some (10, [], .iastore, []) ∧ px_at 197 10 = some (11, [], .aload_n 0, []) ∧ px_at 197 11 = some (12, [], .aload_n 0, []) ∧ px_at 197 12 = some (15, [], .getfield 132, [11, 15, 0, 0, 140]) ∧ px_at 197 15 = some (16, [], .iconst 1, []) ∧ px_at 197 16 = some (17, [], .iadd, []) ∧ px_at 197 17 = some (20, [], .putfield 132, [11, 15, 0, 0, 140]) ∧ px_at 197 20 = some (21, [], .return_, []) := ⟨rfl, rfl, rfl, rfl, rfl, rfl, rfl, rfl, rfl, rfl, rfl, rfl, rfl⟩
/-! the reference: pieces -/
section PX
variable {M : px_mem} {Q : Option pv → px_mem → Prop}
set_option maxHeartbeats 600000 in
set_option maxRecDepth 100000 in
theorem lp_runAt {i f n m : Int} (h14 : M 127 14 = n) (h9 : M 127 9 = m) (hi : 0 ≤ i ∧ i ≤ n) (hn : n ≤ 40) (hf : 0 ≤ f ∧ f ≤ m) (hm : m ≤ 40) (h : Q (some (0, rl (M 137) (M 134) n m i f)) M) (t : Int) (hk_t : t ≤ 40) : 0 ≤ t → (∀ j, 0 ≤ j → j < t → i + j < n ∧ f + j < m ∧ M 137 (i + j) = M 134 (f + j)) → px_WP 195 0 0 (px_Q0 LAY Q) 2 [(2, 127), (0, i), (0, f), (0, t)] [] LAY M 0 0 := by
  refine up_ind (P := fun t => 0 ≤ t → (∀ j, 0 ≤ j → j < t → i + j < n ∧ f + j < m ∧ M 137 (i + j) = M 134 (f + j)) → px_WP 195 0 0 (px_Q0 LAY Q) 2 [(2, 127), (0, i), (0, f), (0, t)] [] LAY M 0 0) (40) (fun t hk_t ih => ?_) t hk_t
  intro t0 hj
  have hr := @rl_hit (M 137) (M 134) n m i f t t0 hk_t
  refine px_go_ok (inl := []) 60 ?_
  simp only [px_go, px_Q0_at, px_sx_0, px_sx_s, px_cl, px_step, ↓px_ll, px_lg, f4_, ↓px_r1, ↓px_r2, ↓px_r4, ↓px_r5, ↓px_p1, ↓px_p2, ↓px_p3, ↓px_pop, px_k_0, px_k_s, px_k3_0, px_stk_, px_cats, px_ent, px_st1, px_st2, px_mask, ↓px_tsw, ↓px_lsw, ct_, mls_0, mls_1, mls_2, mls_3, mls_4, mls_5, kd_0, kd_1, kd_2, kd_3, ln_0, ln_1, ln_2, ln_3, gf_0, gf_1, gf_2, gf_3, gf_4, gf_7, gf_21, gf_63, dy_0, dy_1, dy_2, dy_3, dy_7, dy_21, px_brT, px_brF, true_and, and_true, and_false, false_and, and_self, true_implies, false_implies, or_true, true_or, or_false, false_or, eq_self, ne_eq, not_false_eq_true, not_true_eq_false, if_true, if_false, List.mem_cons, List.not_mem_nil, List.length_cons, List.length_nil, Nat.reduceEqDiff, Nat.reduceAdd, Nat.reduceSub, Nat.reduceLeDiff, Nat.reduceLT, Int.reduceEq, Int.reduceLT, Int.reduceLE, Int.reduceNeg, Int.reduceAdd, Int.reduceSub, Int.reduceToNat, ↓reduceIte, one_ne_zero_, zero_ne_one_, px_in32L, cd_195, h14, h9]
  repeat' (first | (with_reducible apply And.intro) | (with_reducible refine px_br_intro (fun _ => ?_) (fun _ => ?_)))
  all_goals (try (first | (unfold px_in32; omega) | omega))
  · rw [hr (Or.inl (by omega)) hj] at h; exact h
  · rw [hr (Or.inr (Or.inl (by omega))) hj] at h; exact h
  · rename_i c1 c2 c3
    refine ih (by omega) (by omega) (fun j j0 j1 => ?_)
    by_cases q : j = t
    · rw [q]; exact ⟨by omega, by omega, c3⟩
    · exact hj j j0 (by omega)
  · rename_i c1 c2 c3
    rw [hr (Or.inr (Or.inr c3)) hj] at h; exact h
set_option maxHeartbeats 600000 in
set_option maxRecDepth 100000 in
theorem sp_runAt {i f n m : Int} (h14 : M 127 14 = n) (h9 : M 127 9 = m) (hi : 0 ≤ i ∧ i ≤ n) (hn : n ≤ 40) (hf : 0 ≤ f ∧ f ≤ m) (hm : m ≤ 40) (h : Q (some (0, rl (M 137) (M 134) n m i f)) M) : px_Ok 195 [(2, 127), (0, i), (0, f)] LAY M Q := by
  refine px_ok_go (inl := []) (ls0 := [(2, 127), (0, i), (0, f), (9, 0)]) 60 (by decide) (Nat.le_of_ble_eq_true rfl) rfl ?_
  simp only [px_go, px_Q0_at, px_sx_0, px_sx_s, px_cl, px_step, ↓px_ll, px_lg, f4_, ↓px_r1, ↓px_r2, ↓px_r4, ↓px_r5, ↓px_p1, ↓px_p2, ↓px_p3, ↓px_pop, px_k_0, px_k_s, px_k3_0, px_stk_, px_cats, px_ent, px_st1, px_st2, px_mask, ↓px_tsw, ↓px_lsw, ct_, mls_0, mls_1, mls_2, mls_3, mls_4, mls_5, kd_0, kd_1, kd_2, kd_3, ln_0, ln_1, ln_2, ln_3, gf_0, gf_1, gf_2, gf_3, gf_4, gf_7, gf_21, gf_63, dy_0, dy_1, dy_2, dy_3, dy_7, dy_21, px_brT, px_brF, true_and, and_true, and_false, false_and, and_self, true_implies, false_implies, or_true, true_or, or_false, false_or, eq_self, ne_eq, not_false_eq_true, not_true_eq_false, if_true, if_false, List.mem_cons, List.not_mem_nil, List.length_cons, List.length_nil, Nat.reduceEqDiff, Nat.reduceAdd, Nat.reduceSub, Nat.reduceLeDiff, Nat.reduceLT, Int.reduceEq, Int.reduceLT, Int.reduceLE, Int.reduceNeg, Int.reduceAdd, Int.reduceSub, Int.reduceToNat, ↓reduceIte, one_ne_zero_, zero_ne_one_, px_in32L, cd_195]
  repeat' (first | (with_reducible apply And.intro) | (with_reducible refine px_br_intro (fun _ => ?_) (fun _ => ?_)))
  all_goals (try (first | (unfold px_in32; omega) | omega))
  exact lp_runAt h14 h9 hi hn hf hm h 0 (by decide) (Int.le_refl 0) (fun j j0 j1 => by omega)
set_option maxHeartbeats 600000 in
set_option maxRecDepth 100000 in
theorem sp_puts {y : Int} (h0 : 0 ≤ M 127 15 ∧ M 127 15 < 90) (h : ∀ M', M' 127 15 = M 127 15 + 1 → lst (M' 138) (M 127 15 + 1) = lst (M 138) (M 127 15) ++ [y] → (∀ x, x ≠ 15 → M' 127 x = M 127 x) → (∀ b, b ≠ 127 → b ≠ 138 → M' b = M b) → Q none M') : px_Ok 197 [(2, 127), (0, y)] LAY M Q := by
  refine px_ok_go (inl := []) (ls0 := [(2, 127), (0, y)]) 60 (by decide) (Nat.le_of_ble_eq_true rfl) rfl ?_
  simp only [px_go, px_Q0_at, px_sx_0, px_sx_s, px_cl, px_step, ↓px_ll, px_lg, f4_, ↓px_r1, ↓px_r2, ↓px_r4, ↓px_r5, ↓px_p1, ↓px_p2, ↓px_p3, ↓px_pop, px_k_0, px_k_s, px_k3_0, px_stk_, px_cats, px_ent, px_st1, px_st2, px_mask, ↓px_tsw, ↓px_lsw, ct_, mls_0, mls_1, mls_2, mls_3, mls_4, mls_5, kd_0, kd_1, kd_2, kd_3, ln_0, ln_1, ln_2, ln_3, gf_0, gf_1, gf_2, gf_3, gf_4, gf_7, gf_21, gf_63, dy_0, dy_1, dy_2, dy_3, dy_7, dy_21, px_brT, px_brF, true_and, and_true, and_false, false_and, and_self, true_implies, false_implies, or_true, true_or, or_false, false_or, eq_self, ne_eq, not_false_eq_true, not_true_eq_false, if_true, if_false, List.mem_cons, List.not_mem_nil, List.length_cons, List.length_nil, Nat.reduceEqDiff, Nat.reduceAdd, Nat.reduceSub, Nat.reduceLeDiff, Nat.reduceLT, Int.reduceEq, Int.reduceLT, Int.reduceLE, Int.reduceNeg, Int.reduceAdd, Int.reduceSub, Int.reduceToNat, ↓reduceIte, one_ne_zero_, zero_ne_one_, px_in32L, cd_197, px_up_at]
  repeat' (first | (with_reducible apply And.intro) | (with_reducible refine px_br_intro (fun _ => ?_) (fun _ => ?_)))
  all_goals (try (first | (unfold px_in32; omega) | omega))
  refine h _ ?_ ?_ ?_ ?_
  · rw [px_up_at, if_pos ⟨rfl, rfl⟩]
  · rw [row_ne (by decide)]; exact lst_up M 138 y h0.1
  · intro x hx; rw [px_up_at, if_neg (by omega), px_up_at, if_neg (by omega)]
  · intro b b0 b1; rw [row_ne b0, row_ne b1]
set_option maxHeartbeats 4000000 in
set_option maxRecDepth 100000 in
theorem lp_mk2 {own i n m : Int} (h14 : M 127 14 = n) (h9 : M 127 9 = m) (hi : 0 ≤ i ∧ i ≤ n) (hn : n ≤ 40) (hm : m ≤ 40) (hx : ∀ lg wh p l, isB (M 137) (M 134) n m i m p l → ((l ≤ 2 ∧ lg = 2 ∧ wh = -1) ∨ (3 ≤ l ∧ lg = l ∧ wh = p)) → px_WP 196 0 0 (px_Q0 LAY Q) 25 [(2, 127), (0, own), (0, i), (0, lg), (0, wh), (0, m), (9, 0)] [] LAY M 0 0) (f : Int) (hf : f ≤ m) : 0 ≤ f → ∀ lg wh p l, isB (M 137) (M 134) n m i f p l → ((l ≤ 2 ∧ lg = 2 ∧ wh = -1) ∨ (3 ≤ l ∧ lg = l ∧ wh = p)) → px_WP 196 0 0 (px_Q0 LAY Q) 25 [(2, 127), (0, own), (0, i), (0, lg), (0, wh), (0, f), (9, 0)] [] LAY M 0 0 := by
  refine up_ind (P := fun f => 0 ≤ f → ∀ lg wh p l, isB (M 137) (M 134) n m i f p l → ((l ≤ 2 ∧ lg = 2 ∧ wh = -1) ∨ (3 ≤ l ∧ lg = l ∧ wh = p)) → px_WP 196 0 0 (px_Q0 LAY Q) 25 [(2, 127), (0, own), (0, i), (0, lg), (0, wh), (0, f), (9, 0)] [] LAY M 0 0) m (fun f hf ih => ?_) f hf
  intro f0 lg wh p l hb hl
  by_cases q : f = m
  · subst q; exact hx lg wh p l hb hl
  · refine px_go_ok (inl := []) 60 ?_
    simp only [px_go, px_Q0_at, px_sx_0, px_sx_s, px_cl, px_step, ↓px_ll, px_lg, f4_, ↓px_r1, ↓px_r2, ↓px_r4, ↓px_r5, ↓px_p1, ↓px_p2, ↓px_p3, ↓px_pop, px_k_0, px_k_s, px_k3_0, px_stk_, px_cats, px_ent, px_st1, px_st2, px_mask, ↓px_tsw, ↓px_lsw, ct_, mls_0, mls_1, mls_2, mls_3, mls_4, mls_5, kd_0, kd_1, kd_2, kd_3, ln_0, ln_1, ln_2, ln_3, gf_0, gf_1, gf_2, gf_3, gf_4, gf_7, gf_21, gf_63, dy_0, dy_1, dy_2, dy_3, dy_7, dy_21, px_brT, px_brF, true_and, and_true, and_false, false_and, and_self, true_implies, false_implies, or_true, true_or, or_false, false_or, eq_self, ne_eq, not_false_eq_true, not_true_eq_false, if_true, if_false, List.mem_cons, List.not_mem_nil, List.length_cons, List.length_nil, Nat.reduceEqDiff, Nat.reduceAdd, Nat.reduceSub, Nat.reduceLeDiff, Nat.reduceLT, Int.reduceEq, Int.reduceLT, Int.reduceLE, Int.reduceNeg, Int.reduceAdd, Int.reduceSub, Int.reduceToNat, ↓reduceIte, one_ne_zero_, zero_ne_one_, px_in32L, cd_196, h9]
    refine px_br_intro (fun c => by omega) (fun c => ?_)
    have hr := rl_rng (D := M 137) (B := M 134) hi.1 hi.2 hn (show f ≤ m by omega)
    refine sp_runAt h14 h9 hi hn ⟨f0, by omega⟩ hm ?_
    simp only [px_go, px_Q0_at, px_sx_0, px_sx_s, px_cl, px_step, ↓px_ll, px_lg, f4_, ↓px_r1, ↓px_r2, ↓px_r4, ↓px_r5, ↓px_p1, ↓px_p2, ↓px_p3, ↓px_pop, px_k_0, px_k_s, px_k3_0, px_stk_, px_cats, px_ent, px_st1, px_st2, px_mask, ↓px_tsw, ↓px_lsw, ct_, mls_0, mls_1, mls_2, mls_3, mls_4, mls_5, kd_0, kd_1, kd_2, kd_3, ln_0, ln_1, ln_2, ln_3, gf_0, gf_1, gf_2, gf_3, gf_4, gf_7, gf_21, gf_63, dy_0, dy_1, dy_2, dy_3, dy_7, dy_21, px_brT, px_brF, true_and, and_true, and_false, false_and, and_self, true_implies, false_implies, or_true, true_or, or_false, false_or, eq_self, ne_eq, not_false_eq_true, not_true_eq_false, if_true, if_false, List.mem_cons, List.not_mem_nil, List.length_cons, List.length_nil, Nat.reduceEqDiff, Nat.reduceAdd, Nat.reduceSub, Nat.reduceLeDiff, Nat.reduceLT, Int.reduceEq, Int.reduceLT, Int.reduceLE, Int.reduceNeg, Int.reduceAdd, Int.reduceSub, Int.reduceToNat, ↓reduceIte, one_ne_zero_, zero_ne_one_, px_in32L, cd_196, h9]
    repeat' (first | (with_reducible apply And.intro) | (with_reducible refine px_br_intro (fun _ => ?_) (fun _ => ?_)))
    all_goals (try (first | (unfold px_in32; omega) | omega))
    · rename_i c2
      have hb2 := isB_nx2 (t := rl (M 137) (M 134) n m i f) f0 hb rfl (by omega)
      exact ih (by omega) (by omega) _ _ _ _ hb2 (Or.inr ⟨by omega, rfl, rfl⟩)
    · rename_i c2
      by_cases z : rl (M 137) (M 134) n m i f ≤ l
      · exact ih (by omega) (by omega) _ _ _ _ (isB_nx1 hb z) hl
      · exact ih (by omega) (by omega) _ _ _ _ (isB_nx2 (t := rl (M 137) (M 134) n m i f) f0 hb rfl (by omega)) (Or.inl (by omega))
set_option maxHeartbeats 4000000 in
set_option maxRecDepth 100000 in
theorem lp_makes {M0 : px_mem} {n m : Int} {P : List Int} (h14 : M0 127 14 = n) (h9 : M0 127 9 = m) (hn : n ≤ 40) (hm : 0 ≤ m ∧ m ≤ 40) (hbv : ∀ j, 0 ≤ j → j < n → 0 ≤ M0 137 j ∧ M0 137 j < 256) (h : ∀ M', M' 127 15 = (P.length : Int) → lst (M' 138) (P.length : Int) = P → (∀ j, j ≠ 15 → M' 127 j = M0 127 j) → (∀ b, b ≠ 127 → b ≠ 138 → M' b = M0 b) → Q none M') : ∀ (f : Nat) (k own : Int) (o c : List Int) (M : px_mem), 0 ≤ k → k ≤ n → n ≤ k + f → gN (M0 137) (M0 134) n m (f + 1) k o c = P → M 127 15 = ((o ++ fl c).length : Int) → lst (M 138) (M 127 15) = o ++ fl c → M 127 15 ≤ 2 * k → (c.length : Int) ≤ k → (c = [] ∧ own = -1 ∨ c ≠ [] ∧ own = o.length) → (∀ j, j ≠ 15 → M 127 j = M0 127 j) → (∀ b, b ≠ 127 → b ≠ 138 → M b = M0 b) → px_WP 196 0 0 (px_Q0 LAY Q) 9 [(2, 127), (0, own), (0, k), (9, 0), (9, 0), (9, 0), (9, 0)] [] LAY M 0 0 := by
  intro f
  induction f with
  | zero =>
    intro k own o c M k0 kn hf hP hs hl h2 hc hown hj hfr
    rw [gN_s, if_pos (by omega)] at hP
    have e14 := (hj 14 (by decide)).trans h14
    refine px_go_ok (inl := []) 120 ?_
    simp only [px_go, px_Q0_at, px_sx_0, px_sx_s, px_cl, px_step, ↓px_ll, px_lg, f4_, ↓px_r1, ↓px_r2, ↓px_r4, ↓px_r5, ↓px_p1, ↓px_p2, ↓px_p3, ↓px_pop, px_k_0, px_k_s, px_k3_0, px_stk_, px_cats, px_ent, px_st1, px_st2, px_mask, ↓px_tsw, ↓px_lsw, ct_, mls_0, mls_1, mls_2, mls_3, mls_4, mls_5, kd_0, kd_1, kd_2, kd_3, ln_0, ln_1, ln_2, ln_3, gf_0, gf_1, gf_2, gf_3, gf_4, gf_7, gf_21, gf_63, dy_0, dy_1, dy_2, dy_3, dy_7, dy_21, px_brT, px_brF, true_and, and_true, and_false, false_and, and_self, true_implies, false_implies, or_true, true_or, or_false, false_or, eq_self, ne_eq, not_false_eq_true, not_true_eq_false, if_true, if_false, List.mem_cons, List.not_mem_nil, List.length_cons, List.length_nil, Nat.reduceEqDiff, Nat.reduceAdd, Nat.reduceSub, Nat.reduceLeDiff, Nat.reduceLT, Int.reduceEq, Int.reduceLT, Int.reduceLE, Int.reduceNeg, Int.reduceAdd, Int.reduceSub, Int.reduceToNat, ↓reduceIte, one_ne_zero_, zero_ne_one_, px_in32L, cd_196, e14]
    refine px_br_intro (fun c1 => ?_) (fun c1 => by omega)
    exact h M (by rw [hs, hP]) (by rw [← hP, ← hs]; exact hl) hj hfr
  | succ f ih =>
    intro k own o c M k0 kn hf hP hs hl h2 hc hown hj hfr
    have e14 := (hj 14 (by decide)).trans h14
    have e9 := (hj 9 (by decide)).trans h9
    have e137 := hfr 137 (by decide) (by decide)
    have e134 := hfr 134 (by decide) (by decide)
    rw [gN_s] at hP
    refine px_go_ok (inl := []) 120 ?_
    simp only [px_go, px_Q0_at, px_sx_0, px_sx_s, px_cl, px_step, ↓px_ll, px_lg, f4_, ↓px_r1, ↓px_r2, ↓px_r4, ↓px_r5, ↓px_p1, ↓px_p2, ↓px_p3, ↓px_pop, px_k_0, px_k_s, px_k3_0, px_stk_, px_cats, px_ent, px_st1, px_st2, px_mask, ↓px_tsw, ↓px_lsw, ct_, mls_0, mls_1, mls_2, mls_3, mls_4, mls_5, kd_0, kd_1, kd_2, kd_3, ln_0, ln_1, ln_2, ln_3, gf_0, gf_1, gf_2, gf_3, gf_4, gf_7, gf_21, gf_63, dy_0, dy_1, dy_2, dy_3, dy_7, dy_21, px_brT, px_brF, true_and, and_true, and_false, false_and, and_self, true_implies, false_implies, or_true, true_or, or_false, false_or, eq_self, ne_eq, not_false_eq_true, not_true_eq_false, if_true, if_false, List.mem_cons, List.not_mem_nil, List.length_cons, List.length_nil, Nat.reduceEqDiff, Nat.reduceAdd, Nat.reduceSub, Nat.reduceLeDiff, Nat.reduceLT, Int.reduceEq, Int.reduceLT, Int.reduceLE, Int.reduceNeg, Int.reduceAdd, Int.reduceSub, Int.reduceToNat, ↓reduceIte, one_ne_zero_, zero_ne_one_, px_in32L, cd_196, e14]
    refine px_br_intro (fun c1 => ?_) (fun c1 => ?_)
    · rw [if_pos c1] at hP
      exact h M (by rw [hs, hP]) (by rw [← hP, ← hs]; exact hl) hj hfr
    · rw [if_neg c1] at hP
      refine lp_mk2 (n := n) (m := m) e14 e9 ⟨k0, by omega⟩ hn hm.2 (fun lg wh p l hb hlw => ?_) 0 hm.1 (Int.le_refl 0) 2 (-1) 0 0 ⟨fun f a b => by omega, Or.inl ⟨rfl, rfl⟩⟩ (Or.inl ⟨by decide, rfl, rfl⟩)
      rw [e137, e134] at hb
      have u := isB_uniq hb (bs_spec _ _ _ _ _ hm.1)
      have hvk := hbv k k0 (by omega)
      have hbl : 3 ≤ l → k + l ≤ n ∧ 0 ≤ p ∧ p < 40 := fun z => by
        rcases hb.2 with b | b
        · omega
        · have := rl_rng (D := M0 137) (B := M0 134) k0 kn hn (show p ≤ m by omega)
          omega
      rw [← u.1, ← u.2] at hP
      have hs0 : 0 ≤ M 127 15 := by omega
      refine px_go_ok (inl := []) 120 ?_
      simp only [px_go, px_Q0_at, px_sx_0, px_sx_s, px_cl, px_step, ↓px_ll, px_lg, f4_, ↓px_r1, ↓px_r2, ↓px_r4, ↓px_r5, ↓px_p1, ↓px_p2, ↓px_p3, ↓px_pop, px_k_0, px_k_s, px_k3_0, px_stk_, px_cats, px_ent, px_st1, px_st2, px_mask, ↓px_tsw, ↓px_lsw, ct_, mls_0, mls_1, mls_2, mls_3, mls_4, mls_5, kd_0, kd_1, kd_2, kd_3, ln_0, ln_1, ln_2, ln_3, gf_0, gf_1, gf_2, gf_3, gf_4, gf_7, gf_21, gf_63, dy_0, dy_1, dy_2, dy_3, dy_7, dy_21, px_brT, px_brF, true_and, and_true, and_false, false_and, and_self, true_implies, false_implies, or_true, true_or, or_false, false_or, eq_self, ne_eq, not_false_eq_true, not_true_eq_false, if_true, if_false, List.mem_cons, List.not_mem_nil, List.length_cons, List.length_nil, Nat.reduceEqDiff, Nat.reduceAdd, Nat.reduceSub, Nat.reduceLeDiff, Nat.reduceLT, Int.reduceEq, Int.reduceLT, Int.reduceLE, Int.reduceNeg, Int.reduceAdd, Int.reduceSub, Int.reduceToNat, ↓reduceIte, one_ne_zero_, zero_ne_one_, px_in32L, cd_196, e9, e14]
      refine px_br_intro (fun _ => ?_) (fun c2 => by omega)
      refine px_br_intro (fun c2 => ?_) (fun c2 => ?_)
      · rw [if_neg (by omega)] at hP
        refine px_br_intro (fun c3 => ?_) (fun c3 => ?_)
        · have hc2 : c = [] := by
            rcases hown with x | x
            · exact x.1
            · have := x.2; omega
          subst hc2
          have hlM : lst (M 138) (M 127 15) = o := by rw [hl]; exact List.append_nil o
          have hso : M 127 15 = (o.length : Int) := by rw [hs]; congr 2; exact List.append_nil o
          refine sp_puts (by omega) (fun M1 a1 a2 a3 a4 => ?_)
          rw [hlM] at a2
          have hset := lst_set (y := 1) a2
          rw [← hso] at hset
          simp only [px_go, px_Q0_at, px_sx_0, px_sx_s, px_cl, px_step, ↓px_ll, px_lg, f4_, ↓px_r1, ↓px_r2, ↓px_r4, ↓px_r5, ↓px_p1, ↓px_p2, ↓px_p3, ↓px_pop, px_k_0, px_k_s, px_k3_0, px_stk_, px_cats, px_ent, px_st1, px_st2, px_mask, ↓px_tsw, ↓px_lsw, ct_, mls_0, mls_1, mls_2, mls_3, mls_4, mls_5, kd_0, kd_1, kd_2, kd_3, ln_0, ln_1, ln_2, ln_3, gf_0, gf_1, gf_2, gf_3, gf_4, gf_7, gf_21, gf_63, dy_0, dy_1, dy_2, dy_3, dy_7, dy_21, px_brT, px_brF, true_and, and_true, and_false, false_and, and_self, true_implies, false_implies, or_true, true_or, or_false, false_or, eq_self, ne_eq, not_false_eq_true, not_true_eq_false, if_true, if_false, List.mem_cons, List.not_mem_nil, List.length_cons, List.length_nil, Nat.reduceEqDiff, Nat.reduceAdd, Nat.reduceSub, Nat.reduceLeDiff, Nat.reduceLT, Int.reduceEq, Int.reduceLT, Int.reduceLE, Int.reduceNeg, Int.reduceAdd, Int.reduceSub, Int.reduceToNat, ↓reduceIte, one_ne_zero_, zero_ne_one_, px_in32L, cd_196, px_up_at]
          repeat' (first | (with_reducible apply And.intro) | (with_reducible refine px_br_intro (fun _ => ?_) (fun _ => ?_)))
          all_goals (try (first | (unfold px_in32; omega) | omega))
          rw [hset.2]
          refine sp_puts (by rw [row_ne (by decide)]; omega) (fun M2 d1 d2 d3 d4 => ?_)
          rw [row_ne (by decide)] at d1 d2
          rw [show (0 : Int) + 1 = 1 from rfl, a1, hset.1] at d2
          simp only [px_go, px_Q0_at, px_sx_0, px_sx_s, px_cl, px_step, ↓px_ll, px_lg, f4_, ↓px_r1, ↓px_r2, ↓px_r4, ↓px_r5, ↓px_p1, ↓px_p2, ↓px_p3, ↓px_pop, px_k_0, px_k_s, px_k3_0, px_stk_, px_cats, px_ent, px_st1, px_st2, px_mask, ↓px_tsw, ↓px_lsw, ct_, mls_0, mls_1, mls_2, mls_3, mls_4, mls_5, kd_0, kd_1, kd_2, kd_3, ln_0, ln_1, ln_2, ln_3, gf_0, gf_1, gf_2, gf_3, gf_4, gf_7, gf_21, gf_63, dy_0, dy_1, dy_2, dy_3, dy_7, dy_21, px_brT, px_brF, true_and, and_true, and_false, false_and, and_self, true_implies, false_implies, or_true, true_or, or_false, false_or, eq_self, ne_eq, not_false_eq_true, not_true_eq_false, if_true, if_false, List.mem_cons, List.not_mem_nil, List.length_cons, List.length_nil, Nat.reduceEqDiff, Nat.reduceAdd, Nat.reduceSub, Nat.reduceLeDiff, Nat.reduceLT, Int.reduceEq, Int.reduceLT, Int.reduceLE, Int.reduceNeg, Int.reduceAdd, Int.reduceSub, Int.reduceToNat, ↓reduceIte, one_ne_zero_, zero_ne_one_, px_in32L, cd_196, px_up_at]
          repeat' (first | (with_reducible apply And.intro) | (with_reducible refine px_br_intro (fun _ => ?_) (fun _ => ?_)))
          all_goals (try (first | (unfold px_in32; omega) | omega))
          refine ih (k + 1) (M 127 15) o [M0 137 k] M2 (by omega) (by omega) (by omega) hP ?_ ?_ (by omega) (by simp; omega) (Or.inr ⟨by simp, hso⟩) (fun j j0 => by rw [d3 j j0, row_ne (by decide), a3 j j0, hj j j0]) (fun b b0 b1 => by rw [d4 b b0 b1, row_ne b1, a4 b b0 b1]; exact hfr b b0 b1)
          · rw [d1, a1, fl_ne (by simp), hso]
            simp only [List.length_append, List.length_cons, List.length_nil]
            omega
          · rw [d1, a1, d2, a4 137 (by decide) (by decide), e137, fl_ne (by simp)]
            simp only [List.length_cons, List.length_nil, List.append_assoc, List.cons_append, List.nil_append]
            rfl
        · have hc2 : c ≠ [] ∧ own = o.length := by
            rcases hown with x | x
            · omega
            · exact x
          rw [fl_ne hc2.1] at hl
          have hset := lst_set (y := (c.length : Int) + 1) hl
          rw [← hc2.2] at hset
          have hol : (o.length : Int) + c.length + 1 = M 127 15 := by
            rw [fl_ne hc2.1, List.length_append, List.length_cons] at hs; omega
          repeat' (first | (with_reducible apply And.intro) | (with_reducible refine px_br_intro (fun _ => ?_) (fun _ => ?_)))
          all_goals (try (first | (unfold px_in32; omega) | omega))
          rw [hset.2]
          refine sp_puts (by rw [row_ne (by decide)]; omega) (fun M2 d1 d2 d3 d4 => ?_)
          rw [row_ne (by decide)] at d1 d2
          rw [hset.1] at d2
          simp only [px_go, px_Q0_at, px_sx_0, px_sx_s, px_cl, px_step, ↓px_ll, px_lg, f4_, ↓px_r1, ↓px_r2, ↓px_r4, ↓px_r5, ↓px_p1, ↓px_p2, ↓px_p3, ↓px_pop, px_k_0, px_k_s, px_k3_0, px_stk_, px_cats, px_ent, px_st1, px_st2, px_mask, ↓px_tsw, ↓px_lsw, ct_, mls_0, mls_1, mls_2, mls_3, mls_4, mls_5, kd_0, kd_1, kd_2, kd_3, ln_0, ln_1, ln_2, ln_3, gf_0, gf_1, gf_2, gf_3, gf_4, gf_7, gf_21, gf_63, dy_0, dy_1, dy_2, dy_3, dy_7, dy_21, px_brT, px_brF, true_and, and_true, and_false, false_and, and_self, true_implies, false_implies, or_true, true_or, or_false, false_or, eq_self, ne_eq, not_false_eq_true, not_true_eq_false, if_true, if_false, List.mem_cons, List.not_mem_nil, List.length_cons, List.length_nil, Nat.reduceEqDiff, Nat.reduceAdd, Nat.reduceSub, Nat.reduceLeDiff, Nat.reduceLT, Int.reduceEq, Int.reduceLT, Int.reduceLE, Int.reduceNeg, Int.reduceAdd, Int.reduceSub, Int.reduceToNat, ↓reduceIte, one_ne_zero_, zero_ne_one_, px_in32L, cd_196, px_up_at]
          repeat' (first | (with_reducible apply And.intro) | (with_reducible refine px_br_intro (fun _ => ?_) (fun _ => ?_)))
          all_goals (try (first | (unfold px_in32; omega) | omega))
          refine ih (k + 1) own o (c ++ [M0 137 k]) M2 (by omega) (by omega) (by omega) hP ?_ ?_ (by omega) ?_ (Or.inr ⟨by simp, hc2.2⟩) (fun j j0 => by rw [d3 j j0, row_ne (by decide), hj j j0]) (fun b b0 b1 => by rw [d4 b b0 b1, row_ne b1]; exact hfr b b0 b1)
          · rw [d1, fl_ne (by simp)]
            simp only [List.length_append, List.length_cons, List.length_nil]
            omega
          · rw [d1, d2, show px_up M 138 own ((c.length : Int) + 1) 137 = M 137 from row_ne (by decide), e137, fl_ne (by simp)]
            simp only [List.length_append, List.length_cons, List.length_nil, List.append_assoc, List.cons_append]
            rfl
          · simp only [List.length_append, List.length_cons, List.length_nil]; omega
      · have hl3 : 3 ≤ l ∧ lg = l ∧ wh = p := by omega
        rw [if_pos hl3.1] at hP
        have hb3 := hbl hl3.1
        repeat' (first | (with_reducible apply And.intro) | (with_reducible refine px_br_intro (fun _ => ?_) (fun _ => ?_)))
        all_goals (try (first | (unfold px_in32; omega) | omega))
        rw [hl3.2.1, hl3.2.2]
        refine sp_puts (by omega) (fun M1 a1 a2 a3 a4 => ?_)
        simp only [px_go, px_Q0_at, px_sx_0, px_sx_s, px_cl, px_step, ↓px_ll, px_lg, f4_, ↓px_r1, ↓px_r2, ↓px_r4, ↓px_r5, ↓px_p1, ↓px_p2, ↓px_p3, ↓px_pop, px_k_0, px_k_s, px_k3_0, px_stk_, px_cats, px_ent, px_st1, px_st2, px_mask, ↓px_tsw, ↓px_lsw, ct_, mls_0, mls_1, mls_2, mls_3, mls_4, mls_5, kd_0, kd_1, kd_2, kd_3, ln_0, ln_1, ln_2, ln_3, gf_0, gf_1, gf_2, gf_3, gf_4, gf_7, gf_21, gf_63, dy_0, dy_1, dy_2, dy_3, dy_7, dy_21, px_brT, px_brF, true_and, and_true, and_false, false_and, and_self, true_implies, false_implies, or_true, true_or, or_false, false_or, eq_self, ne_eq, not_false_eq_true, not_true_eq_false, if_true, if_false, List.mem_cons, List.not_mem_nil, List.length_cons, List.length_nil, Nat.reduceEqDiff, Nat.reduceAdd, Nat.reduceSub, Nat.reduceLeDiff, Nat.reduceLT, Int.reduceEq, Int.reduceLT, Int.reduceLE, Int.reduceNeg, Int.reduceAdd, Int.reduceSub, Int.reduceToNat, ↓reduceIte, one_ne_zero_, zero_ne_one_, px_in32L, cd_196, px_up_at]
        repeat' (first | (with_reducible apply And.intro) | (with_reducible refine px_br_intro (fun _ => ?_) (fun _ => ?_)))
        all_goals (try (first | (unfold px_in32; omega) | omega))
        refine sp_puts (by omega) (fun M2 d1 d2 d3 d4 => ?_)
        rw [a1, a2, hl] at d2
        simp only [px_go, px_Q0_at, px_sx_0, px_sx_s, px_cl, px_step, ↓px_ll, px_lg, f4_, ↓px_r1, ↓px_r2, ↓px_r4, ↓px_r5, ↓px_p1, ↓px_p2, ↓px_p3, ↓px_pop, px_k_0, px_k_s, px_k3_0, px_stk_, px_cats, px_ent, px_st1, px_st2, px_mask, ↓px_tsw, ↓px_lsw, ct_, mls_0, mls_1, mls_2, mls_3, mls_4, mls_5, kd_0, kd_1, kd_2, kd_3, ln_0, ln_1, ln_2, ln_3, gf_0, gf_1, gf_2, gf_3, gf_4, gf_7, gf_21, gf_63, dy_0, dy_1, dy_2, dy_3, dy_7, dy_21, px_brT, px_brF, true_and, and_true, and_false, false_and, and_self, true_implies, false_implies, or_true, true_or, or_false, false_or, eq_self, ne_eq, not_false_eq_true, not_true_eq_false, if_true, if_false, List.mem_cons, List.not_mem_nil, List.length_cons, List.length_nil, Nat.reduceEqDiff, Nat.reduceAdd, Nat.reduceSub, Nat.reduceLeDiff, Nat.reduceLT, Int.reduceEq, Int.reduceLT, Int.reduceLE, Int.reduceNeg, Int.reduceAdd, Int.reduceSub, Int.reduceToNat, ↓reduceIte, one_ne_zero_, zero_ne_one_, px_in32L, cd_196, px_up_at]
        repeat' (first | (with_reducible apply And.intro) | (with_reducible refine px_br_intro (fun _ => ?_) (fun _ => ?_)))
        all_goals (try (first | (unfold px_in32; omega) | omega))
        refine ih _ (-1) _ [] M2 (by omega) (by omega) (by omega) hP ?_ ?_ (by omega) (by simp; omega) (Or.inl ⟨rfl, rfl⟩) (fun j j0 => by rw [d3 j j0, a3 j j0, hj j j0]) (fun b b0 b1 => by rw [d4 b b0 b1, a4 b b0 b1]; exact hfr b b0 b1)
        · rw [d1, a1, hs]
          simp only [List.length_append, List.length_cons, List.length_nil, fl]
          omega
        · rw [d1, a1, d2]
          simp only [List.append_assoc, fl, List.append_nil]
          rfl
set_option maxHeartbeats 600000 in
set_option maxRecDepth 100000 in
theorem sp_makes {D B : List Int} (hD : lst (M 137) (D.length : Int) = D) (h14 : M 127 14 = (D.length : Int)) (hn : D.length ≤ 40) (hB : lst (M 134) (B.length : Int) = B) (h9 : M 127 9 = (B.length : Int)) (hm : B.length ≤ 40) (hbv : ∀ b ∈ D, 0 ≤ b ∧ b < 256) (h : ∀ M', M' 127 15 = ((pcl D B).length : Int) → lst (M' 138) ((pcl D B).length : Int) = pcl D B → (∀ j, j ≠ 15 → M' 127 j = M 127 j) → (∀ b, b ≠ 127 → b ≠ 138 → M' b = M b) → Q none M') : px_Ok 196 [(2, 127)] LAY M Q := by
  have e : mkp (M 137) (M 134) (D.length : Int) (B.length : Int) = pcl D B := by rw [pcl_lst (by omega) (by omega), hD, hB]
  refine px_ok_go (inl := []) (ls0 := [(2, 127), (9, 0), (9, 0), (9, 0), (9, 0), (9, 0), (9, 0)]) 60 (by decide) (Nat.le_of_ble_eq_true rfl) rfl ?_
  simp only [px_go, px_Q0_at, px_sx_0, px_sx_s, px_cl, px_step, ↓px_ll, px_lg, f4_, ↓px_r1, ↓px_r2, ↓px_r4, ↓px_r5, ↓px_p1, ↓px_p2, ↓px_p3, ↓px_pop, px_k_0, px_k_s, px_k3_0, px_stk_, px_cats, px_ent, px_st1, px_st2, px_mask, ↓px_tsw, ↓px_lsw, ct_, mls_0, mls_1, mls_2, mls_3, mls_4, mls_5, kd_0, kd_1, kd_2, kd_3, ln_0, ln_1, ln_2, ln_3, gf_0, gf_1, gf_2, gf_3, gf_4, gf_7, gf_21, gf_63, dy_0, dy_1, dy_2, dy_3, dy_7, dy_21, px_brT, px_brF, true_and, and_true, and_false, false_and, and_self, true_implies, false_implies, or_true, true_or, or_false, false_or, eq_self, ne_eq, not_false_eq_true, not_true_eq_false, if_true, if_false, List.mem_cons, List.not_mem_nil, List.length_cons, List.length_nil, Nat.reduceEqDiff, Nat.reduceAdd, Nat.reduceSub, Nat.reduceLeDiff, Nat.reduceLT, Int.reduceEq, Int.reduceLT, Int.reduceLE, Int.reduceNeg, Int.reduceAdd, Int.reduceSub, Int.reduceToNat, ↓reduceIte, one_ne_zero_, zero_ne_one_, px_in32L, cd_196]
  repeat' (first | (with_reducible apply And.intro) | (with_reducible refine px_br_intro (fun _ => ?_) (fun _ => ?_)))
  all_goals (try (first | (unfold px_in32; omega) | omega))
  refine lp_makes (M0 := M) (n := (D.length : Int)) (m := (B.length : Int)) (P := pcl D B) h14 h9 (by omega) (by omega) (fun j j0 j1 => ?_) h 40 0 (-1) [] [] _ (Int.le_refl 0) (by omega) (by omega) e ?_ ?_ ?_ (by decide) (Or.inl ⟨rfl, rfl⟩) (fun j j0 => by rw [px_up_at, if_neg (fun z => j0 z.2)]) (fun b b0 b1 => row_ne b0)
  · have q := nth_lst (f := M 137) j0 j1
    rw [hD] at q
    rw [← q]
    exact hbv _ (nth_mem j0 j1)
  · rw [px_up_at, if_pos ⟨rfl, rfl⟩]; rfl
  · rw [px_up_at, if_pos ⟨rfl, rfl⟩]; rfl
  · rw [px_up_at, if_pos ⟨rfl, rfl⟩]; decide
end PX
