set_option maxRecDepth 100000 in
/-- X12_mends -/
theorem cd_255 : px_at 255 0 = some (1, [], .aload_n 0, []) ∧ px_at 255 1 = some (2, [], .iload_n 1, []) ∧ px_at 255 2 = some (3, [], .iconst 1, []) ∧ px_at 255 3 = some (6, [], .invokevirtual 109, [187, 2, 11, 259]) ∧ px_at 255 6 = some (7, [], .aload_n 0, []) ∧ px_at 255 7 = some (10, [], .getfield 129, [11, 14, 0, 0, 139]) ∧ px_at 255 10 = some (13, [], .if_icmp .ne 24, [34]) ∧ px_at 255 13 = some (14, [], .aload_n 0, []) ∧ px_at 255 14 = some (15, [], .iload_n 1, []) ∧ px_at 255 15 = some (16, [], .iconst 2, []) ∧ px_at 255 16 = some (19, [], .invokevirtual 109, [187, 2, 11, 259]) ∧ px_at 255 19 = some (20, [], .aload_n 0, []) ∧ px_at 255 20 = some (23, [], .getfield 38, [11, 11, 2, 1, 136]) ∧ px_at 255 23 = some (24, [], .iconst 0, []) ∧ px_at 255 24 = some (25, [], .aload_n 0, []) ∧ px_at 255 25 = some (28, [], .getfield 129, [11, 14, 0, 0, 139]) ∧ px_at 255 28 = some (31, [], .invokestatic 125, [186, 3, 11, 262]) ∧ px_at 255 31 = some (34, [], .if_icmp .eq 6, [37]) ∧ px_at 255 34 = some (36, [], .bipush (-3), []) ∧ px_at 255 36 = some (37, [], .ireturn, [0]) ∧ px_at 255 37 = some (38, [], .aload_n 0, []) ∧ px_at 255 38 = some (39, [], .aload_n 0, []) ∧ px_at 255 39 = some (42, [], .getfield 129, [11, 14, 0, 0, 139]) ∧ px_at 255 42 = some (45, [], .putfield 151, [11, 16, 0, 0, 141]) ∧ px_at 255 45 = some (46, [], .iconst 0, []) ∧ px_at 255 46 = some (47, [], .istore_n 2, []) ∧ px_at 255 47 = some (48, [1, 1, 1], .iload_n 2, []) ∧ px_at 255 48 = some (49, [], .aload_n 0, []) ∧ px_at 255 49 = some (52, [], .getfield 129, [11, 14, 0, 0, 139]) ∧ px_at 255 52 = some (55, [], .if_icmp .ge 21, [73]) ∧ px_at 255 55 = some (56, [], .aload_n 0, []) ∧ px_at 255 56 = some (59, [], .getfield 44, [11, 13, 2, 1, 138]) ∧ px_at 255 59 = some (60, [], .iload_n 2, []) ∧ px_at 255 60 = some (61, [], .aload_n 0, []) ∧ px_at 255 61 = some (64, [], .getfield 38, [11, 11, 2, 1, 136]) ∧ px_at 255 64 = some (65, [], .iload_n 2, []) ∧ px_at 255 65 = some (66, [], .iaload, []) ∧ px_at 255 66 = some (67, [], .iastore, []) ∧ px_at 255 67 = some (70, [], .iinc 2 1, []) ∧ px_at 255 70 = some (73, [], .goto (-23), [47]) ∧ px_at 255 73 = some (74, [], .aload_n 0, []) ∧ px_at 255 74 = some (75, [], .iload_n 1, []) ∧ px_at 255 75 = some (76, [], .iconst 5, []) ∧ px_at 255 76 = some (79, [], .invokevirtual 109, [187, 2, 11, 259]) ∧ px_at 255 79 = some (81, [], .bipush (-2), []) ∧ px_at 255 81 = some (84, [], .if_icmp .eq 59, [140]) ∧ px_at 255 84 = some (85, [], .aload_n 0, []) ∧ px_at 255 85 = some (86, [], .aload_n 0, []) ∧ px_at 255 86 = some (87, [], .iload_n 1, []) ∧ px_at 255 87 = some (88, [], .iconst 5, []) ∧ px_at 255 88 = some (91, [], .invokevirtual 109, [187, 2, 11, 259]) ∧ px_at 255 91 = some (94, [], .invokevirtual 141, [194, 1, 11, 257]) ∧ px_at 255 94 = some (97, [], .ifCond .ne 6, [100]) ∧ px_at 255 97 = some (99, [], .bipush (-4), []) ∧ px_at 255 99 = some (100, [], .ireturn, [0]) ∧ px_at 255 100 = some (101, [], .aload_n 0, []) ∧ px_at 255 101 = some (104, [], .invokevirtual 158, [196, 0, 11, 269]) ∧ px_at 255 104 = some (105, [], .aload_n 0, []) ∧ px_at 255 105 = some (106, [], .aload_n 0, []) ∧ px_at 255 106 = some (109, [], .getfield 132, [11, 15, 0, 0, 140]) ∧ px_at 255 109 = some (112, [], .putfield 151, [11, 16, 0, 0, 141]) ∧ px_at 255 112 = some (113, [], .iconst 0, []) ∧ px_at 255 113 = some (114, [], .istore_n 2, []) ∧ px_at 255 114 = some (115, [1, 1, 1], .iload_n 2, []) ∧ px_at 255 115 = some (116, [], .aload_n 0, []) ∧ px_at 255 116 = some (119, [], .getfield 132, [11, 15, 0, 0, 140]) ∧ px_at 255 119 = some (122, [], .if_icmp .ge 21, [140]) ∧ px_at 255 122 = some (123, [], .aload_n 0, []) ∧ px_at 255 123 = some (126, [], .getfield 44, [11, 13, 2, 1, 138]) ∧ px_at 255 126 = some (127, [], .iload_n 2, []) ∧ px_at 255 127 = some (128, [], .aload_n 0, []) ∧ px_at 255 128 = some (131, [], .getfield 41, [11, 12, 2, 1, 137]) ∧ px_at 255 131 = some (132, [], .iload_n 2, []) ∧ px_at 255 132 = some (133, [], .iaload, []) ∧ px_at 255 133 = some (134, [], .iastore, []) ∧ px_at 255 134 = some (137, [], .iinc 2 1, []) ∧ px_at 255 137 = some (140, [], .goto (-23), [114]) ∧ px_at 255 140 = some (141, [], .aload_n 0, []) ∧ px_at 255 141 = some (144, [], .getfield 151, [11, 16, 0, 0, 141]) ∧ px_at 255 144 = some (145, [], .aload_n 0, []) ∧ px_at 255 145 = some (146, [], .iload_n 1, []) ∧ px_at 255 146 = some (147, [], .iconst 4, []) ∧ px_at 255 147 = some (150, [], .invokevirtual 109, [187, 2, 11, 259]) ∧ px_at 255 150 = some (153, [], .if_icmp .eq 6, [156]) ∧ px_at 255 153 = some (155, [], .bipush (-4), []) ∧ px_at 255 155 = some (156, [], .ireturn, [0]) ∧ px_at 255 156 = some (157, [], .iconst 0, []) ∧ px_at 255 157 = some (158, [], .istore_n 2, []) ∧ px_at 255 158 = some (159, [1, 1, 1], .iload_n 2, []) ∧ px_at 255 159 = some (160, [], .aload_n 0, []) ∧ px_at 255 160 = some (163, [], .getfield 151, [11, 16, 0, 0, 141]) ∧ px_at 255 163 = some (166, [], .if_icmp .ge 32, [195]) ∧ px_at 255 166 = some (167, [], .aload_n 0, []) ∧ px_at 255 167 = some (170, [], .getfield 7, [11, 0, 2, 1, 125]) ∧ px_at 255 170 = some (173, [], .sipush 894, []) ∧ px_at 255 173 = some (174, [], .aload_n 0, []) ∧ px_at 255 174 = some (175, [], .iload_n 1, []) ∧ px_at 255 175 = some (176, [], .iconst 3, []) ∧ px_at 255 176 = some (179, [], .invokevirtual 109, [187, 2, 11, 259]) ∧ px_at 255 179 = some (180, [], .iadd, []) ∧ px_at 255 180 = some (181, [], .iload_n 2, []) ∧ px_at 255 181 = some (182, [], .iadd, []) ∧ px_at 255 182 = some (183, [], .aload_n 0, []) ∧ px_at 255 183 = some (186, [], .getfield 44, [11, 13, 2, 1, 138]) ∧ px_at 255 186 = some (187, [], .iload_n 2, []) ∧ px_at 255 187 = some (188, [], .iaload, []) ∧ px_at 255 188 = some (189, [], .iastore, []) ∧ px_at 255 189 = some (192, [], .iinc 2 1, []) ∧ px_at 255 192 = some (195, [], .goto (-34), [158]) ∧ px_at 255 195 = some (196, [], .iconst 1, []) ∧ px_at 255 196 = some (197, [], .ireturn, [0]) := ⟨rfl, rfl, rfl, rfl, rfl, rfl, rfl, rfl, rfl, rfl, rfl, rfl, rfl, rfl, rfl, rfl, rfl, rfl, rfl, rfl, rfl, rfl, rfl, rfl, rfl, rfl, rfl, rfl, rfl, rfl, rfl, rfl, rfl, rfl, rfl, rfl, rfl, rfl, rfl, rfl, rfl, rfl, rfl, rfl, rfl, rfl, rfl, rfl, rfl, rfl, rfl, rfl, rfl, rfl, rfl, rfl, rfl, rfl, rfl, rfl, rfl, rfl, rfl, rfl, rfl, rfl, rfl, rfl, rfl, rfl, rfl, rfl, rfl, rfl, rfl, rfl, rfl, rfl, rfl, rfl, rfl, rfl, rfl, rfl, rfl, rfl, rfl, rfl, rfl, rfl, rfl, rfl, rfl, rfl, rfl, rfl, rfl, rfl, rfl, rfl, rfl, rfl, rfl, rfl, rfl, rfl, rfl, rfl, rfl, rfl, rfl⟩
/-! the reference: contents mended -/
theorem lst_at {f g : Int → Int} {n k : Int} (h : lst f n = lst g n) (k0 : 0 ≤ k) (k1 : k < n) : f k = g k := ((lst_inj (by omega) (by omega)).mp h).2 k k0 k1
theorem mdW_tie {Mc Mc' : px_mem} {F F' B : Int → Int} {c : Int} {D : List Int} (hT : tieC Mc F) (hc : 0 ≤ c ∧ c < 40 ∧ 0 ≤ Mc 62 c) (hw : mdW Mc Mc' c D) (hB : lst B (Mc 60 c) = if Mc 61 c < 0 then D else pcl D (rdC Mc (Mc 61 c))) (hF : ∀ x, F' x = if 894 + Mc 59 c ≤ x ∧ x < 894 + Mc 59 c + Mc 60 c then B (x - (894 + Mc 59 c)) else F x) : tieC Mc' F' := by
  obtain ⟨P, p1, p2, p3, p4⟩ := hw
  have hk := cokC (hT.1.1 c hc.1 hc.2.1 hc.2.2)
  have hBP : ∀ j, 0 ≤ j → j < Mc 60 c → B j = P j := fun j j0 j1 => lst_at (hB.trans p1.symm) j0 j1
  refine ⟨p4, fun x x0 x1 => ?_, fun x q x0 x1 x2 q0 q1 => ?_, fun k k0 k1 => ?_⟩
  · rw [p3 62 (by decide) (by decide), show rC F' x 0 = rC F x 0 by unfold rC; rw [hF, if_neg (by omega)]]
    exact hT.2.1 x x0 x1
  · rw [p3 62 (by decide) (by decide)] at x2
    rw [show rC F' x q = rC F x q by unfold rC; rw [hF, if_neg (by omega)], hT.2.2.1 x q x0 x1 x2 q0 q1]
    unfold cC
    rw [p3 (56 + q) (by omega) (by omega)]
  · rw [hF, p2 k]
    by_cases e : Mc 59 c ≤ k ∧ k < Mc 59 c + Mc 60 c
    · rw [if_pos (by omega), if_pos e, show 894 + k - (894 + Mc 59 c) = k - Mc 59 c by omega]
      exact hBP _ (by omega) (by omega)
    · rw [if_neg (by omega), if_neg e]; exact hT.2.2.2 k k0 k1
section PS
variable {M : px_mem} {Q : Option pv → px_mem → Prop}
set_option maxHeartbeats 600000 in
set_option maxRecDepth 100000 in
theorem lp_md1 {M0 : px_mem} {c n : Int} (h14 : M0 127 14 = n) (hn : 0 ≤ n ∧ n ≤ 40) (hx : ∀ M', lst (M' 139) n = lst (M0 137) n → (∀ b, b ≠ 139 → M' b = M0 b) → px_WP 255 0 0 (px_Q0 LAY Q) 47 [(2, 127), (0, c), (0, n)] [] LAY M' 0 0) (k : Int) (hk_k : k ≤ n) : ∀ (M : px_mem), 0 ≤ k → lst (M 139) k = lst (M0 137) k → (∀ b, b ≠ 139 → M b = M0 b) → px_WP 255 0 0 (px_Q0 LAY Q) 47 [(2, 127), (0, c), (0, k)] [] LAY M 0 0 := by
  refine up_ind (P := fun k => ∀ (M : px_mem), 0 ≤ k → lst (M 139) k = lst (M0 137) k → (∀ b, b ≠ 139 → M b = M0 b) → px_WP 255 0 0 (px_Q0 LAY Q) 47 [(2, 127), (0, c), (0, k)] [] LAY M 0 0) (n) (fun k hk_k ih => ?_) k hk_k
  intro M k0 ha hf
  by_cases hk : k = n
  · subst hk; exact hx M ha hf
  have h127 := hf 127 (by decide)
  have h137 := hf 137 (by decide)
  refine px_go_ok (inl := []) 60 ?_
  simp only [px_go, px_Q0_at, px_sx_0, px_sx_s, px_cl, px_step, ↓px_ll, px_lg, f4_, ↓px_r1, ↓px_r2, ↓px_r4, ↓px_r5, ↓px_p1, ↓px_p2, ↓px_p3, ↓px_pop, px_k_0, px_k_s, px_k3_0, px_stk_, px_cats, px_ent, px_st1, px_st2, px_mask, ↓px_tsw, ↓px_lsw, ct_, mls_0, mls_1, mls_2, mls_3, mls_4, mls_5, kd_0, kd_1, kd_2, kd_3, ln_0, ln_1, ln_2, ln_3, gf_0, gf_1, gf_2, gf_3, gf_4, gf_7, gf_21, gf_63, dy_0, dy_1, dy_2, dy_3, dy_7, dy_21, px_brT, px_brF, true_and, and_true, and_false, false_and, and_self, true_implies, false_implies, or_true, true_or, or_false, false_or, eq_self, ne_eq, not_false_eq_true, not_true_eq_false, if_true, if_false, List.mem_cons, List.not_mem_nil, List.length_cons, List.length_nil, Nat.reduceEqDiff, Nat.reduceAdd, Nat.reduceSub, Nat.reduceLeDiff, Nat.reduceLT, Int.reduceEq, Int.reduceLT, Int.reduceLE, Int.reduceNeg, Int.reduceAdd, Int.reduceSub, Int.reduceToNat, ↓reduceIte, one_ne_zero_, zero_ne_one_, px_in32L, cd_255, h127, h137, h14]
  repeat' (first | (with_reducible apply And.intro) | (with_reducible refine px_br_intro (fun _ => ?_) (fun _ => ?_)))
  all_goals (try (first | (unfold px_in32; omega) | omega))
  · refine ih (by omega) _ (by omega) ?_ (fun b b0 => by rw [row_ne b0]; exact hf b b0)
    rw [lst_up M 139 _ k0, ha, lst_snoc k0]
set_option maxHeartbeats 600000 in
set_option maxRecDepth 100000 in
theorem lp_md2 {M0 : px_mem} {c n : Int} (h15 : M0 127 15 = n) (hn : 0 ≤ n ∧ n ≤ 80) (hn2 : n ≤ 90) (hx : ∀ M', lst (M' 139) n = lst (M0 138) n → (∀ b, b ≠ 139 → M' b = M0 b) → px_WP 255 0 0 (px_Q0 LAY Q) 114 [(2, 127), (0, c), (0, n)] [] LAY M' 0 0) (k : Int) (hk_k : k ≤ n) : ∀ (M : px_mem), 0 ≤ k → lst (M 139) k = lst (M0 138) k → (∀ b, b ≠ 139 → M b = M0 b) → px_WP 255 0 0 (px_Q0 LAY Q) 114 [(2, 127), (0, c), (0, k)] [] LAY M 0 0 := by
  refine up_ind (P := fun k => ∀ (M : px_mem), 0 ≤ k → lst (M 139) k = lst (M0 138) k → (∀ b, b ≠ 139 → M b = M0 b) → px_WP 255 0 0 (px_Q0 LAY Q) 114 [(2, 127), (0, c), (0, k)] [] LAY M 0 0) (n) (fun k hk_k ih => ?_) k hk_k
  intro M k0 ha hf
  by_cases hk : k = n
  · subst hk; exact hx M ha hf
  have h127 := hf 127 (by decide)
  have h138 := hf 138 (by decide)
  refine px_go_ok (inl := []) 60 ?_
  simp only [px_go, px_Q0_at, px_sx_0, px_sx_s, px_cl, px_step, ↓px_ll, px_lg, f4_, ↓px_r1, ↓px_r2, ↓px_r4, ↓px_r5, ↓px_p1, ↓px_p2, ↓px_p3, ↓px_pop, px_k_0, px_k_s, px_k3_0, px_stk_, px_cats, px_ent, px_st1, px_st2, px_mask, ↓px_tsw, ↓px_lsw, ct_, mls_0, mls_1, mls_2, mls_3, mls_4, mls_5, kd_0, kd_1, kd_2, kd_3, ln_0, ln_1, ln_2, ln_3, gf_0, gf_1, gf_2, gf_3, gf_4, gf_7, gf_21, gf_63, dy_0, dy_1, dy_2, dy_3, dy_7, dy_21, px_brT, px_brF, true_and, and_true, and_false, false_and, and_self, true_implies, false_implies, or_true, true_or, or_false, false_or, eq_self, ne_eq, not_false_eq_true, not_true_eq_false, if_true, if_false, List.mem_cons, List.not_mem_nil, List.length_cons, List.length_nil, Nat.reduceEqDiff, Nat.reduceAdd, Nat.reduceSub, Nat.reduceLeDiff, Nat.reduceLT, Int.reduceEq, Int.reduceLT, Int.reduceLE, Int.reduceNeg, Int.reduceAdd, Int.reduceSub, Int.reduceToNat, ↓reduceIte, one_ne_zero_, zero_ne_one_, px_in32L, cd_255, h127, h138, h15]
  repeat' (first | (with_reducible apply And.intro) | (with_reducible refine px_br_intro (fun _ => ?_) (fun _ => ?_)))
  all_goals (try (first | (unfold px_in32; omega) | omega))
  · refine ih (by omega) _ (by omega) ?_ (fun b b0 => by rw [row_ne b0]; exact hf b b0)
    rw [lst_up M 139 _ k0, ha, lst_snoc k0]
set_option maxHeartbeats 600000 in
set_option maxRecDepth 100000 in
theorem lp_md3 {M0 : px_mem} {c n s : Int} (h16 : M0 127 16 = n) (hn : 0 ≤ n ∧ n ≤ 40) (hc : 0 ≤ c ∧ c < 40) (hs : M0 128 (654 + 6 * c + 3) = s) (hs2 : 0 ≤ s ∧ s + n ≤ 400) (h : ∀ M', (∀ x, M' 128 x = if 894 + s ≤ x ∧ x < 894 + s + n then M0 139 (x - (894 + s)) else M0 128 x) → (∀ b, b ≠ 128 → M' b = M0 b) → Q (some (0, 1)) M') (k : Int) (hk_k : k ≤ n) : ∀ (M : px_mem), 0 ≤ k → (∀ x, M 128 x = if 894 + s ≤ x ∧ x < 894 + s + k then M0 139 (x - (894 + s)) else M0 128 x) → (∀ b, b ≠ 128 → M b = M0 b) → px_WP 255 0 0 (px_Q0 LAY Q) 158 [(2, 127), (0, c), (0, k)] [] LAY M 0 0 := by
  refine up_ind (P := fun k => ∀ (M : px_mem), 0 ≤ k → (∀ x, M 128 x = if 894 + s ≤ x ∧ x < 894 + s + k then M0 139 (x - (894 + s)) else M0 128 x) → (∀ b, b ≠ 128 → M b = M0 b) → px_WP 255 0 0 (px_Q0 LAY Q) 158 [(2, 127), (0, c), (0, k)] [] LAY M 0 0) (n) (fun k hk_k ih => ?_) k hk_k
  intro M k0 hv hf
  have h127 := hf 127 (by decide)
  have h139 := hf 139 (by decide)
  have h3 : M 128 (654 + 6 * c + 3) = s := by rw [hv, if_neg (by omega)]; exact hs
  refine px_go_ok (inl := [187]) 60 ?_
  simp only [px_go, px_Q0_at, px_sx_0, px_sx_s, px_cl, px_step, ↓px_ll, px_lg, f4_, ↓px_r1, ↓px_r2, ↓px_r4, ↓px_r5, ↓px_p1, ↓px_p2, ↓px_p3, ↓px_pop, px_k_0, px_k_s, px_k3_0, px_stk_, px_cats, px_ent, px_st1, px_st2, px_mask, ↓px_tsw, ↓px_lsw, ct_, mls_0, mls_1, mls_2, mls_3, mls_4, mls_5, kd_0, kd_1, kd_2, kd_3, ln_0, ln_1, ln_2, ln_3, gf_0, gf_1, gf_2, gf_3, gf_4, gf_7, gf_21, gf_63, dy_0, dy_1, dy_2, dy_3, dy_7, dy_21, px_brT, px_brF, true_and, and_true, and_false, false_and, and_self, true_implies, false_implies, or_true, true_or, or_false, false_or, eq_self, ne_eq, not_false_eq_true, not_true_eq_false, if_true, if_false, List.mem_cons, List.not_mem_nil, List.length_cons, List.length_nil, Nat.reduceEqDiff, Nat.reduceAdd, Nat.reduceSub, Nat.reduceLeDiff, Nat.reduceLT, Int.reduceEq, Int.reduceLT, Int.reduceLE, Int.reduceNeg, Int.reduceAdd, Int.reduceSub, Int.reduceToNat, ↓reduceIte, one_ne_zero_, zero_ne_one_, px_in32L, cd_255, cd_187, h127, h139, h16, h3]
  repeat' (first | (with_reducible apply And.intro) | (with_reducible refine px_br_intro (fun _ => ?_) (fun _ => ?_)))
  all_goals (try (first | (unfold px_in32; omega) | omega))
  · rename_i c1
    rw [show k = n by omega] at hv
    exact h M hv hf
  · rename_i c1
    refine ih (by omega) _ (by omega) (fun x => ?_) (fun b b0 => by rw [row_ne b0]; exact hf b b0)
    rw [px_up_at, hv x]
    by_cases q : x = 894 + s + k
    · rw [if_pos ⟨rfl, q⟩, if_pos (by omega), show x - (894 + s) = k by omega]
    · rw [if_neg (fun z => q z.2)]
      by_cases r : 894 + s ≤ x ∧ x < 894 + s + k
      · rw [if_pos r, if_pos (by omega)]
      · rw [if_neg r, if_neg (by omega)]
theorem fl_snoc (c : List Int) (x : Int) : (fl (c ++ [x])).length ≤ (fl c).length + 2 := by
  cases c with
  | nil => exact Nat.le_refl _
  | cons y t => simp [fl]
theorem gN_len {D B : Int → Int} {n m : Int} (hn : n ≤ 40) (hm0 : 0 ≤ m) (hm : m ≤ 40) : ∀ (f : Nat) (i : Int) (o c : List Int), 0 ≤ i → i ≤ n → ((o ++ fl c).length : Int) ≤ 2 * i → ((gN D B n m f i o c).length : Int) ≤ 2 * n := by
  intro f
  induction f with
  | zero => intro i o c i0 i1 h; show ((o ++ fl c).length : Int) ≤ _; omega
  | succ f ih =>
    intro i o c i0 i1 h
    rw [gN_s]
    by_cases q : n ≤ i
    · rw [if_pos q]; omega
    · rw [if_neg q]
      by_cases r : 3 ≤ bsL D B n m i
      · rw [if_pos r]
        have hb := bs_spec D B n m i hm0
        have hl : i + bsL D B n m i ≤ n := by
          rcases hb.2 with y | y
          · omega
          · have := rl_rng (D := D) (B := B) i0 i1 hn (show bsP D B n m i ≤ m by omega)
            omega
        refine ih _ _ [] (by omega) hl ?_
        simp only [fl, List.append_nil, List.length_append, List.length_cons, List.length_nil] at h ⊢
        omega
      · rw [if_neg r]
        refine ih (i + 1) o (c ++ [D i]) (by omega) (by omega) ?_
        have := fl_snoc c (D i)
        rw [List.length_append] at h ⊢
        omega
theorem pcl_len {D B : List Int} (hD : D.length ≤ 40) (hB : B.length ≤ 40) : (pcl D B).length ≤ 80 := by
  have := gN_len (D := nth D) (B := nth B) (n := (D.length : Int)) (m := (B.length : Int)) (by omega) (by omega) (by omega) 41 0 [] [] (Int.le_refl 0) (by omega) (by decide)
  have e : ((pcl D B).length : Int) ≤ 2 * (D.length : Int) := this
  omega
set_option maxHeartbeats 600000 in
set_option maxRecDepth 100000 in
theorem sp_mends {Mc : px_mem} {c : Int} {D : List Int} (hT : tieC Mc (M 128)) (hc : 0 ≤ c ∧ c < 40 ∧ 0 ≤ Mc 62 c) (hd : due M D) (hD : D.length ≤ 40 ∧ ∀ b ∈ D, 0 ≤ b ∧ b < 256) (h1 : ∀ M', mdOk Mc c D → (∀ Mc', mdW Mc Mc' c D → tieC Mc' (M' 128)) → (∀ x, ¬ (894 ≤ x ∧ x < 1294) → M' 128 x = M 128 x) → frC M' M → Q (some (0, 1)) M') (h0 : ∀ M' r, ¬ mdOk Mc c D → r = (if (D.length : Int) = Mc 57 c ∧ mkl D = Mc 58 c then -4 else -3) → M' 128 = M 128 → frC M' M → Q (some (0, r)) M') : px_Ok 255 [(2, 127), (0, c)] LAY M Q := by
  have hpp := tieC_p hT hc.1 hc.2.1 hc.2.2
  have hk := cokC (hT.1.1 c hc.1 hc.2.1 hc.2.2)
  have e1 : M 128 (654 + 6 * c + 1) = Mc 57 c := hpp.1
  have e2 : M 128 (654 + 6 * c + 2) = Mc 58 c := hpp.2.1
  have e14 := hd.1
  have h3 : ¬ ((D.length : Int) = Mc 57 c ∧ mkl D = Mc 58 c) → Q (some (0, -3)) M := fun z => h0 M (-3) (fun y => z y.1) (by rw [if_neg z]) rfl (frC_refl M)
  refine px_ok_go (inl := [187]) (ls0 := [(2, 127), (0, c), (9, 0)]) 120 (by decide) (Nat.le_of_ble_eq_true rfl) rfl ?_
  simp only [px_go, px_Q0_at, px_sx_0, px_sx_s, px_cl, px_step, ↓px_ll, px_lg, f4_, ↓px_r1, ↓px_r2, ↓px_r4, ↓px_r5, ↓px_p1, ↓px_p2, ↓px_p3, ↓px_pop, px_k_0, px_k_s, px_k3_0, px_stk_, px_cats, px_ent, px_st1, px_st2, px_mask, ↓px_tsw, ↓px_lsw, ct_, mls_0, mls_1, mls_2, mls_3, mls_4, mls_5, kd_0, kd_1, kd_2, kd_3, ln_0, ln_1, ln_2, ln_3, gf_0, gf_1, gf_2, gf_3, gf_4, gf_7, gf_21, gf_63, dy_0, dy_1, dy_2, dy_3, dy_7, dy_21, px_brT, px_brF, true_and, and_true, and_false, false_and, and_self, true_implies, false_implies, or_true, true_or, or_false, false_or, eq_self, ne_eq, not_false_eq_true, not_true_eq_false, if_true, if_false, List.mem_cons, List.not_mem_nil, List.length_cons, List.length_nil, Nat.reduceEqDiff, Nat.reduceAdd, Nat.reduceSub, Nat.reduceLeDiff, Nat.reduceLT, Int.reduceEq, Int.reduceLT, Int.reduceLE, Int.reduceNeg, Int.reduceAdd, Int.reduceSub, Int.reduceToNat, ↓reduceIte, one_ne_zero_, zero_ne_one_, px_in32L, cd_255, cd_187, e1, e2, e14]
  repeat' (first | (with_reducible apply And.intro) | (with_reducible refine px_br_intro (fun _ => ?_) (fun _ => ?_)))
  all_goals (try (first | (unfold px_in32; omega) | omega))
  · rename_i c1
    refine sp_rmark (v := 137) rfl (Int.le_refl 0) (by omega) (by rw [show px_ln LAY 137 = 40 from rfl]; omega) (by decide) (fun j j0 j1 => ?_) ?_
    · rw [Int.zero_add]
      have q := nth_lst (f := M 137) j0 j1
      rw [hd.2] at q
      rw [← q]
      exact hD.2 _ (nth_mem j0 j1)
    · have em : mk (fun j => M 137 (0 + j)) (D.length : Int) = mkl D := by
        rw [mkl_lst (by omega), lst0, hd.2]
      rw [em]
      simp only [px_go, px_Q0_at, px_sx_0, px_sx_s, px_cl, px_step, ↓px_ll, px_lg, f4_, ↓px_r1, ↓px_r2, ↓px_r4, ↓px_r5, ↓px_p1, ↓px_p2, ↓px_p3, ↓px_pop, px_k_0, px_k_s, px_k3_0, px_stk_, px_cats, px_ent, px_st1, px_st2, px_mask, ↓px_tsw, ↓px_lsw, ct_, mls_0, mls_1, mls_2, mls_3, mls_4, mls_5, kd_0, kd_1, kd_2, kd_3, ln_0, ln_1, ln_2, ln_3, gf_0, gf_1, gf_2, gf_3, gf_4, gf_7, gf_21, gf_63, dy_0, dy_1, dy_2, dy_3, dy_7, dy_21, px_brT, px_brF, true_and, and_true, and_false, false_and, and_self, true_implies, false_implies, or_true, true_or, or_false, false_or, eq_self, ne_eq, not_false_eq_true, not_true_eq_false, if_true, if_false, List.mem_cons, List.not_mem_nil, List.length_cons, List.length_nil, Nat.reduceEqDiff, Nat.reduceAdd, Nat.reduceSub, Nat.reduceLeDiff, Nat.reduceLT, Int.reduceEq, Int.reduceLT, Int.reduceLE, Int.reduceNeg, Int.reduceAdd, Int.reduceSub, Int.reduceToNat, ↓reduceIte, one_ne_zero_, zero_ne_one_, px_in32L, cd_255, cd_187, e2, e14]
      refine px_br_intro (fun c2 => ?_) (fun c2 => ?_)
      · have hfit : (D.length : Int) = Mc 57 c ∧ mkl D = Mc 58 c := ⟨c1.symm, c2.symm⟩
        have h4 : ∀ M', ¬ mdOk Mc c D → M' 128 = M 128 → frC M' M → Q (some (0, -4)) M' := fun M' z1 z2 z3 => h0 M' (-4) z1 (by rw [if_pos hfit]) z2 z3
        refine lp_md1 (M0 := px_up M 127 16 (D.length : Int)) (n := (D.length : Int)) (by rw [px_up_at, if_neg (by decide)]; exact e14) (by omega) (fun M1 a1 a2 => ?_) 0 (by omega) _ (Int.le_refl 0) rfl (fun _ _ => rfl)
        have f128 : M1 128 = M 128 := by rw [a2 128 (by decide), row_ne (by decide)]
        have f14 : M1 127 14 = (D.length : Int) := by rw [a2 127 (by decide), px_up_at, if_neg (by decide)]; exact e14
        have f16 : M1 127 16 = (D.length : Int) := by rw [a2 127 (by decide), px_up_at, if_pos ⟨rfl, rfl⟩]
        have f137 : M1 137 = M 137 := by rw [a2 137 (by decide), row_ne (by decide)]
        rw [row_ne (by decide), hd.2] at a1
        have fr1 : frC M1 M := ⟨fun j j9 j14 j15 j16 j17 => by rw [a2 127 (by decide), px_up_at, if_neg (fun z => j16 z.2)], fun b b0 _ _ _ _ _ _ b8 _ => by rw [a2 b b8, row_ne b0]⟩
        have g5 : M1 128 (654 + 6 * c + 5) = Mc 61 c := by rw [f128]; exact hpp.2.2.2.2
        have g4 : M1 128 (654 + 6 * c + 4) = Mc 60 c := by rw [f128]; exact hpp.2.2.2.1
        have g3 : M1 128 (654 + 6 * c + 3) = Mc 59 c := by rw [f128]; exact hpp.2.2.1
        refine px_go_ok (inl := [187]) 120 ?_
        simp only [px_go, px_Q0_at, px_sx_0, px_sx_s, px_cl, px_step, ↓px_ll, px_lg, f4_, ↓px_r1, ↓px_r2, ↓px_r4, ↓px_r5, ↓px_p1, ↓px_p2, ↓px_p3, ↓px_pop, px_k_0, px_k_s, px_k3_0, px_stk_, px_cats, px_ent, px_st1, px_st2, px_mask, ↓px_tsw, ↓px_lsw, ct_, mls_0, mls_1, mls_2, mls_3, mls_4, mls_5, kd_0, kd_1, kd_2, kd_3, ln_0, ln_1, ln_2, ln_3, gf_0, gf_1, gf_2, gf_3, gf_4, gf_7, gf_21, gf_63, dy_0, dy_1, dy_2, dy_3, dy_7, dy_21, px_brT, px_brF, true_and, and_true, and_false, false_and, and_self, true_implies, false_implies, or_true, true_or, or_false, false_or, eq_self, ne_eq, not_false_eq_true, not_true_eq_false, if_true, if_false, List.mem_cons, List.not_mem_nil, List.length_cons, List.length_nil, Nat.reduceEqDiff, Nat.reduceAdd, Nat.reduceSub, Nat.reduceLeDiff, Nat.reduceLT, Int.reduceEq, Int.reduceLT, Int.reduceLE, Int.reduceNeg, Int.reduceAdd, Int.reduceSub, Int.reduceToNat, ↓reduceIte, one_ne_zero_, zero_ne_one_, px_in32L, cd_255, cd_187, f14, f16, g5, g4]
        refine px_br_intro (fun _ => ?_) (fun z => by omega)
        repeat' (first | (with_reducible apply And.intro) | (with_reducible refine px_br_intro (fun _ => ?_) (fun _ => ?_)))
        all_goals (try (first | (unfold px_in32; omega) | omega))
        · rename_i c3 c4
          refine lp_md3 (M0 := M1) (s := Mc 59 c) (n := (D.length : Int)) f16 (by omega) ⟨hc.1, hc.2.1⟩ g3 (by omega) (fun M2 b1' b2 => ?_) 0 (by omega) M1 (Int.le_refl 0) (fun x => by rw [if_neg (by omega)]) (fun _ _ => rfl)
          refine h1 M2 ⟨hfit, Or.inl (by omega)⟩ (fun Mc' hw => mdW_tie (B := M1 139) hT hc hw (by rw [if_pos (by omega), ← c4]; exact a1) (fun x => by rw [b1', f128, c4])) (fun x x0 => by rw [b1', if_neg (by omega), f128]) (frC_trans (fr8_C b2) fr1)
        · rename_i c3
          have hb : 0 ≤ Mc 61 c ∧ Mc 61 c < 40 ∧ 0 ≤ Mc 62 (Mc 61 c) := by omega
          refine sp_wholeT (Mc := Mc) (by rw [f128]; exact hT) hb (fun M2 w b1' b2 b3 => ?_) (fun M2 w b3 => ?_)
          · have k128 : M2 128 = M 128 := by rw [frd_128 b3, f128]
            have hrl := rdC_len hT.1 hb.1 hb.2.1 hb.2.2
            simp only [px_go, px_Q0_at, px_sx_0, px_sx_s, px_cl, px_step, ↓px_ll, px_lg, f4_, ↓px_r1, ↓px_r2, ↓px_r4, ↓px_r5, ↓px_p1, ↓px_p2, ↓px_p3, ↓px_pop, px_k_0, px_k_s, px_k3_0, px_stk_, px_cats, px_ent, px_st1, px_st2, px_mask, ↓px_tsw, ↓px_lsw, ct_, mls_0, mls_1, mls_2, mls_3, mls_4, mls_5, kd_0, kd_1, kd_2, kd_3, ln_0, ln_1, ln_2, ln_3, gf_0, gf_1, gf_2, gf_3, gf_4, gf_7, gf_21, gf_63, dy_0, dy_1, dy_2, dy_3, dy_7, dy_21, px_brT, px_brF, true_and, and_true, and_false, false_and, and_self, true_implies, false_implies, or_true, true_or, or_false, false_or, eq_self, ne_eq, not_false_eq_true, not_true_eq_false, if_true, if_false, List.mem_cons, List.not_mem_nil, List.length_cons, List.length_nil, Nat.reduceEqDiff, Nat.reduceAdd, Nat.reduceSub, Nat.reduceLeDiff, Nat.reduceLT, Int.reduceEq, Int.reduceLT, Int.reduceLE, Int.reduceNeg, Int.reduceAdd, Int.reduceSub, Int.reduceToNat, ↓reduceIte, one_ne_zero_, zero_ne_one_, px_in32L, cd_255, cd_187]
            refine sp_makes (D := D) (B := rdC Mc (Mc 61 c)) (by rw [b3.2 137 (by decide) (by decide) (by decide) (by decide), f137]; exact hd.2) (by rw [b3.1 14 (by decide)]; exact f14) hD.1 b1' b2 hrl.2 hD.2 (fun M3 d1 d2 d3 d4 => ?_)
            have hpl := pcl_len hD.1 hrl.2
            have l128 : M3 128 = M 128 := by rw [d4 128 (by decide) (by decide), k128]
            have fr3 : frC M3 M := frC_trans ⟨fun j _ _ j15 _ _ => d3 j j15, fun b b0 _ _ _ _ _ b7 _ _ => d4 b b0 b7⟩ (frC_trans (frE_C (frd_E b3)) fr1)
            simp only [px_go, px_Q0_at, px_sx_0, px_sx_s, px_cl, px_step, ↓px_ll, px_lg, f4_, ↓px_r1, ↓px_r2, ↓px_r4, ↓px_r5, ↓px_p1, ↓px_p2, ↓px_p3, ↓px_pop, px_k_0, px_k_s, px_k3_0, px_stk_, px_cats, px_ent, px_st1, px_st2, px_mask, ↓px_tsw, ↓px_lsw, ct_, mls_0, mls_1, mls_2, mls_3, mls_4, mls_5, kd_0, kd_1, kd_2, kd_3, ln_0, ln_1, ln_2, ln_3, gf_0, gf_1, gf_2, gf_3, gf_4, gf_7, gf_21, gf_63, dy_0, dy_1, dy_2, dy_3, dy_7, dy_21, px_brT, px_brF, true_and, and_true, and_false, false_and, and_self, true_implies, false_implies, or_true, true_or, or_false, false_or, eq_self, ne_eq, not_false_eq_true, not_true_eq_false, if_true, if_false, List.mem_cons, List.not_mem_nil, List.length_cons, List.length_nil, Nat.reduceEqDiff, Nat.reduceAdd, Nat.reduceSub, Nat.reduceLeDiff, Nat.reduceLT, Int.reduceEq, Int.reduceLT, Int.reduceLE, Int.reduceNeg, Int.reduceAdd, Int.reduceSub, Int.reduceToNat, ↓reduceIte, one_ne_zero_, zero_ne_one_, px_in32L, cd_255, cd_187, d1]
            refine lp_md2 (M0 := px_up M3 127 16 ((pcl D (rdC Mc (Mc 61 c))).length : Int)) (n := ((pcl D (rdC Mc (Mc 61 c))).length : Int)) (by rw [px_up_at, if_neg (by decide)]; exact d1) (by omega) (by omega) (fun M4 i1 i2 => ?_) 0 (by omega) _ (Int.le_refl 0) rfl (fun _ _ => rfl)
            rw [row_ne (by decide), d2] at i1
            have m128 : M4 128 = M 128 := by rw [i2 128 (by decide), row_ne (by decide), l128]
            have m15 : M4 127 15 = ((pcl D (rdC Mc (Mc 61 c))).length : Int) := by rw [i2 127 (by decide), px_up_at, if_neg (by decide)]; exact d1
            have m16 : M4 127 16 = ((pcl D (rdC Mc (Mc 61 c))).length : Int) := by rw [i2 127 (by decide), px_up_at, if_pos ⟨rfl, rfl⟩]
            have fr4 : frC M4 M := frC_trans ⟨fun j j9 j14 j15 j16 j17 => by rw [i2 127 (by decide), px_up_at, if_neg (fun z => j16 z.2)], fun b b0 _ _ _ _ _ _ b8 _ => by rw [i2 b b8, row_ne b0]⟩ fr3
            have n4 : M4 128 (654 + 6 * c + 4) = Mc 60 c := by rw [m128]; exact hpp.2.2.2.1
            have n3 : M4 128 (654 + 6 * c + 3) = Mc 59 c := by rw [m128]; exact hpp.2.2.1
            refine px_go_ok (inl := [187]) 120 ?_
            simp only [px_go, px_Q0_at, px_sx_0, px_sx_s, px_cl, px_step, ↓px_ll, px_lg, f4_, ↓px_r1, ↓px_r2, ↓px_r4, ↓px_r5, ↓px_p1, ↓px_p2, ↓px_p3, ↓px_pop, px_k_0, px_k_s, px_k3_0, px_stk_, px_cats, px_ent, px_st1, px_st2, px_mask, ↓px_tsw, ↓px_lsw, ct_, mls_0, mls_1, mls_2, mls_3, mls_4, mls_5, kd_0, kd_1, kd_2, kd_3, ln_0, ln_1, ln_2, ln_3, gf_0, gf_1, gf_2, gf_3, gf_4, gf_7, gf_21, gf_63, dy_0, dy_1, dy_2, dy_3, dy_7, dy_21, px_brT, px_brF, true_and, and_true, and_false, false_and, and_self, true_implies, false_implies, or_true, true_or, or_false, false_or, eq_self, ne_eq, not_false_eq_true, not_true_eq_false, if_true, if_false, List.mem_cons, List.not_mem_nil, List.length_cons, List.length_nil, Nat.reduceEqDiff, Nat.reduceAdd, Nat.reduceSub, Nat.reduceLeDiff, Nat.reduceLT, Int.reduceEq, Int.reduceLT, Int.reduceLE, Int.reduceNeg, Int.reduceAdd, Int.reduceSub, Int.reduceToNat, ↓reduceIte, one_ne_zero_, zero_ne_one_, px_in32L, cd_255, cd_187, m15, m16, n4]
            refine px_br_intro (fun _ => ?_) (fun z => by omega)
            repeat' (first | (with_reducible apply And.intro) | (with_reducible refine px_br_intro (fun _ => ?_) (fun _ => ?_)))
            all_goals (try (first | (unfold px_in32; omega) | omega))
            · rename_i c4
              refine lp_md3 (M0 := M4) (s := Mc 59 c) (n := ((pcl D (rdC Mc (Mc 61 c))).length : Int)) m16 (by omega) ⟨hc.1, hc.2.1⟩ n3 (by omega) (fun M5 j1 j2 => ?_) 0 (by omega) M4 (Int.le_refl 0) (fun x => by rw [if_neg (by omega)]) (fun _ _ => rfl)
              refine h1 M5 ⟨hfit, Or.inr ⟨w, c4⟩⟩ (fun Mc' hw => mdW_tie (B := M4 139) hT hc hw (by rw [if_neg (by omega), ← c4]; exact i1) (fun x => by rw [j1, m128, c4])) (fun x x0 => by rw [j1, if_neg (by omega), m128]) (frC_trans (fr8_C j2) fr4)
            · rename_i c4
              refine h4 M4 (fun z => ?_) m128 fr4
              rcases z.2 with y | y
              · omega
              · exact c4 y.2
          · simp only [px_go, px_Q0_at, px_sx_0, px_sx_s, px_cl, px_step, ↓px_ll, px_lg, f4_, ↓px_r1, ↓px_r2, ↓px_r4, ↓px_r5, ↓px_p1, ↓px_p2, ↓px_p3, ↓px_pop, px_k_0, px_k_s, px_k3_0, px_stk_, px_cats, px_ent, px_st1, px_st2, px_mask, ↓px_tsw, ↓px_lsw, ct_, mls_0, mls_1, mls_2, mls_3, mls_4, mls_5, kd_0, kd_1, kd_2, kd_3, ln_0, ln_1, ln_2, ln_3, gf_0, gf_1, gf_2, gf_3, gf_4, gf_7, gf_21, gf_63, dy_0, dy_1, dy_2, dy_3, dy_7, dy_21, px_brT, px_brF, true_and, and_true, and_false, false_and, and_self, true_implies, false_implies, or_true, true_or, or_false, false_or, eq_self, ne_eq, not_false_eq_true, not_true_eq_false, if_true, if_false, List.mem_cons, List.not_mem_nil, List.length_cons, List.length_nil, Nat.reduceEqDiff, Nat.reduceAdd, Nat.reduceSub, Nat.reduceLeDiff, Nat.reduceLT, Int.reduceEq, Int.reduceLT, Int.reduceLE, Int.reduceNeg, Int.reduceAdd, Int.reduceSub, Int.reduceToNat, ↓reduceIte, one_ne_zero_, zero_ne_one_, px_in32L, cd_255, cd_187]
            refine h4 M2 (fun z => ?_) (by rw [frd_128 b3, f128]) (frC_trans (frE_C (frd_E b3)) fr1)
            rcases z.2 with y | y
            · omega
            · exact y.1 w
      · exact h3 (fun z => c2 z.2.symm)
  · rename_i c1
    exact h3 (fun z => c1 z.1.symm)
end PS
