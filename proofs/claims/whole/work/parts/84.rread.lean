set_option maxRecDepth 100000 in
/-- X12_readsPieces -/
theorem cd_192 : px_at 192 0 = some (1, [], .aload_n 0, []) ∧ px_at 192 1 = some (4, [], .invokevirtual 112, [191, 0, 11, 261]) ∧ px_at 192 4 = some (7, [], .sipush 894, []) ∧ px_at 192 7 = some (8, [], .aload_n 0, []) ∧ px_at 192 8 = some (9, [], .iload_n 1, []) ∧ px_at 192 9 = some (10, [], .iconst 3, []) ∧ px_at 192 10 = some (13, [], .invokevirtual 109, [187, 2, 11, 259]) ∧ px_at 192 13 = some (14, [], .iadd, []) ∧ px_at 192 14 = some (15, [], .istore_n 3, []) ∧ px_at 192 15 = some (16, [], .iload_n 3, []) ∧ px_at 192 16 = some (17, [], .aload_n 0, []) ∧ px_at 192 17 = some (18, [], .iload_n 1, []) ∧ px_at 192 18 = some (19, [], .iconst 4, []) ∧ px_at 192 19 = some (22, [], .invokevirtual 109, [187, 2, 11, 259]) ∧ px_at 192 22 = some (23, [], .iadd, []) ∧ px_at 192 23 = some (25, [], .istore 4, []) ∧ px_at 192 25 = some (26, [], .aload_n 0, []) ∧ px_at 192 26 = some (27, [], .iconst 0, []) ∧ px_at 192 27 = some (30, [], .putfield 115, [11, 9, 0, 0, 134]) ∧ px_at 192 30 = some (31, [1, 1, 1, 1, 1, 0, 0, 0, 0], .iload_n 3, []) ∧ px_at 192 31 = some (33, [], .iload 4, []) ∧ px_at 192 33 = some (36, [], .if_icmp .ge 203, [236]) ∧ px_at 192 36 = some (37, [], .aload_n 0, []) ∧ px_at 192 37 = some (40, [], .getfield 7, [11, 0, 2, 1, 125]) ∧ px_at 192 40 = some (41, [], .iload_n 3, []) ∧ px_at 192 41 = some (42, [], .iaload, []) ∧ px_at 192 42 = some (44, [], .istore 5, []) ∧ px_at 192 44 = some (45, [], .iload_n 3, []) ∧ px_at 192 45 = some (46, [], .iconst 1, []) ∧ px_at 192 46 = some (47, [], .iadd, []) ∧ px_at 192 47 = some (48, [], .istore_n 3, []) ∧ px_at 192 48 = some (50, [], .iload 5, []) ∧ px_at 192 50 = some (53, [], .sipush 128, []) ∧ px_at 192 53 = some (56, [], .if_icmp .ge 8, [61]) ∧ px_at 192 56 = some (58, [], .iload 5, []) ∧ px_at 192 58 = some (61, [], .goto 19, [77]) ∧ px_at 192 61 = some (62, [], .iload_n 3, []) ∧ px_at 192 62 = some (64, [], .iload 4, []) ∧ px_at 192 64 = some (67, [], .if_icmp .ge 12, [76]) ∧ px_at 192 67 = some (68, [], .aload_n 0, []) ∧ px_at 192 68 = some (71, [], .getfield 7, [11, 0, 2, 1, 125]) ∧ px_at 192 71 = some (72, [], .iload_n 3, []) ∧ px_at 192 72 = some (73, [], .iaload, []) ∧ px_at 192 73 = some (76, [], .goto 4, [77]) ∧ px_at 192 76 = some (77, [], .iconst 0, []) ∧ px_at 192 77 = some (79, [], .istore 6, []) ∧ px_at 192 79 = some (81, [], .iload 5, []) ∧ px_at 192 81 = some (84, [], .sipush 128, []) ∧ px_at 192 84 = some (87, [], .if_icmp .ge 7, [91]) ∧ px_at 192 87 = some (88, [], .iload_n 3, []) ∧ px_at 192 88 = some (91, [], .goto 9, [97]) ∧ px_at 192 91 = some (93, [], .iload 5, []) ∧ px_at 192 93 = some (96, [], .sipush 128, []) ∧ px_at 192 96 = some (97, [], .isub, []) ∧ px_at 192 97 = some (99, [], .istore 7, []) ∧ px_at 192 99 = some (101, [], .iload 6, []) ∧ px_at 192 101 = some (104, [], .ifCond .eq 41, [142]) ∧ px_at 192 104 = some (105, [], .aload_n 0, []) ∧ px_at 192 105 = some (108, [], .getfield 115, [11, 9, 0, 0, 134]) ∧ px_at 192 108 = some (110, [], .iload 6, []) ∧ px_at 192 110 = some (111, [], .iadd, []) ∧ px_at 192 111 = some (112, [], .aload_n 0, []) ∧ px_at 192 112 = some (113, [], .iload_n 1, []) ∧ px_at 192 113 = some (114, [], .iconst 1, []) ∧ px_at 192 114 = some (117, [], .invokevirtual 109, [187, 2, 11, 259]) ∧ px_at 192 117 = some (120, [], .if_icmp .gt 25, [142]) ∧ px_at 192 120 = some (122, [], .iload 7, []) ∧ px_at 192 122 = some (124, [], .iload 6, []) ∧ px_at 192 124 = some (125, [], .iadd, []) ∧ px_at 192 125 = some (127, [], .iload 5, []) ∧ px_at 192 127 = some (130, [], .sipush 128, []) ∧ px_at 192 130 = some (133, [], .if_icmp .ge 8, [138]) ∧ px_at 192 133 = some (135, [], .iload 4, []) ∧ px_at 192 135 = some (138, [], .goto 4, [139]) ∧ px_at 192 138 = some (139, [], .iload_n 2, []) ∧ px_at 192 139 = some (142, [], .if_icmp .le 5, [144]) ∧ px_at 192 142 = some (143, [], .iconst 0, []) ∧ px_at 192 143 = some (144, [], .ireturn, [4]) ∧ px_at 192 144 = some (145, [], .iconst 0, []) ∧ px_at 192 145 = some (147, [], .istore 8, []) ∧ px_at 192 147 = some (149, [1, 1, 1, 1, 1, 1, 1, 1, 1], .iload 8, []) ∧ px_at 192 149 = some (151, [], .iload 6, []) ∧ px_at 192 151 = some (154, [], .if_icmp .ge 52, [203]) ∧ px_at 192 154 = some (155, [], .aload_n 0, []) ∧ px_at 192 155 = some (158, [], .getfield 29, [11, 7, 2, 1, 132]) ∧ px_at 192 158 = some (159, [], .aload_n 0, []) ∧ px_at 192 159 = some (162, [], .getfield 115, [11, 9, 0, 0, 134]) ∧ px_at 192 162 = some (164, [], .iload 8, []) ∧ px_at 192 164 = some (165, [], .iadd, []) ∧ px_at 192 165 = some (167, [], .iload 5, []) ∧ px_at 192 167 = some (170, [], .sipush 128, []) ∧ px_at 192 170 = some (173, [], .if_icmp .ge 16, [186]) ∧ px_at 192 173 = some (174, [], .aload_n 0, []) ∧ px_at 192 174 = some (177, [], .getfield 7, [11, 0, 2, 1, 125]) ∧ px_at 192 177 = some (179, [], .iload 7, []) ∧ px_at 192 179 = some (181, [], .iload 8, []) ∧ px_at 192 181 = some (182, [], .iadd, []) ∧ px_at 192 182 = some (183, [], .iaload, []) ∧ px_at 192 183 = some (186, [], .goto 13, [196]) ∧ px_at 192 186 = some (187, [], .aload_n 0, []) ∧ px_at 192 187 = some (190, [], .getfield 32, [11, 8, 2, 1, 133]) ∧ px_at 192 190 = some (192, [], .iload 7, []) ∧ px_at 192 192 = some (194, [], .iload 8, []) ∧ px_at 192 194 = some (195, [], .iadd, []) ∧ px_at 192 195 = some (196, [], .iaload, []) ∧ px_at 192 196 = some (197, [], .iastore, []) ∧ px_at 192 197 = some (200, [], .iinc 8 1, []) ∧ px_at 192 200 = some (203, [], .goto (-53), [147]) ∧ px_at 192 203 = some (204, [], .aload_n 0, []) ∧ px_at 192 204 = some (205, [], .aload_n 0, []) ∧ px_at 192 205 = some (208, [], .getfield 115, [11, 9, 0, 0, 134]) ∧ px_at 192 208 = some (210, [], .iload 6, []) ∧ px_at 192 210 = some (211, [], .iadd, []) ∧ px_at 192 211 = some (214, [], .putfield 115, [11, 9, 0, 0, 134]) ∧ px_at 192 214 = some (216, [], .iload 5, []) ∧ px_at 192 216 = some (219, [], .sipush 128, []) ∧ px_at 192 219 = some (222, [], .if_icmp .ge 10, [229]) ∧ px_at 192 222 = some (223, [], .iload_n 3, []) ∧ px_at 192 223 = some (225, [], .iload 6, []) ∧ px_at 192 225 = some (226, [], .iadd, []) ∧ px_at 192 226 = some (229, [], .goto 6, [232]) ∧ px_at 192 229 = some (230, [], .iload_n 3, []) ∧ px_at 192 230 = some (231, [], .iconst 1, []) ∧ px_at 192 231 = some (232, [], .iadd, []) ∧ px_at 192 232 = some (233, [], .istore_n 3, []) ∧ px_at 192 233 = some (236, [], .goto (-203), [30]) ∧ px_at 192 236 = some (237, [], .aload_n 0, []) ∧ px_at 192 237 = some (240, [], .getfield 115, [11, 9, 0, 0, 134]) ∧ px_at 192 240 = some (241, [], .aload_n 0, []) ∧ px_at 192 241 = some (242, [], .iload_n 1, []) ∧ px_at 192 242 = some (243, [], .iconst 1, []) ∧ px_at 192 243 = some (246, [], .invokevirtual 109, [187, 2, 11, 259]) ∧ px_at 192 246 = some (249, [], .if_icmp .ne 7, [253]) ∧ px_at 192 249 = some (250, [], .iconst 1, []) ∧ px_at 192 250 = some (253, [], .goto 4, [254]) ∧ px_at 192 253 = some (254, [], .iconst 0, []) ∧ px_at 192 254 = some (255, [], .ireturn, [4]) := ⟨rfl, rfl, rfl, rfl, rfl, rfl, rfl, rfl, rfl, rfl, rfl, rfl, rfl, rfl, rfl, rfl, rfl, rfl, rfl, rfl, rfl, rfl, rfl, rfl, rfl, rfl, rfl, rfl, rfl, rfl, rfl, rfl, rfl, rfl, rfl, rfl, rfl, rfl, rfl, rfl, rfl, rfl, rfl, rfl, rfl, rfl, rfl, rfl, rfl, rfl, rfl, rfl, rfl, rfl, rfl, rfl, rfl, rfl, rfl, rfl, rfl, rfl, rfl, rfl, rfl, rfl, rfl, rfl, rfl, rfl, rfl, rfl, rfl, rfl, rfl, rfl, rfl, rfl, rfl, rfl, rfl, rfl, rfl, rfl, rfl, rfl, rfl, rfl, rfl, rfl, rfl, rfl, rfl, rfl, rfl, rfl, rfl, rfl, rfl, rfl, rfl, rfl, rfl, rfl, rfl, rfl, rfl, rfl, rfl, rfl, rfl, rfl, rfl, rfl, rfl, rfl, rfl, rfl, rfl, rfl, rfl, rfl, rfl, rfl, rfl, rfl, rfl, rfl, rfl, rfl, rfl, rfl, rfl, rfl, rfl, rfl, rfl⟩
/-! the reference: reading by pieces -/
section PU
variable {M : px_mem} {Q : Option pv → px_mem → Prop}
set_option maxHeartbeats 600000 in
set_option maxRecDepth 100000 in
theorem lp_rrp2 {M0 : px_mem} {c bl p e w n g got : Int} {A : List Int} (hgot : M0 127 9 = got) (hg : 0 ≤ got) (hgn : got + n ≤ 40) (hn : 1 ≤ n) (hp : 0 ≤ p ∧ p < 4000) (hr : (128 ≤ w → 0 ≤ g ∧ g + n ≤ 40) ∧ (¬ 128 ≤ w → 0 ≤ g ∧ g + n ≤ 1294)) (hx : ∀ M', lst (M' 134) (got + n) = A ++ lst (fun j => if 128 ≤ w then M0 135 (g + j) else M0 128 (g + j)) n → M' 127 9 = got + n → (∀ j, j ≠ 9 → M' 127 j = M0 127 j) → (∀ b, b ≠ 134 → b ≠ 127 → M' b = M0 b) → px_WP 192 0 0 (px_Q0 LAY Q) 30 [(2, 127), (0, c), (0, bl), (0, if 128 ≤ w then p + 1 else p + n), (0, e), (9, 0), (9, 0), (9, 0), (9, 0)] [] LAY M' 0 0) (k : Int) (hk_k : k ≤ n) : ∀ (M : px_mem), 0 ≤ k → lst (M 134) (got + k) = A ++ lst (fun j => if 128 ≤ w then M0 135 (g + j) else M0 128 (g + j)) k → (∀ b, b ≠ 134 → M b = M0 b) → px_WP 192 0 0 (px_Q0 LAY Q) 147 [(2, 127), (0, c), (0, bl), (0, p), (0, e), (0, w), (0, n), (0, g), (0, k)] [] LAY M 0 0 := by
  refine up_ind (P := fun k => ∀ (M : px_mem), 0 ≤ k → lst (M 134) (got + k) = A ++ lst (fun j => if 128 ≤ w then M0 135 (g + j) else M0 128 (g + j)) k → (∀ b, b ≠ 134 → M b = M0 b) → px_WP 192 0 0 (px_Q0 LAY Q) 147 [(2, 127), (0, c), (0, bl), (0, p), (0, e), (0, w), (0, n), (0, g), (0, k)] [] LAY M 0 0) (n) (fun k hk_k ih => ?_) k hk_k
  intro M k0 ha hf
  have h127 := hf 127 (by decide)
  have h128 := hf 128 (by decide)
  have h135 := hf 135 (by decide)
  refine px_go_ok (inl := []) 60 ?_
  simp only [px_go, px_Q0_at, px_sx_0, px_sx_s, px_cl, px_step, ↓px_ll, px_lg, f4_, ↓px_r1, ↓px_r2, ↓px_r4, ↓px_r5, ↓px_p1, ↓px_p2, ↓px_p3, ↓px_pop, px_k_0, px_k_s, px_k3_0, px_stk_, px_cats, px_ent, px_st1, px_st2, px_mask, ↓px_tsw, ↓px_lsw, ct_, mls_0, mls_1, mls_2, mls_3, mls_4, mls_5, kd_0, kd_1, kd_2, kd_3, ln_0, ln_1, ln_2, ln_3, gf_0, gf_1, gf_2, gf_3, gf_4, gf_7, gf_21, gf_63, dy_0, dy_1, dy_2, dy_3, dy_7, dy_21, px_brT, px_brF, true_and, and_true, and_false, false_and, and_self, true_implies, false_implies, or_true, true_or, or_false, false_or, eq_self, ne_eq, not_false_eq_true, not_true_eq_false, if_true, if_false, List.mem_cons, List.not_mem_nil, List.length_cons, List.length_nil, Nat.reduceEqDiff, Nat.reduceAdd, Nat.reduceSub, Nat.reduceLeDiff, Nat.reduceLT, Int.reduceEq, Int.reduceLT, Int.reduceLE, Int.reduceNeg, Int.reduceAdd, Int.reduceSub, Int.reduceToNat, ↓reduceIte, one_ne_zero_, zero_ne_one_, px_in32L, cd_192, h127, h128, h135, hgot]
  repeat' (first | (with_reducible apply And.intro) | (with_reducible refine px_br_intro (fun _ => ?_) (fun _ => ?_)))
  all_goals (try (first | (unfold px_in32; omega) | omega))
  · rename_i c1 c2
    have q : k = n := by omega
    subst q
    rw [if_pos c2] at hx
    exact hx _ (by rw [row_ne (by decide)]; exact ha) (by rw [px_up_at, if_pos ⟨rfl, rfl⟩]) (fun j j0 => by rw [px_up_at, if_neg (fun z => j0 z.2), h127]) (fun b b0 b1 => by rw [row_ne b1]; exact hf b b0)
  · rename_i c1 c2
    have q : k = n := by omega
    subst q
    rw [if_neg c2] at hx
    exact hx _ (by rw [row_ne (by decide)]; exact ha) (by rw [px_up_at, if_pos ⟨rfl, rfl⟩]) (fun j j0 => by rw [px_up_at, if_neg (fun z => j0 z.2), h127]) (fun b b0 b1 => by rw [row_ne b1]; exact hf b b0)
  · rename_i c1 c2
    refine ih (by omega) _ (by omega) ?_ (fun b b0 => by rw [row_ne b0]; exact hf b b0)
    rw [← Int.add_assoc, lst_up M 134 _ (by omega), ha, lst_snoc (f := fun j => if 128 ≤ w then M0 135 (g + j) else M0 128 (g + j)) k0, if_pos c2, List.append_assoc]
  · rename_i c1 c2
    refine ih (by omega) _ (by omega) ?_ (fun b b0 => by rw [row_ne b0]; exact hf b b0)
    rw [← Int.add_assoc, lst_up M 134 _ (by omega), ha, lst_snoc (f := fun j => if 128 ≤ w then M0 135 (g + j) else M0 128 (g + j)) k0, if_neg c2, List.append_assoc]
set_option maxHeartbeats 4000000 in
set_option maxRecDepth 100000 in
theorem lp_rrp {M0 : px_mem} {c bl e L : Int} {R : Option (List Int)} (hc : 0 ≤ c ∧ c < 40) (he : e ≤ 400) (hL : rC (M0 128) c 1 = L) (hL2 : 0 ≤ L ∧ L ≤ 40) (hbl : 0 ≤ bl ∧ bl ≤ 40) (hv : ∀ k, 0 ≤ k → k < 400 → 0 ≤ M0 128 (894 + k) ∧ M0 128 (894 + k) < 256) (h1 : ∀ M' l, R = some l → lst (M' 134) L = l → M' 127 9 = L → (∀ j, j ≠ 9 → M' 127 j = M0 127 j) → (∀ b, b ≠ 134 → b ≠ 127 → M' b = M0 b) → Q (some (0, 1)) M') (h0 : ∀ M', R = none → (∀ j, j ≠ 9 → M' 127 j = M0 127 j) → (∀ b, b ≠ 134 → b ≠ 127 → M' b = M0 b) → Q (some (0, 0)) M') : ∀ (f : Nat) (x p got : Int) (M : px_mem), x = 894 + p → 0 ≤ p → e ≤ p + f → p ≤ 500 → M 127 9 = got → 0 ≤ got → got ≤ L → dp (fun k => M0 128 (894 + k)) (M0 135) bl e L (f + 1) p (lst (M 134) got) = R → (∀ j, j ≠ 9 → M 127 j = M0 127 j) → (∀ b, b ≠ 134 → b ≠ 127 → M b = M0 b) → px_WP 192 0 0 (px_Q0 LAY Q) 30 [(2, 127), (0, c), (0, bl), (0, x), (0, 894 + e), (9, 0), (9, 0), (9, 0), (9, 0)] [] LAY M 0 0 := by
  intro f
  induction f with
  | zero =>
    intro x p got M hx hp hpe hp5 hgot hg hg2 hR hj hf
    have h128 := hf 128 (by decide) (by decide)
    rw [dp_s, if_pos (by omega), lst_len hg] at hR
    refine px_go_ok (inl := []) 200 ?_
    simp only [px_go, px_Q0_at, px_sx_0, px_sx_s, px_cl, px_step, ↓px_ll, px_lg, f4_, ↓px_r1, ↓px_r2, ↓px_r4, ↓px_r5, ↓px_p1, ↓px_p2, ↓px_p3, ↓px_pop, px_k_0, px_k_s, px_k3_0, px_stk_, px_cats, px_ent, px_st1, px_st2, px_mask, ↓px_tsw, ↓px_lsw, ct_, mls_0, mls_1, mls_2, mls_3, mls_4, mls_5, kd_0, kd_1, kd_2, kd_3, ln_0, ln_1, ln_2, ln_3, gf_0, gf_1, gf_2, gf_3, gf_4, gf_7, gf_21, gf_63, dy_0, dy_1, dy_2, dy_3, dy_7, dy_21, px_brT, px_brF, true_and, and_true, and_false, false_and, and_self, true_implies, false_implies, or_true, true_or, or_false, false_or, eq_self, ne_eq, not_false_eq_true, not_true_eq_false, if_true, if_false, List.mem_cons, List.not_mem_nil, List.length_cons, List.length_nil, Nat.reduceEqDiff, Nat.reduceAdd, Nat.reduceSub, Nat.reduceLeDiff, Nat.reduceLT, Int.reduceEq, Int.reduceLT, Int.reduceLE, Int.reduceNeg, Int.reduceAdd, Int.reduceSub, Int.reduceToNat, ↓reduceIte, one_ne_zero_, zero_ne_one_, px_in32L, cd_192, h128, hgot]
    refine px_br_intro (fun c1 => ?_) (fun c1 => by omega)
    refine sp_partOf hc (by decide) ?_
    rw [h128, hL]
    simp only [px_go, px_Q0_at, px_sx_0, px_sx_s, px_cl, px_step, ↓px_ll, px_lg, f4_, ↓px_r1, ↓px_r2, ↓px_r4, ↓px_r5, ↓px_p1, ↓px_p2, ↓px_p3, ↓px_pop, px_k_0, px_k_s, px_k3_0, px_stk_, px_cats, px_ent, px_st1, px_st2, px_mask, ↓px_tsw, ↓px_lsw, ct_, mls_0, mls_1, mls_2, mls_3, mls_4, mls_5, kd_0, kd_1, kd_2, kd_3, ln_0, ln_1, ln_2, ln_3, gf_0, gf_1, gf_2, gf_3, gf_4, gf_7, gf_21, gf_63, dy_0, dy_1, dy_2, dy_3, dy_7, dy_21, px_brT, px_brF, true_and, and_true, and_false, false_and, and_self, true_implies, false_implies, or_true, true_or, or_false, false_or, eq_self, ne_eq, not_false_eq_true, not_true_eq_false, if_true, if_false, List.mem_cons, List.not_mem_nil, List.length_cons, List.length_nil, Nat.reduceEqDiff, Nat.reduceAdd, Nat.reduceSub, Nat.reduceLeDiff, Nat.reduceLT, Int.reduceEq, Int.reduceLT, Int.reduceLE, Int.reduceNeg, Int.reduceAdd, Int.reduceSub, Int.reduceToNat, ↓reduceIte, one_ne_zero_, zero_ne_one_, px_in32L, cd_192, h128, hgot]
    repeat' (first | (with_reducible apply And.intro) | (with_reducible refine px_br_intro (fun _ => ?_) (fun _ => ?_)))
    all_goals (try (first | (unfold px_in32; omega) | omega))
    · rename_i c2
      rw [if_pos c2] at hR
      exact h1 M _ hR.symm (by rw [c2]) (by rw [hgot, c2]) hj hf
    · rename_i c2
      rw [if_neg c2] at hR
      exact h0 M hR.symm hj hf
  | succ f ih =>
    intro x p got M hx hp hpe hp5 hgot hg hg2 hR hj hf
    have h128 := hf 128 (by decide) (by decide)
    have h135 := hf 135 (by decide) (by decide)
    rw [dp_s, lst_len hg] at hR
    have hv1 := hv p hp
    have hv2 := hv (p + 1) (by omega)
    rw [show (894 : Int) + (p + 1) = x + 1 by omega] at hv2
    have hR2 := hR
    simp only [show (894 : Int) + (p + 1) = x + 1 by omega] at hR
    rw [← hx] at hv1
    simp only [← hx] at hR
    refine px_go_ok (inl := []) 200 ?_
    simp only [px_go, px_Q0_at, px_sx_0, px_sx_s, px_cl, px_step, ↓px_ll, px_lg, f4_, ↓px_r1, ↓px_r2, ↓px_r4, ↓px_r5, ↓px_p1, ↓px_p2, ↓px_p3, ↓px_pop, px_k_0, px_k_s, px_k3_0, px_stk_, px_cats, px_ent, px_st1, px_st2, px_mask, ↓px_tsw, ↓px_lsw, ct_, mls_0, mls_1, mls_2, mls_3, mls_4, mls_5, kd_0, kd_1, kd_2, kd_3, ln_0, ln_1, ln_2, ln_3, gf_0, gf_1, gf_2, gf_3, gf_4, gf_7, gf_21, gf_63, dy_0, dy_1, dy_2, dy_3, dy_7, dy_21, px_brT, px_brF, true_and, and_true, and_false, false_and, and_self, true_implies, false_implies, or_true, true_or, or_false, false_or, eq_self, ne_eq, not_false_eq_true, not_true_eq_false, if_true, if_false, List.mem_cons, List.not_mem_nil, List.length_cons, List.length_nil, Nat.reduceEqDiff, Nat.reduceAdd, Nat.reduceSub, Nat.reduceLeDiff, Nat.reduceLT, Int.reduceEq, Int.reduceLT, Int.reduceLE, Int.reduceNeg, Int.reduceAdd, Int.reduceSub, Int.reduceToNat, ↓reduceIte, one_ne_zero_, zero_ne_one_, px_in32L, cd_192, h128, hgot]
    repeat' (first | (with_reducible apply And.intro) | (with_reducible refine px_br_intro (fun _ => ?_) (fun _ => ?_)))
    all_goals (try (first | (unfold px_in32; omega) | omega))
    · rw [if_pos (by omega)] at hR
      refine sp_partOf hc (by decide) ?_
      rw [h128, hL]
      simp only [px_go, px_Q0_at, px_sx_0, px_sx_s, px_cl, px_step, ↓px_ll, px_lg, f4_, ↓px_r1, ↓px_r2, ↓px_r4, ↓px_r5, ↓px_p1, ↓px_p2, ↓px_p3, ↓px_pop, px_k_0, px_k_s, px_k3_0, px_stk_, px_cats, px_ent, px_st1, px_st2, px_mask, ↓px_tsw, ↓px_lsw, ct_, mls_0, mls_1, mls_2, mls_3, mls_4, mls_5, kd_0, kd_1, kd_2, kd_3, ln_0, ln_1, ln_2, ln_3, gf_0, gf_1, gf_2, gf_3, gf_4, gf_7, gf_21, gf_63, dy_0, dy_1, dy_2, dy_3, dy_7, dy_21, px_brT, px_brF, true_and, and_true, and_false, false_and, and_self, true_implies, false_implies, or_true, true_or, or_false, false_or, eq_self, ne_eq, not_false_eq_true, not_true_eq_false, if_true, if_false, List.mem_cons, List.not_mem_nil, List.length_cons, List.length_nil, Nat.reduceEqDiff, Nat.reduceAdd, Nat.reduceSub, Nat.reduceLeDiff, Nat.reduceLT, Int.reduceEq, Int.reduceLT, Int.reduceLE, Int.reduceNeg, Int.reduceAdd, Int.reduceSub, Int.reduceToNat, ↓reduceIte, one_ne_zero_, zero_ne_one_, px_in32L, cd_192, h128, hgot]
      repeat' (first | (with_reducible apply And.intro) | (with_reducible refine px_br_intro (fun _ => ?_) (fun _ => ?_)))
      all_goals (try (first | (unfold px_in32; omega) | omega))
      · rename_i c2
        rw [if_pos c2] at hR
        exact h1 M _ hR.symm (by rw [c2]) (by rw [hgot, c2]) hj hf
      · rename_i c2
        rw [if_neg c2] at hR
        exact h0 M hR.symm hj hf
    · rw [if_neg (by omega), if_neg (by omega), if_pos (by omega)] at hR
      exact h0 M hR.symm hj hf
    · rw [if_neg (by omega), if_neg (by omega), if_neg (by omega), if_pos (by omega)] at hR
      exact h0 M hR.symm hj hf
    · rw [if_neg (by omega), if_neg (by omega), if_neg (by omega)] at hR
      refine sp_partOf hc (by decide) ?_
      rw [h128, hL]
      simp only [px_go, px_Q0_at, px_sx_0, px_sx_s, px_cl, px_step, ↓px_ll, px_lg, f4_, ↓px_r1, ↓px_r2, ↓px_r4, ↓px_r5, ↓px_p1, ↓px_p2, ↓px_p3, ↓px_pop, px_k_0, px_k_s, px_k3_0, px_stk_, px_cats, px_ent, px_st1, px_st2, px_mask, ↓px_tsw, ↓px_lsw, ct_, mls_0, mls_1, mls_2, mls_3, mls_4, mls_5, kd_0, kd_1, kd_2, kd_3, ln_0, ln_1, ln_2, ln_3, gf_0, gf_1, gf_2, gf_3, gf_4, gf_7, gf_21, gf_63, dy_0, dy_1, dy_2, dy_3, dy_7, dy_21, px_brT, px_brF, true_and, and_true, and_false, false_and, and_self, true_implies, false_implies, or_true, true_or, or_false, false_or, eq_self, ne_eq, not_false_eq_true, not_true_eq_false, if_true, if_false, List.mem_cons, List.not_mem_nil, List.length_cons, List.length_nil, Nat.reduceEqDiff, Nat.reduceAdd, Nat.reduceSub, Nat.reduceLeDiff, Nat.reduceLT, Int.reduceEq, Int.reduceLT, Int.reduceLE, Int.reduceNeg, Int.reduceAdd, Int.reduceSub, Int.reduceToNat, ↓reduceIte, one_ne_zero_, zero_ne_one_, px_in32L, cd_192, h128, hgot]
      repeat' (first | (with_reducible apply And.intro) | (with_reducible refine px_br_intro (fun _ => ?_) (fun _ => ?_)))
      all_goals (try (first | (unfold px_in32; omega) | omega))
      · rw [if_pos (by omega)] at hR
        exact h0 M hR.symm hj hf
      · rw [if_neg (by omega)] at hR
        refine lp_rrp2 (M0 := M) (A := lst (M 134) got) hgot hg (by omega) (by omega) (by omega) (by omega) (fun M' e1 e2 e3 e4 => ?_) 0 (by omega) M (by decide) (by rw [Int.add_zero]; exact (List.append_nil _).symm) (fun _ _ => rfl)
        rw [if_pos (by omega)]
        refine ih _ (p + 2) _ M' (by omega) (by omega) (by omega) (by omega) e2 (by omega) (by omega) ?_ (fun j j0 => by rw [e3 j j0, hj j j0]) (fun b b0 b1 => by rw [e4 b b0 b1, hf b b0 b1])
        rw [e1, ← hR]
        congr 2
        exact lst_congr (fun j _ _ => by rw [if_pos (by omega), h135])
      · rw [if_pos (by omega)] at hR
        exact h0 M hR.symm hj hf
    · rw [if_neg (by omega), if_pos (by omega), if_pos (by omega)] at hR
      exact h0 M hR.symm hj hf
    · rw [if_neg (by omega), if_pos (by omega)] at hR
      refine sp_partOf hc (by decide) ?_
      rw [h128, hL]
      simp only [px_go, px_Q0_at, px_sx_0, px_sx_s, px_cl, px_step, ↓px_ll, px_lg, f4_, ↓px_r1, ↓px_r2, ↓px_r4, ↓px_r5, ↓px_p1, ↓px_p2, ↓px_p3, ↓px_pop, px_k_0, px_k_s, px_k3_0, px_stk_, px_cats, px_ent, px_st1, px_st2, px_mask, ↓px_tsw, ↓px_lsw, ct_, mls_0, mls_1, mls_2, mls_3, mls_4, mls_5, kd_0, kd_1, kd_2, kd_3, ln_0, ln_1, ln_2, ln_3, gf_0, gf_1, gf_2, gf_3, gf_4, gf_7, gf_21, gf_63, dy_0, dy_1, dy_2, dy_3, dy_7, dy_21, px_brT, px_brF, true_and, and_true, and_false, false_and, and_self, true_implies, false_implies, or_true, true_or, or_false, false_or, eq_self, ne_eq, not_false_eq_true, not_true_eq_false, if_true, if_false, List.mem_cons, List.not_mem_nil, List.length_cons, List.length_nil, Nat.reduceEqDiff, Nat.reduceAdd, Nat.reduceSub, Nat.reduceLeDiff, Nat.reduceLT, Int.reduceEq, Int.reduceLT, Int.reduceLE, Int.reduceNeg, Int.reduceAdd, Int.reduceSub, Int.reduceToNat, ↓reduceIte, one_ne_zero_, zero_ne_one_, px_in32L, cd_192, h128, hgot]
      repeat' (first | (with_reducible apply And.intro) | (with_reducible refine px_br_intro (fun _ => ?_) (fun _ => ?_)))
      all_goals (try (first | (unfold px_in32; omega) | omega))
      · rw [if_pos (by omega)] at hR
        exact h0 M hR.symm hj hf
      · rw [if_neg (by omega)] at hR
        refine lp_rrp2 (M0 := M) (A := lst (M 134) got) hgot hg (by omega) (by omega) (by omega) (by omega) (fun M' e1 e2 e3 e4 => ?_) 0 (by omega) M (by decide) (by rw [Int.add_zero]; exact (List.append_nil _).symm) (fun _ _ => rfl)
        rw [if_neg (by omega)]
        refine ih _ (p + 1 + M0 128 x) _ M' (by omega) (by omega) (by omega) (by omega) e2 (by omega) (by omega) ?_ (fun j j0 => by rw [e3 j j0, hj j j0]) (fun b b0 b1 => by rw [e4 b b0 b1, hf b b0 b1])
        rw [e1, ← hR]
        congr 2
        exact lst_congr (fun j _ _ => by rw [if_neg (by omega), h128, show x + 1 + j = 894 + (p + 1 + j) by omega])
      · rw [if_pos (by omega)] at hR
        exact h0 M hR.symm hj hf
set_option maxHeartbeats 600000 in
set_option maxRecDepth 100000 in
theorem sp_readsPieces {c bl : Int} (hc : 0 ≤ c ∧ c < 40) (hp : 0 ≤ rC (M 128) c 3 ∧ 0 ≤ rC (M 128) c 4 ∧ rC (M 128) c 3 + rC (M 128) c 4 ≤ 400) (hL : 0 ≤ rC (M 128) c 1 ∧ rC (M 128) c 1 ≤ 40) (hbl : 0 ≤ bl ∧ bl ≤ 40) (hv : ∀ k, 0 ≤ k → k < 400 → 0 ≤ M 128 (894 + k) ∧ M 128 (894 + k) < 256) (h1 : ∀ M' l, dp (fun k => M 128 (894 + k)) (M 134) bl (rC (M 128) c 3 + rC (M 128) c 4) (rC (M 128) c 1) 401 (rC (M 128) c 3) [] = some l → lst (M' 134) (rC (M 128) c 1) = l → M' 127 9 = rC (M 128) c 1 → (∀ j, j ≠ 9 → M' 127 j = M 127 j) → (∀ b, b ≠ 134 → b ≠ 135 → b ≠ 127 → M' b = M b) → Q (some (0, 1)) M') (h0 : ∀ M', dp (fun k => M 128 (894 + k)) (M 134) bl (rC (M 128) c 3 + rC (M 128) c 4) (rC (M 128) c 1) 401 (rC (M 128) c 3) [] = none → (∀ j, j ≠ 9 → M' 127 j = M 127 j) → (∀ b, b ≠ 134 → b ≠ 135 → b ≠ 127 → M' b = M b) → Q (some (0, 0)) M') : px_Ok 192 [(2, 127), (0, c), (0, bl)] LAY M Q := by
  refine px_ok_go (inl := []) (ls0 := [(2, 127), (0, c), (0, bl), (9, 0), (9, 0), (9, 0), (9, 0), (9, 0), (9, 0)]) 60 (by decide) (Nat.le_of_ble_eq_true rfl) rfl ?_
  simp only [px_go, px_Q0_at, px_sx_0, px_sx_s, px_cl, px_step, ↓px_ll, px_lg, f4_, ↓px_r1, ↓px_r2, ↓px_r4, ↓px_r5, ↓px_p1, ↓px_p2, ↓px_p3, ↓px_pop, px_k_0, px_k_s, px_k3_0, px_stk_, px_cats, px_ent, px_st1, px_st2, px_mask, ↓px_tsw, ↓px_lsw, ct_, mls_0, mls_1, mls_2, mls_3, mls_4, mls_5, kd_0, kd_1, kd_2, kd_3, ln_0, ln_1, ln_2, ln_3, gf_0, gf_1, gf_2, gf_3, gf_4, gf_7, gf_21, gf_63, dy_0, dy_1, dy_2, dy_3, dy_7, dy_21, px_brT, px_brF, true_and, and_true, and_false, false_and, and_self, true_implies, false_implies, or_true, true_or, or_false, false_or, eq_self, ne_eq, not_false_eq_true, not_true_eq_false, if_true, if_false, List.mem_cons, List.not_mem_nil, List.length_cons, List.length_nil, Nat.reduceEqDiff, Nat.reduceAdd, Nat.reduceSub, Nat.reduceLeDiff, Nat.reduceLT, Int.reduceEq, Int.reduceLT, Int.reduceLE, Int.reduceNeg, Int.reduceAdd, Int.reduceSub, Int.reduceToNat, ↓reduceIte, one_ne_zero_, zero_ne_one_, px_in32L, cd_192]
  repeat' (first | (with_reducible apply And.intro) | (with_reducible refine px_br_intro (fun _ => ?_) (fun _ => ?_)))
  all_goals (try (first | (unfold px_in32; omega) | omega))
  refine sp_rises (fun M1 g1 g2 => ?_)
  have h128 := g2 128 (by decide)
  have h127 := g2 127 (by decide)
  have h134 := g2 134 (by decide)
  simp only [px_go, px_Q0_at, px_sx_0, px_sx_s, px_cl, px_step, ↓px_ll, px_lg, f4_, ↓px_r1, ↓px_r2, ↓px_r4, ↓px_r5, ↓px_p1, ↓px_p2, ↓px_p3, ↓px_pop, px_k_0, px_k_s, px_k3_0, px_stk_, px_cats, px_ent, px_st1, px_st2, px_mask, ↓px_tsw, ↓px_lsw, ct_, mls_0, mls_1, mls_2, mls_3, mls_4, mls_5, kd_0, kd_1, kd_2, kd_3, ln_0, ln_1, ln_2, ln_3, gf_0, gf_1, gf_2, gf_3, gf_4, gf_7, gf_21, gf_63, dy_0, dy_1, dy_2, dy_3, dy_7, dy_21, px_brT, px_brF, true_and, and_true, and_false, false_and, and_self, true_implies, false_implies, or_true, true_or, or_false, false_or, eq_self, ne_eq, not_false_eq_true, not_true_eq_false, if_true, if_false, List.mem_cons, List.not_mem_nil, List.length_cons, List.length_nil, Nat.reduceEqDiff, Nat.reduceAdd, Nat.reduceSub, Nat.reduceLeDiff, Nat.reduceLT, Int.reduceEq, Int.reduceLT, Int.reduceLE, Int.reduceNeg, Int.reduceAdd, Int.reduceSub, Int.reduceToNat, ↓reduceIte, one_ne_zero_, zero_ne_one_, px_in32L, cd_192]
  refine sp_partOf hc (by decide) ?_
  rw [h128]
  simp only [px_go, px_Q0_at, px_sx_0, px_sx_s, px_cl, px_step, ↓px_ll, px_lg, f4_, ↓px_r1, ↓px_r2, ↓px_r4, ↓px_r5, ↓px_p1, ↓px_p2, ↓px_p3, ↓px_pop, px_k_0, px_k_s, px_k3_0, px_stk_, px_cats, px_ent, px_st1, px_st2, px_mask, ↓px_tsw, ↓px_lsw, ct_, mls_0, mls_1, mls_2, mls_3, mls_4, mls_5, kd_0, kd_1, kd_2, kd_3, ln_0, ln_1, ln_2, ln_3, gf_0, gf_1, gf_2, gf_3, gf_4, gf_7, gf_21, gf_63, dy_0, dy_1, dy_2, dy_3, dy_7, dy_21, px_brT, px_brF, true_and, and_true, and_false, false_and, and_self, true_implies, false_implies, or_true, true_or, or_false, false_or, eq_self, ne_eq, not_false_eq_true, not_true_eq_false, if_true, if_false, List.mem_cons, List.not_mem_nil, List.length_cons, List.length_nil, Nat.reduceEqDiff, Nat.reduceAdd, Nat.reduceSub, Nat.reduceLeDiff, Nat.reduceLT, Int.reduceEq, Int.reduceLT, Int.reduceLE, Int.reduceNeg, Int.reduceAdd, Int.reduceSub, Int.reduceToNat, ↓reduceIte, one_ne_zero_, zero_ne_one_, px_in32L, cd_192]
  repeat' (first | (with_reducible apply And.intro) | (with_reducible refine px_br_intro (fun _ => ?_) (fun _ => ?_)))
  all_goals (try (first | (unfold px_in32; omega) | omega))
  refine sp_partOf hc (by decide) ?_
  rw [h128]
  simp only [px_go, px_Q0_at, px_sx_0, px_sx_s, px_cl, px_step, ↓px_ll, px_lg, f4_, ↓px_r1, ↓px_r2, ↓px_r4, ↓px_r5, ↓px_p1, ↓px_p2, ↓px_p3, ↓px_pop, px_k_0, px_k_s, px_k3_0, px_stk_, px_cats, px_ent, px_st1, px_st2, px_mask, ↓px_tsw, ↓px_lsw, ct_, mls_0, mls_1, mls_2, mls_3, mls_4, mls_5, kd_0, kd_1, kd_2, kd_3, ln_0, ln_1, ln_2, ln_3, gf_0, gf_1, gf_2, gf_3, gf_4, gf_7, gf_21, gf_63, dy_0, dy_1, dy_2, dy_3, dy_7, dy_21, px_brT, px_brF, true_and, and_true, and_false, false_and, and_self, true_implies, false_implies, or_true, true_or, or_false, false_or, eq_self, ne_eq, not_false_eq_true, not_true_eq_false, if_true, if_false, List.mem_cons, List.not_mem_nil, List.length_cons, List.length_nil, Nat.reduceEqDiff, Nat.reduceAdd, Nat.reduceSub, Nat.reduceLeDiff, Nat.reduceLT, Int.reduceEq, Int.reduceLT, Int.reduceLE, Int.reduceNeg, Int.reduceAdd, Int.reduceSub, Int.reduceToNat, ↓reduceIte, one_ne_zero_, zero_ne_one_, px_in32L, cd_192]
  repeat' (first | (with_reducible apply And.intro) | (with_reducible refine px_br_intro (fun _ => ?_) (fun _ => ?_)))
  all_goals (try (first | (unfold px_in32; omega) | omega))
  have hd : dp (fun k => (px_up M1 127 9 0) 128 (894 + k)) ((px_up M1 127 9 0) 135) bl (rC (M 128) c 3 + rC (M 128) c 4) (rC (M 128) c 1) 401 (rC (M 128) c 3) [] = dp (fun k => M 128 (894 + k)) (M 134) bl (rC (M 128) c 3 + rC (M 128) c 4) (rC (M 128) c 1) 401 (rC (M 128) c 3) [] :=
    dp_congr (fun k _ _ => by rw [row_ne (by decide), h128]) (fun k k0 k1 => by rw [row_ne (by decide), g1 k, if_pos (by omega)])
  rw [show 894 + rC (M 128) c 3 + rC (M 128) c 4 = 894 + (rC (M 128) c 3 + rC (M 128) c 4) by omega]
  refine lp_rrp (M0 := px_up M1 127 9 0) (L := rC (M 128) c 1) (R := dp (fun k => M 128 (894 + k)) (M 134) bl (rC (M 128) c 3 + rC (M 128) c 4) (rC (M 128) c 1) 401 (rC (M 128) c 3) []) hc hp.2.2 (by rw [row_ne (by decide), h128]) hL hbl (by rw [row_ne (by decide), h128]; exact hv) (fun M' l e1 e2 e9 e3 e4 => h1 M' l e1 e2 e9 (fun j j0 => ?_) (fun b b0 b1 b2 => ?_)) (fun M' e1 e3 e4 => h0 M' e1 (fun j j0 => ?_) (fun b b0 b1 b2 => ?_)) 400 _ (rC (M 128) c 3) 0 _ rfl hp.1 (by omega) (by omega) (by rw [px_up_at, if_pos ⟨rfl, rfl⟩]) (Int.le_refl 0) hL.1 hd (fun _ _ => rfl) (fun _ _ _ => rfl)
  all_goals first
    | rw [e3 j j0, px_up_at, if_neg (fun z => j0 z.2), h127]
    | rw [e4 b b0 b2, row_ne b2, g2 b b1]
end PU
