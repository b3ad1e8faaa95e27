set_option maxRecDepth 100000 in
/-- X12_listings -/
theorem cd_260 : px_at 260 0 = some (1, [], .iconst 0, []) ∧ px_at 260 1 = some (2, [], .istore_n 2, []) ∧ px_at 260 2 = some (3, [], .iconst 0, []) ∧ px_at 260 3 = some (4, [], .istore_n 3, []) ∧ px_at 260 4 = some (5, [1, 1, 1, 1, 0], .iload_n 3, []) ∧ px_at 260 5 = some (6, [], .aload_n 0, []) ∧ px_at 260 6 = some (9, [], .getfield 7, [11, 0, 2, 1, 125]) ∧ px_at 260 9 = some (10, [], .iconst 5, []) ∧ px_at 260 10 = some (11, [], .iaload, []) ∧ px_at 260 11 = some (14, [], .if_icmp .ge 43, [54]) ∧ px_at 260 14 = some (15, [], .iconst 0, []) ∧ px_at 260 15 = some (17, [], .istore 4, []) ∧ px_at 260 17 = some (19, [1, 1, 1, 1, 1], .iload 4, []) ∧ px_at 260 19 = some (20, [], .aload_n 0, []) ∧ px_at 260 20 = some (21, [], .iload_n 3, []) ∧ px_at 260 21 = some (24, [], .invokevirtual 180, [206, 1, 11, 253]) ∧ px_at 260 24 = some (27, [], .if_icmp .ge 24, [48]) ∧ px_at 260 27 = some (28, [], .aload_n 0, []) ∧ px_at 260 28 = some (29, [], .iload_n 3, []) ∧ px_at 260 29 = some (31, [], .iload 4, []) ∧ px_at 260 31 = some (34, [], .invokevirtual 187, [207, 2, 11, 256]) ∧ px_at 260 34 = some (35, [], .iload_n 1, []) ∧ px_at 260 35 = some (38, [], .if_icmp .ne 7, [42]) ∧ px_at 260 38 = some (39, [], .iload_n 2, []) ∧ px_at 260 39 = some (40, [], .iconst 1, []) ∧ px_at 260 40 = some (41, [], .iadd, []) ∧ px_at 260 41 = some (42, [], .istore_n 2, []) ∧ px_at 260 42 = some (45, [], .iinc 4 1, []) ∧ px_at 260 45 = some (48, [], .goto (-28), [17]) ∧ px_at 260 48 = some (51, [], .iinc 3 1, []) ∧ px_at 260 51 = some (54, [], .goto (-47), [4]) ∧ px_at 260 54 = some (55, [], .iload_n 2, []) ∧ px_at 260 55 = some (56, [], .ireturn, [0]) := ⟨rfl, rfl, rfl, rfl, rfl, rfl, rfl, rfl, rfl, rfl, rfl, rfl, rfl, rfl, rfl, rfl, rfl, rfl, rfl, rfl, rfl, rfl, rfl, rfl, rfl, rfl, rfl, rfl, rfl, rfl, rfl, rfl, rfl⟩
set_option maxRecDepth 100000 in
/-- X12_hanging -/
theorem cd_261 : px_at 261 0 = some (1, [], .iconst 0, []) ∧ px_at 261 1 = some (2, [], .istore_n 3, []) ∧ px_at 261 2 = some (3, [], .iconst 0, []) ∧ px_at 261 3 = some (5, [], .istore 4, []) ∧ px_at 261 5 = some (7, [1, 1, 1, 1, 1], .iload 4, []) ∧ px_at 261 7 = some (9, [], .bipush 40, []) ∧ px_at 261 9 = some (12, [], .if_icmp .ge 47, [56]) ∧ px_at 261 12 = some (13, [], .aload_n 0, []) ∧ px_at 261 13 = some (15, [], .iload 4, []) ∧ px_at 261 15 = some (16, [], .iconst 0, []) ∧ px_at 261 16 = some (19, [], .invokevirtual 109, [187, 2, 11, 259]) ∧ px_at 261 19 = some (20, [], .iconst 1, []) ∧ px_at 261 20 = some (23, [], .if_icmp .ne 30, [50]) ∧ px_at 261 23 = some (24, [], .aload_n 0, []) ∧ px_at 261 24 = some (26, [], .iload 4, []) ∧ px_at 261 26 = some (27, [], .iload_n 1, []) ∧ px_at 261 27 = some (30, [], .invokevirtual 337, [259, 2, 11, 306]) ∧ px_at 261 30 = some (33, [], .ifCond .eq 20, [50]) ∧ px_at 261 33 = some (34, [], .iload_n 3, []) ∧ px_at 261 34 = some (35, [], .iload_n 2, []) ∧ px_at 261 35 = some (38, [], .ifCond .eq 12, [47]) ∧ px_at 261 38 = some (39, [], .aload_n 0, []) ∧ px_at 261 39 = some (41, [], .iload 4, []) ∧ px_at 261 41 = some (44, [], .invokevirtual 340, [260, 1, 11, 307]) ∧ px_at 261 44 = some (47, [], .goto 4, [48]) ∧ px_at 261 47 = some (48, [], .iconst 1, []) ∧ px_at 261 48 = some (49, [], .iadd, []) ∧ px_at 261 49 = some (50, [], .istore_n 3, []) ∧ px_at 261 50 = some (53, [], .iinc 4 1, []) ∧ px_at 261 53 = some (56, [], .goto (-48), [5]) ∧ px_at 261 56 = some (57, [], .iload_n 3, []) ∧ px_at 261 57 = some (58, [], .ireturn, [0]) := ⟨rfl, rfl, rfl, rfl, rfl, rfl, rfl, rfl, rfl, rfl, rfl, rfl, rfl, rfl, rfl, rfl, rfl, rfl, rfl, rfl, rfl, rfl, rfl, rfl, rfl, rfl, rfl, rfl, rfl, rfl, rfl, rfl⟩
set_option maxRecDepth 100000 in
/-- X12_risk -/
theorem cd_262 : px_at 262 0 = some (1, [], .iload_n 1, []) ∧ px_at 262 1 = some (2, [], .iconst 0, []) ∧ px_at 262 2 = some (5, [], .sipush 399, []) ∧ px_at 262 5 = some (8, [], .invokestatic 92, [170, 3, 11, 223]) ∧ px_at 262 8 = some (11, [], .ifCond .eq 12, [20]) ∧ px_at 262 11 = some (12, [], .iload_n 2, []) ∧ px_at 262 12 = some (13, [], .iconst 0, []) ∧ px_at 262 13 = some (14, [], .iconst 1, []) ∧ px_at 262 14 = some (17, [], .invokestatic 92, [170, 3, 11, 223]) ∧ px_at 262 17 = some (20, [], .ifCond .ne 5, [22]) ∧ px_at 262 20 = some (21, [], .iconst (-1), []) ∧ px_at 262 21 = some (22, [], .ireturn, [0]) ∧ px_at 262 22 = some (23, [], .aload_n 0, []) ∧ px_at 262 23 = some (24, [], .iload_n 1, []) ∧ px_at 262 24 = some (27, [], .invokevirtual 325, [251, 1, 11, 295]) ∧ px_at 262 27 = some (28, [], .istore_n 3, []) ∧ px_at 262 28 = some (29, [], .iload_n 3, []) ∧ px_at 262 29 = some (30, [], .iconst (-1), []) ∧ px_at 262 30 = some (33, [], .if_icmp .ne 7, [37]) ∧ px_at 262 33 = some (34, [], .iconst 0, []) ∧ px_at 262 34 = some (37, [], .goto 18, [52]) ∧ px_at 262 37 = some (38, [], .aload_n 0, []) ∧ px_at 262 38 = some (39, [], .iload_n 3, []) ∧ px_at 262 39 = some (40, [], .iload_n 2, []) ∧ px_at 262 40 = some (41, [], .iconst 1, []) ∧ px_at 262 41 = some (44, [], .if_icmp .ne 7, [48]) ∧ px_at 262 44 = some (45, [], .iconst 1, []) ∧ px_at 262 45 = some (48, [], .goto 4, [49]) ∧ px_at 262 48 = some (49, [], .iconst 0, []) ∧ px_at 262 49 = some (52, [], .invokevirtual 343, [261, 2, 11, 305]) ∧ px_at 262 52 = some (53, [], .ireturn, [0]) := ⟨rfl, rfl, rfl, rfl, rfl, rfl, rfl, rfl, rfl, rfl, rfl, rfl, rfl, rfl, rfl, rfl, rfl, rfl, rfl, rfl, rfl, rfl, rfl, rfl, rfl, rfl, rfl, rfl, rfl, rfl, rfl⟩
set_option maxRecDepth 100000 in
/-- X12_weakest -/
theorem cd_263 : px_at 263 0 = some (1, [], .iload_n 1, []) ∧ px_at 263 1 = some (2, [], .iconst 0, []) ∧ px_at 263 2 = some (3, [], .iconst 1, []) ∧ px_at 263 3 = some (6, [], .invokestatic 92, [170, 3, 11, 223]) ∧ px_at 263 6 = some (9, [], .ifCond .ne 5, [11]) ∧ px_at 263 9 = some (10, [], .iconst (-1), []) ∧ px_at 263 10 = some (11, [], .ireturn, [0]) ∧ px_at 263 11 = some (12, [], .iconst 0, []) ∧ px_at 263 12 = some (13, [], .istore_n 2, []) ∧ px_at 263 13 = some (15, [], .bipush (-2), []) ∧ px_at 263 15 = some (16, [], .istore_n 3, []) ∧ px_at 263 16 = some (17, [], .iconst 0, []) ∧ px_at 263 17 = some (19, [], .istore 4, []) ∧ px_at 263 19 = some (21, [1, 1, 1, 1, 1, 0], .iload 4, []) ∧ px_at 263 21 = some (23, [], .bipush 40, []) ∧ px_at 263 23 = some (26, [], .if_icmp .ge 83, [106]) ∧ px_at 263 26 = some (27, [], .aload_n 0, []) ∧ px_at 263 27 = some (29, [], .iload 4, []) ∧ px_at 263 29 = some (30, [], .iconst 0, []) ∧ px_at 263 30 = some (33, [], .invokevirtual 109, [187, 2, 11, 259]) ∧ px_at 263 33 = some (36, [], .ifCond .eq 67, [100]) ∧ px_at 263 36 = some (37, [], .aload_n 0, []) ∧ px_at 263 37 = some (39, [], .iload 4, []) ∧ px_at 263 39 = some (40, [], .iconst 4, []) ∧ px_at 263 40 = some (43, [], .invokevirtual 109, [187, 2, 11, 259]) ∧ px_at 263 43 = some (46, [], .ifCond .ne 6, [49]) ∧ px_at 263 46 = some (49, [], .goto 54, [100]) ∧ px_at 263 49 = some (50, [], .aload_n 0, []) ∧ px_at 263 50 = some (52, [], .iload 4, []) ∧ px_at 263 52 = some (53, [], .iconst 1, []) ∧ px_at 263 53 = some (56, [], .invokevirtual 343, [261, 2, 11, 305]) ∧ px_at 263 56 = some (58, [], .istore 5, []) ∧ px_at 263 58 = some (60, [], .iload 5, []) ∧ px_at 263 60 = some (63, [], .ifCond .eq 40, [100]) ∧ px_at 263 63 = some (65, [], .iload 5, []) ∧ px_at 263 65 = some (66, [], .iload_n 2, []) ∧ px_at 263 66 = some (69, [], .if_icmp .lt 34, [100]) ∧ px_at 263 69 = some (71, [], .iload 5, []) ∧ px_at 263 71 = some (72, [], .iload_n 2, []) ∧ px_at 263 72 = some (75, [], .if_icmp .ne 17, [89]) ∧ px_at 263 75 = some (76, [], .aload_n 0, []) ∧ px_at 263 76 = some (78, [], .iload 4, []) ∧ px_at 263 78 = some (79, [], .iconst 3, []) ∧ px_at 263 79 = some (82, [], .invokevirtual 109, [187, 2, 11, 259]) ∧ px_at 263 82 = some (83, [], .iload_n 3, []) ∧ px_at 263 83 = some (86, [], .if_icmp .le 6, [89]) ∧ px_at 263 86 = some (89, [], .goto 14, [100]) ∧ px_at 263 89 = some (91, [], .iload 5, []) ∧ px_at 263 91 = some (92, [], .istore_n 2, []) ∧ px_at 263 92 = some (93, [], .aload_n 0, []) ∧ px_at 263 93 = some (95, [], .iload 4, []) ∧ px_at 263 95 = some (96, [], .iconst 3, []) ∧ px_at 263 96 = some (99, [], .invokevirtual 109, [187, 2, 11, 259]) ∧ px_at 263 99 = some (100, [], .istore_n 3, []) ∧ px_at 263 100 = some (103, [], .iinc 4 1, []) ∧ px_at 263 103 = some (106, [], .goto (-84), [19]) ∧ px_at 263 106 = some (107, [], .iload_n 1, []) ∧ px_at 263 107 = some (110, [], .ifCond .ne 7, [114]) ∧ px_at 263 110 = some (111, [], .iload_n 3, []) ∧ px_at 263 111 = some (114, [], .goto 4, [115]) ∧ px_at 263 114 = some (115, [], .iload_n 2, []) ∧ px_at 263 115 = some (116, [], .ireturn, [0]) := ⟨rfl, rfl, rfl, rfl, rfl, rfl, rfl, rfl, rfl, rfl, rfl, rfl, rfl, rfl, rfl, rfl, rfl, rfl, rfl, rfl, rfl, rfl, rfl, rfl, rfl, rfl, rfl, rfl, rfl, rfl, rfl, rfl, rfl, rfl, rfl, rfl, rfl, rfl, rfl, rfl, rfl, rfl, rfl, rfl, rfl, rfl, rfl, rfl, rfl, rfl, rfl, rfl, rfl, rfl, rfl, rfl, rfl, rfl, rfl, rfl, rfl, rfl⟩
/-! the reference: listings, risk, weakest -/
theorem TE_lsA {Mc : px_mem} {pl : Int → Int → List Int} {nm : Int → List Int} {F : Int → Int} (h : TE Mc pl nm F) {i : Int} (i0 : 0 ≤ i) (i1 : i < Mc 20 1) : rE F i 17 = nfC Mc i ∧ 0 ≤ nfC Mc i ∧ nfC Mc i ≤ 12 ∧ ∀ j, 0 ≤ j → j < nfC Mc i → F (1294 + 186 * i + 18 + 14 * j + 13) = cfC Mc i j := by
  have he := TE_e h i0 i1
  exact ⟨he.2.2.2.2.1, he.2.2.2.2.2.1, he.2.2.2.2.2.2, fun j j0 j1 => (TE_ent h i0 i1 j0 j1).1.2.2⟩
theorem lsN_bd {Mc : px_mem} {pl : Int → Int → List Int} {nm : Int → List Int} {F : Int → Int} (h : TE Mc pl nm F) (c : Int) {N : Int} (n0 : 0 ≤ N) (n1 : N ≤ Mc 20 1) : 0 ≤ lsN N (nfC Mc) (cfC Mc) c ∧ lsN N (nfC Mc) (cfC Mc) c ≤ N * 12 :=
  sm_bnd n0 (fun i i0 i1 => by
    have hl := TE_lsA h i0 (show i < Mc 20 1 by omega)
    have := sm_bnd (n := nfC Mc i) (c := 1) (f := fun j => b1 (cfC Mc i j = c)) hl.2.1 (fun _ _ _ => b1_rng _)
    omega)
section PS
variable {M : px_mem} {Q : Option pv → px_mem → Prop}
set_option maxHeartbeats 600000 in
set_option maxRecDepth 100000 in
theorem lp_li2 {Mc : px_mem} {c e n0 : Int} {pl : Int → Int → List Int} {nm : Int → List Int} (hT : TE Mc pl nm (M 128)) (he : 0 ≤ e ∧ e < Mc 20 1) (hn : 0 ≤ n0 ∧ n0 ≤ 200) (hx : px_WP 260 0 0 (px_Q0 LAY Q) 4 [(2, 127), (0, c), (0, n0 + sm (nfC Mc e) (fun j => b1 (cfC Mc e j = c))), (0, e + 1), (9, 0)] [] LAY M 0 0) (j : Int) (hk_j : j ≤ nfC Mc e) : 0 ≤ j → px_WP 260 0 0 (px_Q0 LAY Q) 17 [(2, 127), (0, c), (0, n0 + sm j (fun j => b1 (cfC Mc e j = c))), (0, e), (0, j)] [] LAY M 0 0 := by
  refine up_ind (P := fun j => 0 ≤ j → px_WP 260 0 0 (px_Q0 LAY Q) 17 [(2, 127), (0, c), (0, n0 + sm j (fun j => b1 (cfC Mc e j = c))), (0, e), (0, j)] [] LAY M 0 0) (nfC Mc e) (fun j hk_j ih => ?_) j hk_j
  intro j0
  have hl := TE_lsA hT he.1 he.2
  have hTn := TE_n hT
  have e17 : M 128 (1294 + 186 * e + 17) = nfC Mc e := hl.1
  have hb := sm_bnd (c := 1) j0 (f := fun j => b1 (cfC Mc e j = c)) (fun _ _ _ => b1_rng _)
  have hs := @sm_w j j0 (fun j => b1 (cfC Mc e j = c))
  have hcv := hl.2.2.2 j j0
  refine px_go_ok (inl := [204,205,206,207]) 60 ?_
  simp only [px_go, px_Q0_at, px_sx_0, px_sx_s, px_cl, px_step, ↓px_ll, px_lg, f4_, ↓px_r1, ↓px_r2, ↓px_r4, ↓px_r5, ↓px_p1, ↓px_p2, ↓px_p3, ↓px_pop, px_k_0, px_k_s, px_k3_0, px_stk_, px_cats, px_ent, px_st1, px_st2, px_mask, ↓px_tsw, ↓px_lsw, ct_, mls_0, mls_1, mls_2, mls_3, mls_4, mls_5, kd_0, kd_1, kd_2, kd_3, ln_0, ln_1, ln_2, ln_3, gf_0, gf_1, gf_2, gf_3, gf_4, gf_7, gf_21, gf_63, dy_0, dy_1, dy_2, dy_3, dy_7, dy_21, px_brT, px_brF, true_and, and_true, and_false, false_and, and_self, true_implies, false_implies, or_true, true_or, or_false, false_or, eq_self, ne_eq, not_false_eq_true, not_true_eq_false, if_true, if_false, List.mem_cons, List.not_mem_nil, List.length_cons, List.length_nil, Nat.reduceEqDiff, Nat.reduceAdd, Nat.reduceSub, Nat.reduceLeDiff, Nat.reduceLT, Int.reduceEq, Int.reduceLT, Int.reduceLE, Int.reduceNeg, Int.reduceAdd, Int.reduceSub, Int.reduceToNat, ↓reduceIte, one_ne_zero_, zero_ne_one_, px_in32L, cd_260, cd_204, cd_205, cd_206, cd_207, e17]
  repeat' (first | (with_reducible apply And.intro) | (with_reducible refine px_br_intro (fun _ => ?_) (fun _ => ?_)))
  all_goals (try (first | (unfold px_in32; omega) | omega))
  · rename_i c1
    rw [show j = nfC Mc e by omega]; exact hx
  · rename_i c1 c2
    rw [hcv (by omega)] at c2
    have := ih (by omega) (by omega)
    rw [hs (b1_t c2), ← Int.add_assoc] at this
    exact this
  · rename_i c1 c2
    rw [hcv (by omega)] at c2
    have := ih (by omega) (by omega)
    rw [hs (b1_f c2), Int.add_zero] at this
    exact this
set_option maxHeartbeats 600000 in
set_option maxRecDepth 100000 in
theorem lp_li1 {Mc : px_mem} {c : Int} {pl : Int → Int → List Int} {nm : Int → List Int} (hT : TE Mc pl nm (M 128)) (h : Q (some (0, lsN (Mc 20 1) (nfC Mc) (cfC Mc) c)) M) (e : Int) (hk_e : e ≤ Mc 20 1) : 0 ≤ e → px_WP 260 0 0 (px_Q0 LAY Q) 4 [(2, 127), (0, c), (0, lsN e (nfC Mc) (cfC Mc) c), (0, e), (9, 0)] [] LAY M 0 0 := by
  refine up_ind (P := fun e => 0 ≤ e → px_WP 260 0 0 (px_Q0 LAY Q) 4 [(2, 127), (0, c), (0, lsN e (nfC Mc) (cfC Mc) c), (0, e), (9, 0)] [] LAY M 0 0) (Mc 20 1) (fun e hk_e ih => ?_) e hk_e
  intro e0
  have hTn := TE_n hT
  have h5 := hTn.1
  have hb := lsN_bd hT c e0 hk_e
  refine px_go_ok (inl := []) 60 ?_
  simp only [px_go, px_Q0_at, px_sx_0, px_sx_s, px_cl, px_step, ↓px_ll, px_lg, f4_, ↓px_r1, ↓px_r2, ↓px_r4, ↓px_r5, ↓px_p1, ↓px_p2, ↓px_p3, ↓px_pop, px_k_0, px_k_s, px_k3_0, px_stk_, px_cats, px_ent, px_st1, px_st2, px_mask, ↓px_tsw, ↓px_lsw, ct_, mls_0, mls_1, mls_2, mls_3, mls_4, mls_5, kd_0, kd_1, kd_2, kd_3, ln_0, ln_1, ln_2, ln_3, gf_0, gf_1, gf_2, gf_3, gf_4, gf_7, gf_21, gf_63, dy_0, dy_1, dy_2, dy_3, dy_7, dy_21, px_brT, px_brF, true_and, and_true, and_false, false_and, and_self, true_implies, false_implies, or_true, true_or, or_false, false_or, eq_self, ne_eq, not_false_eq_true, not_true_eq_false, if_true, if_false, List.mem_cons, List.not_mem_nil, List.length_cons, List.length_nil, Nat.reduceEqDiff, Nat.reduceAdd, Nat.reduceSub, Nat.reduceLeDiff, Nat.reduceLT, Int.reduceEq, Int.reduceLT, Int.reduceLE, Int.reduceNeg, Int.reduceAdd, Int.reduceSub, Int.reduceToNat, ↓reduceIte, one_ne_zero_, zero_ne_one_, px_in32L, cd_260, h5]
  repeat' (first | (with_reducible apply And.intro) | (with_reducible refine px_br_intro (fun _ => ?_) (fun _ => ?_)))
  all_goals (try (first | (unfold px_in32; omega) | omega))
  · rename_i c1
    rw [show e = Mc 20 1 by omega]; exact h
  · rename_i c1
    have hl := TE_lsA hT e0 (by omega)
    have hs : lsN (e + 1) (nfC Mc) (cfC Mc) c = lsN e (nfC Mc) (cfC Mc) c + sm (nfC Mc e) (fun j => b1 (cfC Mc e j = c)) := sm_s e0 _
    have := lp_li2 (n0 := lsN e (nfC Mc) (cfC Mc) c) (c := c) hT ⟨e0, by omega⟩ ⟨hb.1, by omega⟩ (by rw [← hs]; exact ih (by omega) (by omega)) 0 hl.2.1 (Int.le_refl 0)
    rw [sm_0, Int.add_zero] at this
    exact this
set_option maxHeartbeats 600000 in
set_option maxRecDepth 100000 in
theorem sp_listings {Mc : px_mem} {c : Int} {pl : Int → Int → List Int} {nm : Int → List Int} (hT : TE Mc pl nm (M 128)) (h : Q (some (0, lsN (Mc 20 1) (nfC Mc) (cfC Mc) c)) M) : px_Ok 260 [(2, 127), (0, c)] LAY M Q := by
  have hTn := TE_n hT
  refine px_ok_go (inl := []) (ls0 := [(2, 127), (0, c), (9, 0), (9, 0), (9, 0)]) 60 (by decide) (Nat.le_of_ble_eq_true rfl) rfl ?_
  simp only [px_go, px_Q0_at, px_sx_0, px_sx_s, px_cl, px_step, ↓px_ll, px_lg, f4_, ↓px_r1, ↓px_r2, ↓px_r4, ↓px_r5, ↓px_p1, ↓px_p2, ↓px_p3, ↓px_pop, px_k_0, px_k_s, px_k3_0, px_stk_, px_cats, px_ent, px_st1, px_st2, px_mask, ↓px_tsw, ↓px_lsw, ct_, mls_0, mls_1, mls_2, mls_3, mls_4, mls_5, kd_0, kd_1, kd_2, kd_3, ln_0, ln_1, ln_2, ln_3, gf_0, gf_1, gf_2, gf_3, gf_4, gf_7, gf_21, gf_63, dy_0, dy_1, dy_2, dy_3, dy_7, dy_21, px_brT, px_brF, true_and, and_true, and_false, false_and, and_self, true_implies, false_implies, or_true, true_or, or_false, false_or, eq_self, ne_eq, not_false_eq_true, not_true_eq_false, if_true, if_false, List.mem_cons, List.not_mem_nil, List.length_cons, List.length_nil, Nat.reduceEqDiff, Nat.reduceAdd, Nat.reduceSub, Nat.reduceLeDiff, Nat.reduceLT, Int.reduceEq, Int.reduceLT, Int.reduceLE, Int.reduceNeg, Int.reduceAdd, Int.reduceSub, Int.reduceToNat, ↓reduceIte, one_ne_zero_, zero_ne_one_, px_in32L, cd_260]
  repeat' (first | (with_reducible apply And.intro) | (with_reducible refine px_br_intro (fun _ => ?_) (fun _ => ?_)))
  all_goals (try (first | (unfold px_in32; omega) | omega))
  exact lp_li1 hT h 0 (by omega) (Int.le_refl 0)
noncomputable def hgF (Mc : px_mem) (b c : Int) : Int := if b = 0 then 1 else lsN (Mc 20 1) (nfC Mc) (cfC Mc) c
set_option maxHeartbeats 600000 in
set_option maxRecDepth 100000 in
theorem lp_hanging {Mc : px_mem} {o b : Int} {pl : Int → Int → List Int} {nm : Int → List Int} (hT : TE Mc pl nm (M 128)) (ho : 0 ≤ o ∧ o < 40 ∧ 0 ≤ Mc 62 o) (h : Q (some (0, sm 40 (fun c => ifP (0 ≤ Mc 62 c ∧ HG Mc c o) (hgF Mc b c)))) M) (c : Int) (hk_c : c ≤ 40) : 0 ≤ c → px_WP 261 0 0 (px_Q0 LAY Q) 5 [(2, 127), (0, o), (0, b), (0, sm c (fun c => ifP (0 ≤ Mc 62 c ∧ HG Mc c o) (hgF Mc b c))), (0, c)] [] LAY M 0 0 := by
  refine up_ind (P := fun c => 0 ≤ c → px_WP 261 0 0 (px_Q0 LAY Q) 5 [(2, 127), (0, o), (0, b), (0, sm c (fun c => ifP (0 ≤ Mc 62 c ∧ HG Mc c o) (hgF Mc b c))), (0, c)] [] LAY M 0 0) (40) (fun c hk_c ih => ?_) c hk_c
  intro c0
  have hTn := TE_n hT
  have hlb := fun c => lsN_bd hT c (N := Mc 20 1) (by omega) (Int.le_refl _)
  have hfb : ∀ c, 0 ≤ hgF Mc b c ∧ hgF Mc b c ≤ 120 := fun c => by
    unfold hgF
    have := hlb c
    split <;> omega
  have hb := sm_bnd (c := 120) c0 (f := fun c => ifP (0 ≤ Mc 62 c ∧ HG Mc c o) (hgF Mc b c)) (fun c _ _ => ifP_rng (fun _ => hfb c) (by decide))
  have hs := @sm_w c c0 (fun c => ifP (0 ≤ Mc 62 c ∧ HG Mc c o) (hgF Mc b c))
  have hu := fun q => hT.1.2.1 c c0 q
  have hno : c < 40 → ¬ (0 ≤ Mc 62 c ∧ HG Mc c o) → px_WP 261 0 0 (px_Q0 LAY Q) 5 [(2, 127), (0, o), (0, b), (0, sm c (fun c => ifP (0 ≤ Mc 62 c ∧ HG Mc c o) (hgF Mc b c))), (0, c + 1)] [] LAY M 0 0 := fun q z => by
    have := ih q (by omega)
    rw [hs (ifP_f z), Int.add_zero] at this
    exact this
  refine px_go_ok (inl := [187]) 60 ?_
  simp only [px_go, px_Q0_at, px_sx_0, px_sx_s, px_cl, px_step, ↓px_ll, px_lg, f4_, ↓px_r1, ↓px_r2, ↓px_r4, ↓px_r5, ↓px_p1, ↓px_p2, ↓px_p3, ↓px_pop, px_k_0, px_k_s, px_k3_0, px_stk_, px_cats, px_ent, px_st1, px_st2, px_mask, ↓px_tsw, ↓px_lsw, ct_, mls_0, mls_1, mls_2, mls_3, mls_4, mls_5, kd_0, kd_1, kd_2, kd_3, ln_0, ln_1, ln_2, ln_3, gf_0, gf_1, gf_2, gf_3, gf_4, gf_7, gf_21, gf_63, dy_0, dy_1, dy_2, dy_3, dy_7, dy_21, px_brT, px_brF, true_and, and_true, and_false, false_and, and_self, true_implies, false_implies, or_true, true_or, or_false, false_or, eq_self, ne_eq, not_false_eq_true, not_true_eq_false, if_true, if_false, List.mem_cons, List.not_mem_nil, List.length_cons, List.length_nil, Nat.reduceEqDiff, Nat.reduceAdd, Nat.reduceSub, Nat.reduceLeDiff, Nat.reduceLT, Int.reduceEq, Int.reduceLT, Int.reduceLE, Int.reduceNeg, Int.reduceAdd, Int.reduceSub, Int.reduceToNat, ↓reduceIte, one_ne_zero_, zero_ne_one_, px_in32L, cd_261, cd_187]
  repeat' (first | (with_reducible apply And.intro) | (with_reducible refine px_br_intro (fun _ => ?_) (fun _ => ?_)))
  all_goals (try (first | (unfold px_in32; omega) | omega))
  · rename_i c1
    rw [show c = 40 by omega]; exact h
  · rename_i c1 c2
    have hd : 0 ≤ Mc 62 c := by
      have e : rC (M 128) c 0 = 1 := c2
      have := hu (by omega)
      omega
    refine sp_hangsOn hT.1 ⟨c0, by omega, hd⟩ (fun w => ?_) (fun w => ?_)
    · have hst := hs (ifP_t ⟨hd, w⟩)
      have hih := ih (by omega) (by omega)
      rw [hst] at hih
      simp only [px_go, px_Q0_at, px_sx_0, px_sx_s, px_cl, px_step, ↓px_ll, px_lg, f4_, ↓px_r1, ↓px_r2, ↓px_r4, ↓px_r5, ↓px_p1, ↓px_p2, ↓px_p3, ↓px_pop, px_k_0, px_k_s, px_k3_0, px_stk_, px_cats, px_ent, px_st1, px_st2, px_mask, ↓px_tsw, ↓px_lsw, ct_, mls_0, mls_1, mls_2, mls_3, mls_4, mls_5, kd_0, kd_1, kd_2, kd_3, ln_0, ln_1, ln_2, ln_3, gf_0, gf_1, gf_2, gf_3, gf_4, gf_7, gf_21, gf_63, dy_0, dy_1, dy_2, dy_3, dy_7, dy_21, px_brT, px_brF, true_and, and_true, and_false, false_and, and_self, true_implies, false_implies, or_true, true_or, or_false, false_or, eq_self, ne_eq, not_false_eq_true, not_true_eq_false, if_true, if_false, List.mem_cons, List.not_mem_nil, List.length_cons, List.length_nil, Nat.reduceEqDiff, Nat.reduceAdd, Nat.reduceSub, Nat.reduceLeDiff, Nat.reduceLT, Int.reduceEq, Int.reduceLT, Int.reduceLE, Int.reduceNeg, Int.reduceAdd, Int.reduceSub, Int.reduceToNat, ↓reduceIte, one_ne_zero_, zero_ne_one_, px_in32L, cd_261, cd_187]
      repeat' (first | (with_reducible apply And.intro) | (with_reducible refine px_br_intro (fun _ => ?_) (fun _ => ?_)))
      all_goals (try (first | (unfold px_in32; omega) | omega))
      · rename_i c3
        have e : hgF Mc b c = 1 := by unfold hgF; rw [if_pos c3]
        rw [e] at hih
        exact hih
      · rename_i c3
        have e : hgF Mc b c = lsN (Mc 20 1) (nfC Mc) (cfC Mc) c := by unfold hgF; rw [if_neg c3]
        rw [e] at hih
        have hl := hlb c
        refine sp_listings hT ?_
        simp only [px_go, px_Q0_at, px_sx_0, px_sx_s, px_cl, px_step, ↓px_ll, px_lg, f4_, ↓px_r1, ↓px_r2, ↓px_r4, ↓px_r5, ↓px_p1, ↓px_p2, ↓px_p3, ↓px_pop, px_k_0, px_k_s, px_k3_0, px_stk_, px_cats, px_ent, px_st1, px_st2, px_mask, ↓px_tsw, ↓px_lsw, ct_, mls_0, mls_1, mls_2, mls_3, mls_4, mls_5, kd_0, kd_1, kd_2, kd_3, ln_0, ln_1, ln_2, ln_3, gf_0, gf_1, gf_2, gf_3, gf_4, gf_7, gf_21, gf_63, dy_0, dy_1, dy_2, dy_3, dy_7, dy_21, px_brT, px_brF, true_and, and_true, and_false, false_and, and_self, true_implies, false_implies, or_true, true_or, or_false, false_or, eq_self, ne_eq, not_false_eq_true, not_true_eq_false, if_true, if_false, List.mem_cons, List.not_mem_nil, List.length_cons, List.length_nil, Nat.reduceEqDiff, Nat.reduceAdd, Nat.reduceSub, Nat.reduceLeDiff, Nat.reduceLT, Int.reduceEq, Int.reduceLT, Int.reduceLE, Int.reduceNeg, Int.reduceAdd, Int.reduceSub, Int.reduceToNat, ↓reduceIte, one_ne_zero_, zero_ne_one_, px_in32L, cd_261, cd_187]
        repeat' (first | (with_reducible apply And.intro) | (with_reducible refine px_br_intro (fun _ => ?_) (fun _ => ?_)))
        all_goals (try (first | (unfold px_in32; omega) | omega))
        all_goals exact hih
    · simp only [px_go, px_Q0_at, px_sx_0, px_sx_s, px_cl, px_step, ↓px_ll, px_lg, f4_, ↓px_r1, ↓px_r2, ↓px_r4, ↓px_r5, ↓px_p1, ↓px_p2, ↓px_p3, ↓px_pop, px_k_0, px_k_s, px_k3_0, px_stk_, px_cats, px_ent, px_st1, px_st2, px_mask, ↓px_tsw, ↓px_lsw, ct_, mls_0, mls_1, mls_2, mls_3, mls_4, mls_5, kd_0, kd_1, kd_2, kd_3, ln_0, ln_1, ln_2, ln_3, gf_0, gf_1, gf_2, gf_3, gf_4, gf_7, gf_21, gf_63, dy_0, dy_1, dy_2, dy_3, dy_7, dy_21, px_brT, px_brF, true_and, and_true, and_false, false_and, and_self, true_implies, false_implies, or_true, true_or, or_false, false_or, eq_self, ne_eq, not_false_eq_true, not_true_eq_false, if_true, if_false, List.mem_cons, List.not_mem_nil, List.length_cons, List.length_nil, Nat.reduceEqDiff, Nat.reduceAdd, Nat.reduceSub, Nat.reduceLeDiff, Nat.reduceLT, Int.reduceEq, Int.reduceLT, Int.reduceLE, Int.reduceNeg, Int.reduceAdd, Int.reduceSub, Int.reduceToNat, ↓reduceIte, one_ne_zero_, zero_ne_one_, px_in32L, cd_261, cd_187]
      repeat' (first | (with_reducible apply And.intro) | (with_reducible refine px_br_intro (fun _ => ?_) (fun _ => ?_)))
      all_goals (try (first | (unfold px_in32; omega) | omega))
      exact hno (by omega) (fun z => w z.2)
  · rename_i c1 c2
    refine hno (by omega) (fun z => c2 ?_)
    have := hu (by omega)
    have e : M 128 (654 + 6 * c + 0) = rC (M 128) c 0 := rfl
    omega
set_option maxHeartbeats 600000 in
set_option maxRecDepth 100000 in
theorem sp_hanging {Mc : px_mem} {o b : Int} {pl : Int → Int → List Int} {nm : Int → List Int} (hT : TE Mc pl nm (M 128)) (ho : 0 ≤ o ∧ o < 40 ∧ 0 ≤ Mc 62 o) (h : Q (some (0, full (Mc 62) (Mc 61) (hgF Mc b) 3 o)) M) : px_Ok 261 [(2, 127), (0, o), (0, b)] LAY M Q := by
  refine px_ok_go (inl := []) (ls0 := [(2, 127), (0, o), (0, b), (9, 0), (9, 0)]) 60 (by decide) (Nat.le_of_ble_eq_true rfl) rfl ?_
  simp only [px_go, px_Q0_at, px_sx_0, px_sx_s, px_cl, px_step, ↓px_ll, px_lg, f4_, ↓px_r1, ↓px_r2, ↓px_r4, ↓px_r5, ↓px_p1, ↓px_p2, ↓px_p3, ↓px_pop, px_k_0, px_k_s, px_k3_0, px_stk_, px_cats, px_ent, px_st1, px_st2, px_mask, ↓px_tsw, ↓px_lsw, ct_, mls_0, mls_1, mls_2, mls_3, mls_4, mls_5, kd_0, kd_1, kd_2, kd_3, ln_0, ln_1, ln_2, ln_3, gf_0, gf_1, gf_2, gf_3, gf_4, gf_7, gf_21, gf_63, dy_0, dy_1, dy_2, dy_3, dy_7, dy_21, px_brT, px_brF, true_and, and_true, and_false, false_and, and_self, true_implies, false_implies, or_true, true_or, or_false, false_or, eq_self, ne_eq, not_false_eq_true, not_true_eq_false, if_true, if_false, List.mem_cons, List.not_mem_nil, List.length_cons, List.length_nil, Nat.reduceEqDiff, Nat.reduceAdd, Nat.reduceSub, Nat.reduceLeDiff, Nat.reduceLT, Int.reduceEq, Int.reduceLT, Int.reduceLE, Int.reduceNeg, Int.reduceAdd, Int.reduceSub, Int.reduceToNat, ↓reduceIte, one_ne_zero_, zero_ne_one_, px_in32L, cd_261]
  repeat' (first | (with_reducible apply And.intro) | (with_reducible refine px_br_intro (fun _ => ?_) (fun _ => ?_)))
  all_goals (try (first | (unfold px_in32; omega) | omega))
  rw [← HG_sum hT.1.1 (hgF Mc b) 3 o ho.1 ho.2.1 ho.2.2 (by omega)] at h
  exact lp_hanging hT ho h 0 (by decide) (Int.le_refl 0)
set_option maxHeartbeats 600000 in
set_option maxRecDepth 100000 in
theorem sp_rrisk {Mc : px_mem} {p w : Int} {pl : Int → Int → List Int} {nm : Int → List Int} (hT : TE Mc pl nm (M 128)) (h0 : ¬ (0 ≤ p ∧ p < 400 ∧ 0 ≤ w ∧ w ≤ 1) → Q (some (0, -1)) M) (h2 : (0 ≤ p ∧ p < 400 ∧ 0 ≤ w ∧ w ≤ 1) → Mc 54 p < 0 → Q (some (0, 0)) M) (h1 : (0 ≤ p ∧ p < 400 ∧ 0 ≤ w ∧ w ≤ 1) → 0 ≤ Mc 54 p → Mc 54 p < 40 → Q (some (0, full (Mc 62) (Mc 61) (hgF Mc w) 3 (Mc 54 p))) M) : px_Ok 262 [(2, 127), (0, p), (0, w)] LAY M Q := by
  refine px_ok_go (inl := [170]) (ls0 := [(2, 127), (0, p), (0, w), (9, 0)]) 60 (by decide) (Nat.le_of_ble_eq_true rfl) rfl ?_
  simp only [px_go, px_Q0_at, px_sx_0, px_sx_s, px_cl, px_step, ↓px_ll, px_lg, f4_, ↓px_r1, ↓px_r2, ↓px_r4, ↓px_r5, ↓px_p1, ↓px_p2, ↓px_p3, ↓px_pop, px_k_0, px_k_s, px_k3_0, px_stk_, px_cats, px_ent, px_st1, px_st2, px_mask, ↓px_tsw, ↓px_lsw, ct_, mls_0, mls_1, mls_2, mls_3, mls_4, mls_5, kd_0, kd_1, kd_2, kd_3, ln_0, ln_1, ln_2, ln_3, gf_0, gf_1, gf_2, gf_3, gf_4, gf_7, gf_21, gf_63, dy_0, dy_1, dy_2, dy_3, dy_7, dy_21, px_brT, px_brF, true_and, and_true, and_false, false_and, and_self, true_implies, false_implies, or_true, true_or, or_false, false_or, eq_self, ne_eq, not_false_eq_true, not_true_eq_false, if_true, if_false, List.mem_cons, List.not_mem_nil, List.length_cons, List.length_nil, Nat.reduceEqDiff, Nat.reduceAdd, Nat.reduceSub, Nat.reduceLeDiff, Nat.reduceLT, Int.reduceEq, Int.reduceLT, Int.reduceLE, Int.reduceNeg, Int.reduceAdd, Int.reduceSub, Int.reduceToNat, ↓reduceIte, one_ne_zero_, zero_ne_one_, px_in32L, cd_262, cd_170]
  repeat' (first | (with_reducible apply And.intro) | (with_reducible refine px_br_intro (fun _ => ?_) (fun _ => ?_)))
  all_goals (try (first | (unfold px_in32; omega) | omega))
  · exact h0 (by omega)
  · exact h0 (by omega)
  · exact h0 (by omega)
  · exact h0 (by omega)
  · have hq : 0 ≤ p ∧ p < 400 ∧ 0 ≤ w ∧ w ≤ 1 := by omega
    have ho := hT.1.1.2.2.1.2 p hq.1 hq.2.1
    refine sp_ownerOf hT.1 ⟨hq.1, hq.2.1⟩ ?_
    by_cases q : Mc 54 p < 0
    · rw [if_pos q]
      simp only [px_go, px_Q0_at, px_sx_0, px_sx_s, px_cl, px_step, ↓px_ll, px_lg, f4_, ↓px_r1, ↓px_r2, ↓px_r4, ↓px_r5, ↓px_p1, ↓px_p2, ↓px_p3, ↓px_pop, px_k_0, px_k_s, px_k3_0, px_stk_, px_cats, px_ent, px_st1, px_st2, px_mask, ↓px_tsw, ↓px_lsw, ct_, mls_0, mls_1, mls_2, mls_3, mls_4, mls_5, kd_0, kd_1, kd_2, kd_3, ln_0, ln_1, ln_2, ln_3, gf_0, gf_1, gf_2, gf_3, gf_4, gf_7, gf_21, gf_63, dy_0, dy_1, dy_2, dy_3, dy_7, dy_21, px_brT, px_brF, true_and, and_true, and_false, false_and, and_self, true_implies, false_implies, or_true, true_or, or_false, false_or, eq_self, ne_eq, not_false_eq_true, not_true_eq_false, if_true, if_false, List.mem_cons, List.not_mem_nil, List.length_cons, List.length_nil, Nat.reduceEqDiff, Nat.reduceAdd, Nat.reduceSub, Nat.reduceLeDiff, Nat.reduceLT, Int.reduceEq, Int.reduceLT, Int.reduceLE, Int.reduceNeg, Int.reduceAdd, Int.reduceSub, Int.reduceToNat, ↓reduceIte, one_ne_zero_, zero_ne_one_, px_in32L, cd_262, cd_170]
      exact h2 hq q
    · rw [if_neg q]
      have hc : 0 ≤ Mc 54 p ∧ Mc 54 p < 40 ∧ 0 ≤ Mc 62 (Mc 54 p) := by omega
      have h := h1 hq hc.1 hc.2.1
      simp only [px_go, px_Q0_at, px_sx_0, px_sx_s, px_cl, px_step, ↓px_ll, px_lg, f4_, ↓px_r1, ↓px_r2, ↓px_r4, ↓px_r5, ↓px_p1, ↓px_p2, ↓px_p3, ↓px_pop, px_k_0, px_k_s, px_k3_0, px_stk_, px_cats, px_ent, px_st1, px_st2, px_mask, ↓px_tsw, ↓px_lsw, ct_, mls_0, mls_1, mls_2, mls_3, mls_4, mls_5, kd_0, kd_1, kd_2, kd_3, ln_0, ln_1, ln_2, ln_3, gf_0, gf_1, gf_2, gf_3, gf_4, gf_7, gf_21, gf_63, dy_0, dy_1, dy_2, dy_3, dy_7, dy_21, px_brT, px_brF, true_and, and_true, and_false, false_and, and_self, true_implies, false_implies, or_true, true_or, or_false, false_or, eq_self, ne_eq, not_false_eq_true, not_true_eq_false, if_true, if_false, List.mem_cons, List.not_mem_nil, List.length_cons, List.length_nil, Nat.reduceEqDiff, Nat.reduceAdd, Nat.reduceSub, Nat.reduceLeDiff, Nat.reduceLT, Int.reduceEq, Int.reduceLT, Int.reduceLE, Int.reduceNeg, Int.reduceAdd, Int.reduceSub, Int.reduceToNat, ↓reduceIte, one_ne_zero_, zero_ne_one_, px_in32L, cd_262, cd_170]
      refine px_br_intro (fun z => by omega) (fun _ => ?_)
      repeat' (first | (with_reducible apply And.intro) | (with_reducible refine px_br_intro (fun _ => ?_) (fun _ => ?_)))
      all_goals (try (first | (unfold px_in32; omega) | omega))
      · rename_i c5
        rw [c5] at h
        refine sp_hanging (b := 1) hT hc ?_
        simp only [px_go, px_Q0_at, px_sx_0, px_sx_s, px_cl, px_step, ↓px_ll, px_lg, f4_, ↓px_r1, ↓px_r2, ↓px_r4, ↓px_r5, ↓px_p1, ↓px_p2, ↓px_p3, ↓px_pop, px_k_0, px_k_s, px_k3_0, px_stk_, px_cats, px_ent, px_st1, px_st2, px_mask, ↓px_tsw, ↓px_lsw, ct_, mls_0, mls_1, mls_2, mls_3, mls_4, mls_5, kd_0, kd_1, kd_2, kd_3, ln_0, ln_1, ln_2, ln_3, gf_0, gf_1, gf_2, gf_3, gf_4, gf_7, gf_21, gf_63, dy_0, dy_1, dy_2, dy_3, dy_7, dy_21, px_brT, px_brF, true_and, and_true, and_false, false_and, and_self, true_implies, false_implies, or_true, true_or, or_false, false_or, eq_self, ne_eq, not_false_eq_true, not_true_eq_false, if_true, if_false, List.mem_cons, List.not_mem_nil, List.length_cons, List.length_nil, Nat.reduceEqDiff, Nat.reduceAdd, Nat.reduceSub, Nat.reduceLeDiff, Nat.reduceLT, Int.reduceEq, Int.reduceLT, Int.reduceLE, Int.reduceNeg, Int.reduceAdd, Int.reduceSub, Int.reduceToNat, ↓reduceIte, one_ne_zero_, zero_ne_one_, px_in32L, cd_262, cd_170]
        exact h
      · rename_i c5
        rw [show w = 0 by omega] at h
        refine sp_hanging (b := 0) hT hc ?_
        simp only [px_go, px_Q0_at, px_sx_0, px_sx_s, px_cl, px_step, ↓px_ll, px_lg, f4_, ↓px_r1, ↓px_r2, ↓px_r4, ↓px_r5, ↓px_p1, ↓px_p2, ↓px_p3, ↓px_pop, px_k_0, px_k_s, px_k3_0, px_stk_, px_cats, px_ent, px_st1, px_st2, px_mask, ↓px_tsw, ↓px_lsw, ct_, mls_0, mls_1, mls_2, mls_3, mls_4, mls_5, kd_0, kd_1, kd_2, kd_3, ln_0, ln_1, ln_2, ln_3, gf_0, gf_1, gf_2, gf_3, gf_4, gf_7, gf_21, gf_63, dy_0, dy_1, dy_2, dy_3, dy_7, dy_21, px_brT, px_brF, true_and, and_true, and_false, false_and, and_self, true_implies, false_implies, or_true, true_or, or_false, false_or, eq_self, ne_eq, not_false_eq_true, not_true_eq_false, if_true, if_false, List.mem_cons, List.not_mem_nil, List.length_cons, List.length_nil, Nat.reduceEqDiff, Nat.reduceAdd, Nat.reduceSub, Nat.reduceLeDiff, Nat.reduceLT, Int.reduceEq, Int.reduceLT, Int.reduceLE, Int.reduceNeg, Int.reduceAdd, Int.reduceSub, Int.reduceToNat, ↓reduceIte, one_ne_zero_, zero_ne_one_, px_in32L, cd_262, cd_170]
        exact h
end PS
/-- the weakest place -/
def wkS (ow P : Int → Int) (K w m : Int) : Prop := (w = -2 ∧ m = 0 ∧ ∀ k, 0 ≤ k → k < K → 0 ≤ ow k → P (ow k) ≤ 0) ∨ (0 ≤ w ∧ w < K ∧ 0 ≤ ow w ∧ P (ow w) = m ∧ 0 < m ∧ ∀ k, 0 ≤ k → k < K → 0 ≤ ow k → P (ow k) ≤ m ∧ (k < w → P (ow k) < m))
theorem wkR_spec (ow P : Int → Int) : ∀ k : Nat, wkS ow P k (wkR ow P k).1 (wkR ow P k).2 := by
  intro k
  induction k with
  | zero => exact Or.inl ⟨rfl, rfl, fun k k0 k1 => by omega⟩
  | succ k ih =>
    show wkS ow P ((k + 1 : Nat) : Int) (if 0 ≤ ow (k : Int) ∧ (wkR ow P k).2 < P (ow (k : Int)) then ((k : Int), P (ow (k : Int))) else wkR ow P k).1 (if 0 ≤ ow (k : Int) ∧ (wkR ow P k).2 < P (ow (k : Int)) then ((k : Int), P (ow (k : Int))) else wkR ow P k).2
    rw [Int.natCast_succ]
    by_cases q : 0 ≤ ow (k : Int) ∧ (wkR ow P k).2 < P (ow (k : Int))
    · rw [if_pos q]
      refine Or.inr ⟨by dsimp only; omega, by dsimp only; omega, q.1, rfl, ?_, fun j j0 j1 j2 => ?_⟩
      · dsimp only
        rcases ih with z | z
        · omega
        · omega
      · dsimp only
        by_cases e : j = (k : Int)
        · rw [e]; omega
        · rcases ih with z | z
          · have := z.2.2 j j0 (by omega) j2; omega
          · have := z.2.2.2.2.2 j j0 (by omega) j2; omega
    · rw [if_neg q]
      rcases ih with z | z
      · refine Or.inl ⟨z.1, z.2.1, fun j j0 j1 j2 => ?_⟩
        by_cases e : j = (k : Int)
        · rw [e] at j2 ⊢; omega
        · exact z.2.2 j j0 (by omega) j2
      · refine Or.inr ⟨z.1, by omega, z.2.2.1, z.2.2.2.1, z.2.2.2.2.1, fun j j0 j1 j2 => ?_⟩
        by_cases e : j = (k : Int)
        · rw [e] at j2 ⊢; omega
        · exact z.2.2.2.2.2 j j0 (by omega) j2
theorem wkS_uniq {ow P : Int → Int} {K w m w' m' : Int} (h : wkS ow P K w m) (h' : wkS ow P K w' m') : w = w' ∧ m = m' := by
  rcases h with a | a <;> rcases h' with b | b
  · omega
  · have := a.2.2 w' b.1 b.2.1 b.2.2.1; omega
  · have := b.2.2 w a.1 a.2.1 a.2.2.1; omega
  · have x1 := a.2.2.2.2.2 w' b.1 b.2.1 b.2.2.1
    have x2 := b.2.2.2.2.2 w a.1 a.2.1 a.2.2.1
    omega
section PS
variable {M : px_mem} {Q : Option pv → px_mem → Prop}
/-- weakest so far, by contents -/
def wkC (Mc : px_mem) (P : Int → Int) (c w m : Int) : Prop := (w = -2 ∧ m = 0 ∧ ∀ d, 0 ≤ d → d < c → 0 ≤ Mc 62 d → 0 < Mc 60 d → P d ≤ 0) ∨ ∃ d, 0 ≤ d ∧ d < c ∧ 0 ≤ Mc 62 d ∧ 0 < Mc 60 d ∧ w = Mc 59 d ∧ P d = m ∧ 0 < m ∧ ∀ d', 0 ≤ d' → d' < c → 0 ≤ Mc 62 d' → 0 < Mc 60 d' → P d' ≤ m ∧ (P d' = m → w ≤ Mc 59 d')
theorem wkC_S {Mc : px_mem} {P : Int → Int} {w m : Int} (hci : ci Mc) (h : wkC Mc P 40 w m) : wkS (Mc 54) P 400 w m := by
  have ho := hci.2.2.1
  have hin : ∀ k, 0 ≤ k → k < 400 → 0 ≤ Mc 54 k → Mc 54 k < 40 ∧ 0 ≤ Mc 62 (Mc 54 k) ∧ Mc 59 (Mc 54 k) ≤ k ∧ k < Mc 59 (Mc 54 k) + Mc 60 (Mc 54 k) := fun k k0 k1 k2 => by
    have := ho.2 k k0 k1; omega
  rcases h with a | ⟨d, d0, d1, d2, d3, d4, d5, d6, d7⟩
  · refine Or.inl ⟨a.1, a.2.1, fun k k0 k1 k2 => ?_⟩
    have := hin k k0 k1 k2
    exact a.2.2 _ k2 this.1 this.2.1 (by omega)
  · have hk := cokC (hci.1 d d0 d1 d2)
    have e := ho.1 d d0 d1 d2 w (by omega) (by omega)
    refine Or.inr ⟨by omega, by omega, by omega, by rw [e]; exact d5, d6, fun k k0 k1 k2 => ?_⟩
    have hh := hin k k0 k1 k2
    have := d7 _ k2 hh.1 hh.2.1 (by omega)
    refine ⟨this.1, fun z => ?_⟩
    rcases (by omega : P (Mc 54 k) < m ∨ P (Mc 54 k) = m) with y | y
    · exact y
    · have := this.2 y; omega
set_option maxHeartbeats 600000 in
set_option maxRecDepth 100000 in
theorem lp_rweak {Mc : px_mem} {a : Int} {pl : Int → Int → List Int} {nm : Int → List Int} (hT : TE Mc pl nm (M 128)) (h : ∀ m w, wkS (Mc 54) (full (Mc 62) (Mc 61) (hgF Mc 1) 3) 400 w m → Q (some (0, if a = 0 then w else m)) M) (c : Int) (hk_c : c ≤ 40) : ∀ m w, 0 ≤ c → wkC Mc (full (Mc 62) (Mc 61) (hgF Mc 1) 3) c w m → px_WP 263 0 0 (px_Q0 LAY Q) 19 [(2, 127), (0, a), (0, m), (0, w), (0, c), (9, 0)] [] LAY M 0 0 := by
  refine up_ind (P := fun c => ∀ m w, 0 ≤ c → wkC Mc (full (Mc 62) (Mc 61) (hgF Mc 1) 3) c w m → px_WP 263 0 0 (px_Q0 LAY Q) 19 [(2, 127), (0, a), (0, m), (0, w), (0, c), (9, 0)] [] LAY M 0 0) (40) (fun c hk_c ih => ?_) c hk_c
  intro m w c0 hI
  have hu := fun q => hT.1.2.1 c c0 q
  have hno : c < 40 → (0 ≤ Mc 62 c → 0 < Mc 60 c → full (Mc 62) (Mc 61) (hgF Mc 1) 3 c ≤ 0 ∨ full (Mc 62) (Mc 61) (hgF Mc 1) 3 c < m ∨ (full (Mc 62) (Mc 61) (hgF Mc 1) 3 c = m ∧ w ≤ Mc 59 c)) → px_WP 263 0 0 (px_Q0 LAY Q) 19 [(2, 127), (0, a), (0, m), (0, w), (0, c + 1), (9, 0)] [] LAY M 0 0 := fun q z => ih q m w (by omega) (by
    rcases hI with y | ⟨d, d0, d1, d2, d3, d4, d5, d6, d7⟩
    · refine Or.inl ⟨y.1, y.2.1, fun e e0 e1 e2 e3 => ?_⟩
      by_cases s : e = c
      · rw [s] at e2 e3 ⊢
        have := z e2 e3; omega
      · exact y.2.2 e e0 (by omega) e2 e3
    · refine Or.inr ⟨d, d0, by omega, d2, d3, d4, d5, d6, fun e e0 e1 e2 e3 => ?_⟩
      by_cases s : e = c
      · rw [s] at e2 e3 ⊢
        have := z e2 e3; omega
      · exact d7 e e0 (by omega) e2 e3)
  have hyes : c < 40 → 0 ≤ Mc 62 c → 0 < Mc 60 c → 0 < full (Mc 62) (Mc 61) (hgF Mc 1) 3 c → (m < full (Mc 62) (Mc 61) (hgF Mc 1) 3 c ∨ (full (Mc 62) (Mc 61) (hgF Mc 1) 3 c = m ∧ Mc 59 c ≤ w)) → px_WP 263 0 0 (px_Q0 LAY Q) 19 [(2, 127), (0, a), (0, full (Mc 62) (Mc 61) (hgF Mc 1) 3 c), (0, Mc 59 c), (0, c + 1), (9, 0)] [] LAY M 0 0 := fun q z1 z2 z3 z4 => ih q _ _ (by omega) (Or.inr ⟨c, c0, by omega, z1, z2, rfl, rfl, z3, fun e e0 e1 e2 e3 => by
    by_cases s : e = c
    · rw [s]; exact ⟨Int.le_refl _, fun _ => Int.le_refl _⟩
    · rcases hI with y | ⟨d, d0, d1, d2, d3, d4, d5, d6, d7⟩
      · have := y.2.2 e e0 (by omega) e2 e3; omega
      · have := d7 e e0 (by omega) e2 e3; omega⟩)
  refine px_go_ok (inl := [187]) 60 ?_
  simp only [px_go, px_Q0_at, px_sx_0, px_sx_s, px_cl, px_step, ↓px_ll, px_lg, f4_, ↓px_r1, ↓px_r2, ↓px_r4, ↓px_r5, ↓px_p1, ↓px_p2, ↓px_p3, ↓px_pop, px_k_0, px_k_s, px_k3_0, px_stk_, px_cats, px_ent, px_st1, px_st2, px_mask, ↓px_tsw, ↓px_lsw, ct_, mls_0, mls_1, mls_2, mls_3, mls_4, mls_5, kd_0, kd_1, kd_2, kd_3, ln_0, ln_1, ln_2, ln_3, gf_0, gf_1, gf_2, gf_3, gf_4, gf_7, gf_21, gf_63, dy_0, dy_1, dy_2, dy_3, dy_7, dy_21, px_brT, px_brF, true_and, and_true, and_false, false_and, and_self, true_implies, false_implies, or_true, true_or, or_false, false_or, eq_self, ne_eq, not_false_eq_true, not_true_eq_false, if_true, if_false, List.mem_cons, List.not_mem_nil, List.length_cons, List.length_nil, Nat.reduceEqDiff, Nat.reduceAdd, Nat.reduceSub, Nat.reduceLeDiff, Nat.reduceLT, Int.reduceEq, Int.reduceLT, Int.reduceLE, Int.reduceNeg, Int.reduceAdd, Int.reduceSub, Int.reduceToNat, ↓reduceIte, one_ne_zero_, zero_ne_one_, px_in32L, cd_263, cd_187]
  repeat' (first | (with_reducible apply And.intro) | (with_reducible refine px_br_intro (fun _ => ?_) (fun _ => ?_)))
  all_goals (try (first | (unfold px_in32; omega) | omega))
  · rename_i c1 c2
    rw [show c = 40 by omega] at hI
    have := h m w (wkC_S hT.1.1 hI)
    rw [if_pos c2] at this; exact this
  · rename_i c1 c2
    rw [show c = 40 by omega] at hI
    have := h m w (wkC_S hT.1.1 hI)
    rw [if_neg c2] at this; exact this
  all_goals
    have hc40 : c < 40 := by omega
    have hu2 := hu hc40
  · rename_i c1 c2
    have e : rC (M 128) c 0 = 0 := c2
    exact hno hc40 (fun z => by omega)
  · rename_i c1 c2 c3
    refine hno hc40 (fun z1 z2 => ?_)
    have e : rC (M 128) c 4 = 0 := c3
    have := (tieC_p hT.1 c0 hc40 z1).2.2.2.1
    omega
  · rename_i c1 c2 c3
    have e : ¬ rC (M 128) c 0 = 0 := c2
    have hd : 0 ≤ Mc 62 c := by omega
    have hpp := tieC_p hT.1 c0 hc40 hd
    have hkc := cokC (hT.1.1.1 c c0 hc40 hd)
    have e3 : M 128 (654 + 6 * c + 3) = Mc 59 c := hpp.2.2.1
    have e4 : M 128 (654 + 6 * c + 4) = Mc 60 c := hpp.2.2.2.1
    rw [e4] at c3
    have hTn := TE_n hT
    have hP0 := (full_rng (dd := Mc 62) (bs := Mc 61) (f := hgF Mc 1) (B := 120) (by decide) (fun x _ _ => by
      unfold hgF
      have := lsN_bd hT x (N := Mc 20 1) (by omega) (Int.le_refl _)
      rw [if_neg (by decide)]; omega) 3 c c0 hc40).1
    refine sp_hanging (b := 1) hT ⟨c0, hc40, hd⟩ ?_
    generalize full (Mc 62) (Mc 61) (hgF Mc 1) 3 c = P at *
    simp only [px_go, px_Q0_at, px_sx_0, px_sx_s, px_cl, px_step, ↓px_ll, px_lg, f4_, ↓px_r1, ↓px_r2, ↓px_r4, ↓px_r5, ↓px_p1, ↓px_p2, ↓px_p3, ↓px_pop, px_k_0, px_k_s, px_k3_0, px_stk_, px_cats, px_ent, px_st1, px_st2, px_mask, ↓px_tsw, ↓px_lsw, ct_, mls_0, mls_1, mls_2, mls_3, mls_4, mls_5, kd_0, kd_1, kd_2, kd_3, ln_0, ln_1, ln_2, ln_3, gf_0, gf_1, gf_2, gf_3, gf_4, gf_7, gf_21, gf_63, dy_0, dy_1, dy_2, dy_3, dy_7, dy_21, px_brT, px_brF, true_and, and_true, and_false, false_and, and_self, true_implies, false_implies, or_true, true_or, or_false, false_or, eq_self, ne_eq, not_false_eq_true, not_true_eq_false, if_true, if_false, List.mem_cons, List.not_mem_nil, List.length_cons, List.length_nil, Nat.reduceEqDiff, Nat.reduceAdd, Nat.reduceSub, Nat.reduceLeDiff, Nat.reduceLT, Int.reduceEq, Int.reduceLT, Int.reduceLE, Int.reduceNeg, Int.reduceAdd, Int.reduceSub, Int.reduceToNat, ↓reduceIte, one_ne_zero_, zero_ne_one_, px_in32L, cd_263, cd_187, e3]
    repeat' (first | (with_reducible apply And.intro) | (with_reducible refine px_br_intro (fun _ => ?_) (fun _ => ?_)))
    all_goals (try (first | (unfold px_in32; omega) | omega))
    · exact hno hc40 (fun _ _ => by omega)
    · exact hno hc40 (fun _ _ => by omega)
    · exact hyes hc40 hd (by omega) (by omega) (by omega)
    · exact hno hc40 (fun _ _ => by omega)
    · exact hyes hc40 hd (by omega) (by omega) (by omega)
set_option maxHeartbeats 600000 in
set_option maxRecDepth 100000 in
theorem sp_rweakest {Mc : px_mem} {a : Int} {pl : Int → Int → List Int} {nm : Int → List Int} (hT : TE Mc pl nm (M 128)) (h0 : ¬ (0 ≤ a ∧ a ≤ 1) → Q (some (0, -1)) M) (h : ∀ m w, (0 ≤ a ∧ a ≤ 1) → wkS (Mc 54) (full (Mc 62) (Mc 61) (hgF Mc 1) 3) 400 w m → Q (some (0, if a = 0 then w else m)) M) : px_Ok 263 [(2, 127), (0, a)] LAY M Q := by
  refine px_ok_go (inl := [170]) (ls0 := [(2, 127), (0, a), (9, 0), (9, 0), (9, 0), (9, 0)]) 60 (by decide) (Nat.le_of_ble_eq_true rfl) rfl ?_
  simp only [px_go, px_Q0_at, px_sx_0, px_sx_s, px_cl, px_step, ↓px_ll, px_lg, f4_, ↓px_r1, ↓px_r2, ↓px_r4, ↓px_r5, ↓px_p1, ↓px_p2, ↓px_p3, ↓px_pop, px_k_0, px_k_s, px_k3_0, px_stk_, px_cats, px_ent, px_st1, px_st2, px_mask, ↓px_tsw, ↓px_lsw, ct_, mls_0, mls_1, mls_2, mls_3, mls_4, mls_5, kd_0, kd_1, kd_2, kd_3, ln_0, ln_1, ln_2, ln_3, gf_0, gf_1, gf_2, gf_3, gf_4, gf_7, gf_21, gf_63, dy_0, dy_1, dy_2, dy_3, dy_7, dy_21, px_brT, px_brF, true_and, and_true, and_false, false_and, and_self, true_implies, false_implies, or_true, true_or, or_false, false_or, eq_self, ne_eq, not_false_eq_true, not_true_eq_false, if_true, if_false, List.mem_cons, List.not_mem_nil, List.length_cons, List.length_nil, Nat.reduceEqDiff, Nat.reduceAdd, Nat.reduceSub, Nat.reduceLeDiff, Nat.reduceLT, Int.reduceEq, Int.reduceLT, Int.reduceLE, Int.reduceNeg, Int.reduceAdd, Int.reduceSub, Int.reduceToNat, ↓reduceIte, one_ne_zero_, zero_ne_one_, px_in32L, cd_263, cd_170]
  repeat' (first | (with_reducible apply And.intro) | (with_reducible refine px_br_intro (fun _ => ?_) (fun _ => ?_)))
  all_goals (try (first | (unfold px_in32; omega) | omega))
  · exact h0 (by omega)
  · exact h0 (by omega)
  · exact lp_rweak hT (fun m w z => h m w (by omega) z) 0 (by decide) 0 (-2) (Int.le_refl 0) (Or.inl ⟨rfl, rfl, fun d d0 d1 => by omega⟩)
end PS
