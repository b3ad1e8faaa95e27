set_option maxRecDepth 100000 in
/-- X12_seal -/
theorem cd_276 : px_at 276 0 = some (1, [], .aload_n 0, []) ∧ px_at 276 1 = some (2, [], .iload_n 1, []) ∧ px_at 276 2 = some (5, [], .invokevirtual 267, [208, 1, 11, 250]) ∧ px_at 276 5 = some (6, [], .istore_n 3, []) ∧ px_at 276 6 = some (7, [], .iload_n 3, []) ∧ px_at 276 7 = some (8, [], .iconst (-1), []) ∧ px_at 276 8 = some (11, [], .if_icmp .ne 6, [14]) ∧ px_at 276 11 = some (13, [], .bipush (-2), []) ∧ px_at 276 13 = some (14, [], .ireturn, [0]) ∧ px_at 276 14 = some (15, [], .iload_n 2, []) ∧ px_at 276 15 = some (18, [], .ifCond .eq 7, [22]) ∧ px_at 276 18 = some (19, [], .iconst 1, []) ∧ px_at 276 19 = some (22, [], .goto 4, [23]) ∧ px_at 276 22 = some (23, [], .iconst 0, []) ∧ px_at 276 23 = some (25, [], .istore 4, []) ∧ px_at 276 25 = some (26, [], .aload_n 0, []) ∧ px_at 276 26 = some (29, [], .getfield 7, [11, 0, 2, 1, 125]) ∧ px_at 276 29 = some (30, [], .aload_n 0, []) ∧ px_at 276 30 = some (31, [], .iload_n 3, []) ∧ px_at 276 31 = some (34, [], .invokevirtual 174, [204, 1, 11, 251]) ∧ px_at 276 34 = some (35, [], .iconst 3, []) ∧ px_at 276 35 = some (36, [], .iadd, []) ∧ px_at 276 36 = some (37, [], .iaload, []) ∧ px_at 276 37 = some (39, [], .iload 4, []) ∧ px_at 276 39 = some (42, [], .if_icmp .ne 6, [45]) ∧ px_at 276 42 = some (44, [], .bipush (-3), []) ∧ px_at 276 44 = some (45, [], .ireturn, [0]) ∧ px_at 276 45 = some (46, [], .aload_n 0, []) ∧ px_at 276 46 = some (49, [], .getfield 7, [11, 0, 2, 1, 125]) ∧ px_at 276 49 = some (50, [], .aload_n 0, []) ∧ px_at 276 50 = some (51, [], .iload_n 3, []) ∧ px_at 276 51 = some (54, [], .invokevirtual 174, [204, 1, 11, 251]) ∧ px_at 276 54 = some (55, [], .iconst 3, []) ∧ px_at 276 55 = some (56, [], .iadd, []) ∧ px_at 276 56 = some (58, [], .iload 4, []) ∧ px_at 276 58 = some (59, [], .iastore, []) ∧ px_at 276 59 = some (60, [], .iconst 1, []) ∧ px_at 276 60 = some (61, [], .ireturn, [0]) := ⟨rfl, rfl, rfl, rfl, rfl, rfl, rfl, rfl, rfl, rfl, rfl, rfl, rfl, rfl, rfl, rfl, rfl, rfl, rfl, rfl, rfl, rfl, rfl, rfl, rfl, rfl, rfl, rfl, rfl, rfl, rfl, rfl, rfl, rfl, rfl, rfl, rfl, rfl⟩
set_option maxRecDepth 100000 in
/-- X12_slotNamed -/
theorem cd_277 : px_at 277 0 = some (1, [], .iconst 0, []) ∧ px_at 277 1 = some (2, [], .istore_n 1, []) ∧ px_at 277 2 = some (3, [1, 1], .iload_n 1, []) ∧ px_at 277 3 = some (4, [], .aload_n 0, []) ∧ px_at 277 4 = some (7, [], .getfield 7, [11, 0, 2, 1, 125]) ∧ px_at 277 7 = some (8, [], .iconst 5, []) ∧ px_at 277 8 = some (9, [], .iaload, []) ∧ px_at 277 9 = some (12, [], .if_icmp .ge 42, [51]) ∧ px_at 277 12 = some (13, [], .aload_n 0, []) ∧ px_at 277 13 = some (16, [], .getfield 20, [11, 4, 2, 1, 129]) ∧ px_at 277 16 = some (17, [], .iconst 0, []) ∧ px_at 277 17 = some (18, [], .iaload, []) ∧ px_at 277 18 = some (21, [], .ifCond .le 27, [45]) ∧ px_at 277 21 = some (22, [], .aload_n 0, []) ∧ px_at 277 22 = some (25, [], .getfield 7, [11, 0, 2, 1, 125]) ∧ px_at 277 25 = some (26, [], .aload_n 0, []) ∧ px_at 277 26 = some (27, [], .iload_n 1, []) ∧ px_at 277 27 = some (30, [], .invokevirtual 174, [204, 1, 11, 251]) ∧ px_at 277 30 = some (31, [], .iconst 4, []) ∧ px_at 277 31 = some (32, [], .iadd, []) ∧ px_at 277 32 = some (33, [], .aload_n 0, []) ∧ px_at 277 33 = some (36, [], .getfield 20, [11, 4, 2, 1, 129]) ∧ px_at 277 36 = some (37, [], .iconst 0, []) ∧ px_at 277 37 = some (40, [], .invokestatic 183, [182, 4, 11, 230]) ∧ px_at 277 40 = some (43, [], .ifCond .ne 5, [45]) ∧ px_at 277 43 = some (44, [], .iload_n 1, []) ∧ px_at 277 44 = some (45, [], .ireturn, [0]) ∧ px_at 277 45 = some (48, [], .iinc 1 1, []) ∧ px_at 277 48 = some (51, [], .goto (-46), [2]) ∧ px_at 277 51 = some (52, [], .iconst (-1), []) ∧ px_at 277 52 = some (53, [], .ireturn, [0]) := ⟨rfl, rfl, rfl, rfl, rfl, rfl, rfl, rfl, rfl, rfl, rfl, rfl, rfl, rfl, rfl, rfl, rfl, rfl, rfl, rfl, rfl, rfl, rfl, rfl, rfl, rfl, rfl, rfl, rfl, rfl, rfl⟩
set_option maxRecDepth 100000 in
/-- X12_isName -/
theorem cd_278 : px_at 278 0 = some (1, [], .iconst 1, []) ∧ px_at 278 1 = some (2, [], .istore_n 1, []) ∧ px_at 278 2 = some (3, [1, 1], .iload_n 1, []) ∧ px_at 278 3 = some (4, [], .aload_n 0, []) ∧ px_at 278 4 = some (7, [], .getfield 20, [11, 4, 2, 1, 129]) ∧ px_at 278 7 = some (8, [], .iconst 0, []) ∧ px_at 278 8 = some (9, [], .iaload, []) ∧ px_at 278 9 = some (12, [], .if_icmp .gt 23, [32]) ∧ px_at 278 12 = some (13, [], .aload_n 0, []) ∧ px_at 278 13 = some (16, [], .getfield 20, [11, 4, 2, 1, 129]) ∧ px_at 278 16 = some (17, [], .iload_n 1, []) ∧ px_at 278 17 = some (18, [], .iaload, []) ∧ px_at 278 18 = some (21, [], .invokestatic 96, [180, 1, 11, 227]) ∧ px_at 278 21 = some (24, [], .ifCond .ne 5, [26]) ∧ px_at 278 24 = some (25, [], .iconst 0, []) ∧ px_at 278 25 = some (26, [], .ireturn, [4]) ∧ px_at 278 26 = some (29, [], .iinc 1 1, []) ∧ px_at 278 29 = some (32, [], .goto (-27), [2]) ∧ px_at 278 32 = some (33, [], .iconst 1, []) ∧ px_at 278 33 = some (34, [], .ireturn, [4]) := ⟨rfl, rfl, rfl, rfl, rfl, rfl, rfl, rfl, rfl, rfl, rfl, rfl, rfl, rfl, rfl, rfl, rfl, rfl, rfl, rfl⟩
set_option maxRecDepth 100000 in
/-- X12_name -/
theorem cd_279 : px_at 279 0 = some (1, [], .iload_n 2, []) ∧ px_at 279 1 = some (2, [], .iconst 0, []) ∧ px_at 279 2 = some (4, [], .bipush 12, []) ∧ px_at 279 4 = some (7, [], .invokestatic 92, [170, 3, 11, 223]) ∧ px_at 279 7 = some (10, [], .ifCond .eq 11, [18]) ∧ px_at 279 10 = some (11, [], .iload_n 2, []) ∧ px_at 279 11 = some (12, [], .aload_n 0, []) ∧ px_at 279 12 = some (15, [], .getfield 84, [11, 3, 0, 0, 128]) ∧ px_at 279 15 = some (18, [], .if_icmp .le 5, [20]) ∧ px_at 279 18 = some (19, [], .iconst (-1), []) ∧ px_at 279 19 = some (20, [], .ireturn, [0]) ∧ px_at 279 20 = some (21, [], .aload_n 0, []) ∧ px_at 279 21 = some (22, [], .iconst 0, []) ∧ px_at 279 22 = some (25, [], .putfield 84, [11, 3, 0, 0, 128]) ∧ px_at 279 25 = some (26, [], .aload_n 0, []) ∧ px_at 279 26 = some (27, [], .iconst 0, []) ∧ px_at 279 27 = some (28, [], .iload_n 2, []) ∧ px_at 279 28 = some (29, [], .aload_n 0, []) ∧ px_at 279 29 = some (32, [], .getfield 20, [11, 4, 2, 1, 129]) ∧ px_at 279 32 = some (35, [], .invokevirtual 210, [179, 3, 11, 224]) ∧ px_at 279 35 = some (36, [], .aload_n 0, []) ∧ px_at 279 36 = some (37, [], .iload_n 1, []) ∧ px_at 279 37 = some (40, [], .invokevirtual 267, [208, 1, 11, 250]) ∧ px_at 279 40 = some (41, [], .istore_n 3, []) ∧ px_at 279 41 = some (42, [], .iload_n 3, []) ∧ px_at 279 42 = some (43, [], .iconst (-1), []) ∧ px_at 279 43 = some (46, [], .if_icmp .ne 6, [49]) ∧ px_at 279 46 = some (48, [], .bipush (-2), []) ∧ px_at 279 48 = some (49, [], .ireturn, [0]) ∧ px_at 279 49 = some (50, [], .aload_n 0, []) ∧ px_at 279 50 = some (53, [], .invokevirtual 377, [278, 0, 11, 325]) ∧ px_at 279 53 = some (56, [], .ifCond .ne 6, [59]) ∧ px_at 279 56 = some (58, [], .bipush (-3), []) ∧ px_at 279 58 = some (59, [], .ireturn, [0]) ∧ px_at 279 59 = some (60, [], .aload_n 0, []) ∧ px_at 279 60 = some (63, [], .invokevirtual 380, [277, 0, 11, 326]) ∧ px_at 279 63 = some (65, [], .istore 4, []) ∧ px_at 279 65 = some (67, [], .iload 4, []) ∧ px_at 279 67 = some (68, [], .iconst (-1), []) ∧ px_at 279 68 = some (71, [], .if_icmp .eq 12, [80]) ∧ px_at 279 71 = some (73, [], .iload 4, []) ∧ px_at 279 73 = some (74, [], .iload_n 3, []) ∧ px_at 279 74 = some (77, [], .if_icmp .eq 6, [80]) ∧ px_at 279 77 = some (79, [], .bipush (-4), []) ∧ px_at 279 79 = some (80, [], .ireturn, [0]) ∧ px_at 279 80 = some (81, [], .aload_n 0, []) ∧ px_at 279 81 = some (84, [], .getfield 20, [11, 4, 2, 1, 129]) ∧ px_at 279 84 = some (85, [], .iconst 0, []) ∧ px_at 279 85 = some (86, [], .aload_n 0, []) ∧ px_at 279 86 = some (89, [], .getfield 7, [11, 0, 2, 1, 125]) ∧ px_at 279 89 = some (90, [], .aload_n 0, []) ∧ px_at 279 90 = some (91, [], .iload_n 3, []) ∧ px_at 279 91 = some (94, [], .invokevirtual 174, [204, 1, 11, 251]) ∧ px_at 279 94 = some (95, [], .iconst 4, []) ∧ px_at 279 95 = some (96, [], .iadd, []) ∧ px_at 279 96 = some (99, [], .invokestatic 203, [185, 4, 11, 236]) ∧ px_at 279 99 = some (100, [], .iload_n 2, []) ∧ px_at 279 100 = some (101, [], .ireturn, [0]) := ⟨rfl, rfl, rfl, rfl, rfl, rfl, rfl, rfl, rfl, rfl, rfl, rfl, rfl, rfl, rfl, rfl, rfl, rfl, rfl, rfl, rfl, rfl, rfl, rfl, rfl, rfl, rfl, rfl, rfl, rfl, rfl, rfl, rfl, rfl, rfl, rfl, rfl, rfl, rfl, rfl, rfl, rfl, rfl, rfl, rfl, rfl, rfl, rfl, rfl, rfl, rfl, rfl, rfl, rfl, rfl, rfl, rfl, rfl⟩
set_option maxRecDepth 100000 in
/-- X12_named -/
theorem cd_280 : px_at 280 0 = some (1, [], .aload_n 0, []) ∧ px_at 280 1 = some (2, [], .iload_n 1, []) ∧ px_at 280 2 = some (3, [], .iconst 0, []) ∧ px_at 280 3 = some (6, [], .invokevirtual 207, [222, 2, 11, 222]) ∧ px_at 280 6 = some (9, [], .ifCond .ne 5, [11]) ∧ px_at 280 9 = some (10, [], .iconst (-1), []) ∧ px_at 280 10 = some (11, [], .ireturn, [0]) ∧ px_at 280 11 = some (12, [], .aload_n 0, []) ∧ px_at 280 12 = some (13, [], .iconst 0, []) ∧ px_at 280 13 = some (14, [], .iload_n 1, []) ∧ px_at 280 14 = some (15, [], .aload_n 0, []) ∧ px_at 280 15 = some (18, [], .getfield 20, [11, 4, 2, 1, 129]) ∧ px_at 280 18 = some (21, [], .invokevirtual 210, [179, 3, 11, 224]) ∧ px_at 280 21 = some (22, [], .aload_n 0, []) ∧ px_at 280 22 = some (25, [], .invokevirtual 380, [277, 0, 11, 326]) ∧ px_at 280 25 = some (26, [], .istore_n 2, []) ∧ px_at 280 26 = some (27, [], .iload_n 2, []) ∧ px_at 280 27 = some (28, [], .iconst (-1), []) ∧ px_at 280 28 = some (31, [], .if_icmp .ne 8, [36]) ∧ px_at 280 31 = some (33, [], .bipush (-2), []) ∧ px_at 280 33 = some (36, [], .goto 15, [48]) ∧ px_at 280 36 = some (37, [], .aload_n 0, []) ∧ px_at 280 37 = some (40, [], .getfield 7, [11, 0, 2, 1, 125]) ∧ px_at 280 40 = some (41, [], .aload_n 0, []) ∧ px_at 280 41 = some (42, [], .iload_n 2, []) ∧ px_at 280 42 = some (45, [], .invokevirtual 174, [204, 1, 11, 251]) ∧ px_at 280 45 = some (46, [], .iconst 0, []) ∧ px_at 280 46 = some (47, [], .iadd, []) ∧ px_at 280 47 = some (48, [], .iaload, []) ∧ px_at 280 48 = some (49, [], .ireturn, [0]) := ⟨rfl, rfl, rfl, rfl, rfl, rfl, rfl, rfl, rfl, rfl, rfl, rfl, rfl, rfl, rfl, rfl, rfl, rfl, rfl, rfl, rfl, rfl, rfl, rfl, rfl, rfl, rfl, rfl, rfl, rfl⟩
set_option maxRecDepth 100000 in
/-- X12_nameByte -/
theorem cd_281 : px_at 281 0 = some (1, [], .aload_n 0, []) ∧ px_at 281 1 = some (2, [], .iload_n 1, []) ∧ px_at 281 2 = some (5, [], .invokevirtual 267, [208, 1, 11, 250]) ∧ px_at 281 5 = some (6, [], .istore_n 3, []) ∧ px_at 281 6 = some (7, [], .iload_n 3, []) ∧ px_at 281 7 = some (8, [], .iconst (-1), []) ∧ px_at 281 8 = some (11, [], .if_icmp .eq 7, [15]) ∧ px_at 281 11 = some (12, [], .iload_n 2, []) ∧ px_at 281 12 = some (15, [], .ifCond .ge 5, [17]) ∧ px_at 281 15 = some (16, [], .iconst (-1), []) ∧ px_at 281 16 = some (17, [], .ireturn, [0]) ∧ px_at 281 17 = some (18, [], .iload_n 2, []) ∧ px_at 281 18 = some (19, [], .aload_n 0, []) ∧ px_at 281 19 = some (22, [], .getfield 7, [11, 0, 2, 1, 125]) ∧ px_at 281 22 = some (23, [], .aload_n 0, []) ∧ px_at 281 23 = some (24, [], .iload_n 3, []) ∧ px_at 281 24 = some (27, [], .invokevirtual 174, [204, 1, 11, 251]) ∧ px_at 281 27 = some (28, [], .iconst 4, []) ∧ px_at 281 28 = some (29, [], .iadd, []) ∧ px_at 281 29 = some (30, [], .iaload, []) ∧ px_at 281 30 = some (33, [], .if_icmp .ge 22, [52]) ∧ px_at 281 33 = some (34, [], .aload_n 0, []) ∧ px_at 281 34 = some (37, [], .getfield 7, [11, 0, 2, 1, 125]) ∧ px_at 281 37 = some (38, [], .aload_n 0, []) ∧ px_at 281 38 = some (39, [], .iload_n 3, []) ∧ px_at 281 39 = some (42, [], .invokevirtual 174, [204, 1, 11, 251]) ∧ px_at 281 42 = some (43, [], .iconst 4, []) ∧ px_at 281 43 = some (44, [], .iadd, []) ∧ px_at 281 44 = some (45, [], .iconst 1, []) ∧ px_at 281 45 = some (46, [], .iadd, []) ∧ px_at 281 46 = some (47, [], .iload_n 2, []) ∧ px_at 281 47 = some (48, [], .iadd, []) ∧ px_at 281 48 = some (49, [], .iaload, []) ∧ px_at 281 49 = some (52, [], .goto 5, [54]) ∧ px_at 281 52 = some (54, [], .bipush (-2), []) ∧ px_at 281 54 = some (55, [], .ireturn, [0]) := ⟨rfl, rfl, rfl, rfl, rfl, rfl, rfl, rfl, rfl, rfl, rfl, rfl, rfl, rfl, rfl, rfl, rfl, rfl, rfl, rfl, rfl, rfl, rfl, rfl, rfl, rfl, rfl, rfl, rfl, rfl, rfl, rfl, rfl, rfl, rfl, rfl⟩
/-! the reference: seal, names -/
def ltr (l : List Int) : Prop := ∀ b ∈ l, 97 ≤ b ∧ b ≤ 122
/-- whose name a path is; none bears an empty one -/
noncomputable def brN (Mc : px_mem) (nm : Int → List Int) (P : List Int) : Int := fnd (Mc 20 1) (fun i => P ≠ [] ∧ nm i = P)
theorem brN_bd (Mc : px_mem) (nm : Int → List Int) (P : List Int) : brN Mc nm P = -1 ∨ (0 ≤ brN Mc nm P ∧ brN Mc nm P < Mc 20 1 ∧ P ≠ [] ∧ nm (brN Mc nm P) = P) := by
  unfold brN
  rcases fnd_spec (Mc 20 1) (fun i => P ≠ [] ∧ nm i = P) with z | z
  · exact Or.inl z.1
  · exact Or.inr ⟨z.1, z.2.1, z.2.2.1⟩
section PS
variable {M : px_mem} {Q : Option pv → px_mem → Prop}
set_option maxHeartbeats 600000 in
set_option maxRecDepth 100000 in
theorem sp_rseal {Mc : px_mem} {num is : Int} {pl : Int → Int → List Int} {nm : Int → List Int} (hT : TE Mc pl nm (M 128)) (his : is = 0 ∨ is = 1) (h2 : slot Mc num < 0 → Q (some (0, -2)) M) (h3 : 0 ≤ slot Mc num → Mc (Mc 21 (slot Mc num)) 6 = is → Q (some (0, -3)) M) (h1 : 0 ≤ slot Mc num → slot Mc num < Mc 20 1 → Mc (Mc 21 (slot Mc num)) 6 ≠ is → Q (some (0, 1)) (px_up M 128 (1294 + 186 * slot Mc num + 3) is)) : px_Ok 276 [(2, 127), (0, num), (0, is)] LAY M Q := by
  refine px_ok_go (inl := [204]) (ls0 := [(2, 127), (0, num), (0, is), (9, 0), (9, 0)]) 60 (by decide) (Nat.le_of_ble_eq_true rfl) rfl ?_
  simp only [px_go, px_Q0_at, px_sx_0, px_sx_s, px_cl, px_step, ↓px_ll, px_lg, f4_, ↓px_r1, ↓px_r2, ↓px_r4, ↓px_r5, ↓px_p1, ↓px_p2, ↓px_p3, ↓px_pop, px_k_0, px_k_s, px_k3_0, px_stk_, px_cats, px_ent, px_st1, px_st2, px_mask, ↓px_tsw, ↓px_lsw, ct_, mls_0, mls_1, mls_2, mls_3, mls_4, mls_5, kd_0, kd_1, kd_2, kd_3, ln_0, ln_1, ln_2, ln_3, gf_0, gf_1, gf_2, gf_3, gf_4, gf_7, gf_21, gf_63, dy_0, dy_1, dy_2, dy_3, dy_7, dy_21, px_brT, px_brF, true_and, and_true, and_false, false_and, and_self, true_implies, false_implies, or_true, true_or, or_false, false_or, eq_self, ne_eq, not_false_eq_true, not_true_eq_false, if_true, if_false, List.mem_cons, List.not_mem_nil, List.length_cons, List.length_nil, Nat.reduceEqDiff, Nat.reduceAdd, Nat.reduceSub, Nat.reduceLeDiff, Nat.reduceLT, Int.reduceEq, Int.reduceLT, Int.reduceLE, Int.reduceNeg, Int.reduceAdd, Int.reduceSub, Int.reduceToNat, ↓reduceIte, one_ne_zero_, zero_ne_one_, px_in32L, cd_276, cd_204]
  repeat' (first | (with_reducible apply And.intro) | (with_reducible refine px_br_intro (fun _ => ?_) (fun _ => ?_)))
  all_goals (try (first | (unfold px_in32; omega) | omega))
  have hTn := TE_n hT
  have hsb := slot_bd Mc num
  refine sp_slotT hT ?_
  generalize hsl : slot Mc num = s at *
  have e3 : 0 ≤ s ∧ s < Mc 20 1 → M 128 (1294 + 186 * s + 3) = Mc (Mc 21 s) 6 := fun q => (TE_e hT q.1 q.2).2.2.2.1
  simp only [px_go, px_Q0_at, px_sx_0, px_sx_s, px_cl, px_step, ↓px_ll, px_lg, f4_, ↓px_r1, ↓px_r2, ↓px_r4, ↓px_r5, ↓px_p1, ↓px_p2, ↓px_p3, ↓px_pop, px_k_0, px_k_s, px_k3_0, px_stk_, px_cats, px_ent, px_st1, px_st2, px_mask, ↓px_tsw, ↓px_lsw, ct_, mls_0, mls_1, mls_2, mls_3, mls_4, mls_5, kd_0, kd_1, kd_2, kd_3, ln_0, ln_1, ln_2, ln_3, gf_0, gf_1, gf_2, gf_3, gf_4, gf_7, gf_21, gf_63, dy_0, dy_1, dy_2, dy_3, dy_7, dy_21, px_brT, px_brF, true_and, and_true, and_false, false_and, and_self, true_implies, false_implies, or_true, true_or, or_false, false_or, eq_self, ne_eq, not_false_eq_true, not_true_eq_false, if_true, if_false, List.mem_cons, List.not_mem_nil, List.length_cons, List.length_nil, Nat.reduceEqDiff, Nat.reduceAdd, Nat.reduceSub, Nat.reduceLeDiff, Nat.reduceLT, Int.reduceEq, Int.reduceLT, Int.reduceLE, Int.reduceNeg, Int.reduceAdd, Int.reduceSub, Int.reduceToNat, ↓reduceIte, one_ne_zero_, zero_ne_one_, px_in32L, cd_276, cd_204]
  repeat' (first | (with_reducible apply And.intro) | (with_reducible refine px_br_intro (fun _ => ?_) (fun _ => ?_)))
  all_goals (try (first | (unfold px_in32; omega) | omega))
  · exact h2 (by omega)
  all_goals
    have hs' : 0 ≤ s ∧ s < Mc 20 1 := by omega
    have e3' := e3 hs'
    have h01 := (hT.2.1.2 s hs'.1 hs'.2).2.2.2.2.1
  · rename_i c1 c2 c3
    rw [c2] at h3
    exact h3 hs'.1 (by omega)
  · rename_i c1 c2 c3
    rw [c2] at h1
    exact h1 hs'.1 hs'.2 (by omega)
  · rename_i c1 c2 c3
    exact h3 hs'.1 (by omega)
  · rename_i c1 c2 c3
    rw [show is = 1 by omega] at h1
    exact h1 hs'.1 hs'.2 (by omega)
set_option maxHeartbeats 600000 in
set_option maxRecDepth 100000 in
theorem lp_slotNamed {Mc : px_mem} {P : List Int} {pl : Int → Int → List Int} {nm : Int → List Int} (hT : TE Mc pl nm (M 128)) (hp : pth M 131 P) (h : Q (some (0, brN Mc nm P)) M) (i : Int) (hk_i : i ≤ Mc 20 1) : 0 ≤ i → (∀ j, 0 ≤ j → j < i → ¬ (P ≠ [] ∧ nm j = P)) → px_WP 277 0 0 (px_Q0 LAY Q) 2 [(2, 127), (0, i)] [] LAY M 0 0 := by
  refine up_ind (P := fun i => 0 ≤ i → (∀ j, 0 ≤ j → j < i → ¬ (P ≠ [] ∧ nm j = P)) → px_WP 277 0 0 (px_Q0 LAY Q) 2 [(2, 127), (0, i)] [] LAY M 0 0) (Mc 20 1) (fun i hk_i ih => ?_) i hk_i
  intro i0 hj
  have hTn := TE_n hT
  have h5 := hTn.1
  have hl0 := hp.1
  have hnx : ¬ (P ≠ [] ∧ nm i = P) → ∀ j, 0 ≤ j → j < i + 1 → ¬ (P ≠ [] ∧ nm j = P) := fun z j j0 j1 => by
    by_cases q : j = i
    · rw [q]; exact z
    · exact hj j j0 (by omega)
  refine px_go_ok (inl := [204]) 60 ?_
  simp only [px_go, px_Q0_at, px_sx_0, px_sx_s, px_cl, px_step, ↓px_ll, px_lg, f4_, ↓px_r1, ↓px_r2, ↓px_r4, ↓px_r5, ↓px_p1, ↓px_p2, ↓px_p3, ↓px_pop, px_k_0, px_k_s, px_k3_0, px_stk_, px_cats, px_ent, px_st1, px_st2, px_mask, ↓px_tsw, ↓px_lsw, ct_, mls_0, mls_1, mls_2, mls_3, mls_4, mls_5, kd_0, kd_1, kd_2, kd_3, ln_0, ln_1, ln_2, ln_3, gf_0, gf_1, gf_2, gf_3, gf_4, gf_7, gf_21, gf_63, dy_0, dy_1, dy_2, dy_3, dy_7, dy_21, px_brT, px_brF, true_and, and_true, and_false, false_and, and_self, true_implies, false_implies, or_true, true_or, or_false, false_or, eq_self, ne_eq, not_false_eq_true, not_true_eq_false, if_true, if_false, List.mem_cons, List.not_mem_nil, List.length_cons, List.length_nil, Nat.reduceEqDiff, Nat.reduceAdd, Nat.reduceSub, Nat.reduceLeDiff, Nat.reduceLT, Int.reduceEq, Int.reduceLT, Int.reduceLE, Int.reduceNeg, Int.reduceAdd, Int.reduceSub, Int.reduceToNat, ↓reduceIte, one_ne_zero_, zero_ne_one_, px_in32L, cd_277, cd_204, h5]
  repeat' (first | (with_reducible apply And.intro) | (with_reducible refine px_br_intro (fun _ => ?_) (fun _ => ?_)))
  all_goals (try (first | (unfold px_in32; omega) | omega))
  · rename_i c1
    have e : brN Mc nm P = -1 := fnd_miss (fun j j0 j1 => hj j j0 (by omega))
    rw [e] at h; exact h
  · rename_i c1 c2
    refine ih (by omega) (by omega) (hnx (fun z => z.1 ?_))
    exact List.length_eq_zero_iff.mp (by omega)
  · rename_i c1 c2
    have ht := (hT.2.2.2 i i0 (by omega)).2.1
    refine sp_against rfl rfl ht.2 hp.2.2 ⟨by decide, by decide⟩ (fun r r1 r2 => ?_)
    rw [ht.1, hp.2.1] at r2
    simp only [px_go, px_Q0_at, px_sx_0, px_sx_s, px_cl, px_step, ↓px_ll, px_lg, f4_, ↓px_r1, ↓px_r2, ↓px_r4, ↓px_r5, ↓px_p1, ↓px_p2, ↓px_p3, ↓px_pop, px_k_0, px_k_s, px_k3_0, px_stk_, px_cats, px_ent, px_st1, px_st2, px_mask, ↓px_tsw, ↓px_lsw, ct_, mls_0, mls_1, mls_2, mls_3, mls_4, mls_5, kd_0, kd_1, kd_2, kd_3, ln_0, ln_1, ln_2, ln_3, gf_0, gf_1, gf_2, gf_3, gf_4, gf_7, gf_21, gf_63, dy_0, dy_1, dy_2, dy_3, dy_7, dy_21, px_brT, px_brF, true_and, and_true, and_false, false_and, and_self, true_implies, false_implies, or_true, true_or, or_false, false_or, eq_self, ne_eq, not_false_eq_true, not_true_eq_false, if_true, if_false, List.mem_cons, List.not_mem_nil, List.length_cons, List.length_nil, Nat.reduceEqDiff, Nat.reduceAdd, Nat.reduceSub, Nat.reduceLeDiff, Nat.reduceLT, Int.reduceEq, Int.reduceLT, Int.reduceLE, Int.reduceNeg, Int.reduceAdd, Int.reduceSub, Int.reduceToNat, ↓reduceIte, one_ne_zero_, zero_ne_one_, px_in32L, cd_277, cd_204]
    repeat' (first | (with_reducible apply And.intro) | (with_reducible refine px_br_intro (fun _ => ?_) (fun _ => ?_)))
    all_goals (try (first | (unfold px_in32; omega) | omega))
    · rename_i c3
      have e : brN Mc nm P = i := fnd_hit i0 (by omega) ⟨fun z => by rw [z] at hl0; simp at hl0; omega, r2.mp c3⟩ (fun j j0 j1 => hj j j0 j1)
      rw [e] at h; exact h
    · rename_i c3
      exact ih (by omega) (by omega) (hnx (fun z => c3 (r2.mpr z.2)))
set_option maxHeartbeats 600000 in
set_option maxRecDepth 100000 in
theorem sp_slotNamed {Mc : px_mem} {P : List Int} {pl : Int → Int → List Int} {nm : Int → List Int} (hT : TE Mc pl nm (M 128)) (hp : pth M 131 P) (h : Q (some (0, brN Mc nm P)) M) : px_Ok 277 [(2, 127)] LAY M Q := by
  refine px_ok_go (inl := []) (ls0 := [(2, 127), (9, 0)]) 60 (by decide) (Nat.le_of_ble_eq_true rfl) rfl ?_
  simp only [px_go, px_Q0_at, px_sx_0, px_sx_s, px_cl, px_step, ↓px_ll, px_lg, f4_, ↓px_r1, ↓px_r2, ↓px_r4, ↓px_r5, ↓px_p1, ↓px_p2, ↓px_p3, ↓px_pop, px_k_0, px_k_s, px_k3_0, px_stk_, px_cats, px_ent, px_st1, px_st2, px_mask, ↓px_tsw, ↓px_lsw, ct_, mls_0, mls_1, mls_2, mls_3, mls_4, mls_5, kd_0, kd_1, kd_2, kd_3, ln_0, ln_1, ln_2, ln_3, gf_0, gf_1, gf_2, gf_3, gf_4, gf_7, gf_21, gf_63, dy_0, dy_1, dy_2, dy_3, dy_7, dy_21, px_brT, px_brF, true_and, and_true, and_false, false_and, and_self, true_implies, false_implies, or_true, true_or, or_false, false_or, eq_self, ne_eq, not_false_eq_true, not_true_eq_false, if_true, if_false, List.mem_cons, List.not_mem_nil, List.length_cons, List.length_nil, Nat.reduceEqDiff, Nat.reduceAdd, Nat.reduceSub, Nat.reduceLeDiff, Nat.reduceLT, Int.reduceEq, Int.reduceLT, Int.reduceLE, Int.reduceNeg, Int.reduceAdd, Int.reduceSub, Int.reduceToNat, ↓reduceIte, one_ne_zero_, zero_ne_one_, px_in32L, cd_277]
  repeat' (first | (with_reducible apply And.intro) | (with_reducible refine px_br_intro (fun _ => ?_) (fun _ => ?_)))
  all_goals (try (first | (unfold px_in32; omega) | omega))
  exact lp_slotNamed hT hp h 0 (by have := TE_n hT; omega) (Int.le_refl 0) (fun j j0 j1 => by omega)
set_option maxHeartbeats 600000 in
set_option maxRecDepth 100000 in
theorem lp_isName {P : List Int} (hp : pth M 131 P) (h1 : ltr P → Q (some (0, 1)) M) (h0 : ¬ ltr P → Q (some (0, 0)) M) (i : Int) (hk_i : i ≤ M 131 0+1) : 1 ≤ i → (∀ j, 1 ≤ j → j < i → 97 ≤ M 131 j ∧ M 131 j ≤ 122) → px_WP 278 0 0 (px_Q0 LAY Q) 2 [(2, 127), (0, i)] [] LAY M 0 0 := by
  refine up_ind (P := fun i => 1 ≤ i → (∀ j, 1 ≤ j → j < i → 97 ≤ M 131 j ∧ M 131 j ≤ 122) → px_WP 278 0 0 (px_Q0 LAY Q) 2 [(2, 127), (0, i)] [] LAY M 0 0) (M 131 0+1) (fun i hk_i ih => ?_) i hk_i
  intro i1 hj
  have hl0 := hp.1
  have hk := hp.2.2
  have hk2 := hk.2.2.1
  have hm : ltr P ↔ ∀ j, 0 ≤ j → j < M 131 0 → 97 ≤ M 131 (0 + 1 + j) ∧ M 131 (0 + 1 + j) ≤ 122 := by
    rw [← hp.2.1]
    unfold ltr fp
    constructor
    · intro z j j0 j1
      exact z _ (lst_mem.mpr ⟨j, j0, j1, rfl⟩)
    · intro z b hb
      obtain ⟨j, j0, j1, j2⟩ := lst_mem.mp hb
      rw [← j2]; exact z j j0 j1
  refine px_go_ok (inl := []) 60 ?_
  simp only [px_go, px_Q0_at, px_sx_0, px_sx_s, px_cl, px_step, ↓px_ll, px_lg, f4_, ↓px_r1, ↓px_r2, ↓px_r4, ↓px_r5, ↓px_p1, ↓px_p2, ↓px_p3, ↓px_pop, px_k_0, px_k_s, px_k3_0, px_stk_, px_cats, px_ent, px_st1, px_st2, px_mask, ↓px_tsw, ↓px_lsw, ct_, mls_0, mls_1, mls_2, mls_3, mls_4, mls_5, kd_0, kd_1, kd_2, kd_3, ln_0, ln_1, ln_2, ln_3, gf_0, gf_1, gf_2, gf_3, gf_4, gf_7, gf_21, gf_63, dy_0, dy_1, dy_2, dy_3, dy_7, dy_21, px_brT, px_brF, true_and, and_true, and_false, false_and, and_self, true_implies, false_implies, or_true, true_or, or_false, false_or, eq_self, ne_eq, not_false_eq_true, not_true_eq_false, if_true, if_false, List.mem_cons, List.not_mem_nil, List.length_cons, List.length_nil, Nat.reduceEqDiff, Nat.reduceAdd, Nat.reduceSub, Nat.reduceLeDiff, Nat.reduceLT, Int.reduceEq, Int.reduceLT, Int.reduceLE, Int.reduceNeg, Int.reduceAdd, Int.reduceSub, Int.reduceToNat, ↓reduceIte, one_ne_zero_, zero_ne_one_, px_in32L, cd_278]
  repeat' (first | (with_reducible apply And.intro) | (with_reducible refine px_br_intro (fun _ => ?_) (fun _ => ?_)))
  all_goals (try (first | (unfold px_in32; omega) | omega))
  · rename_i c1
    refine h1 (hm.mpr (fun j j0 j1 => ?_))
    have := hj (0 + 1 + j) (by omega) (by omega)
    exact this
  · rename_i c1
    refine sp_isLetter (fun c4 => ?_) (fun c4 => ?_)
    · simp only [px_go, px_Q0_at, px_sx_0, px_sx_s, px_cl, px_step, ↓px_ll, px_lg, f4_, ↓px_r1, ↓px_r2, ↓px_r4, ↓px_r5, ↓px_p1, ↓px_p2, ↓px_p3, ↓px_pop, px_k_0, px_k_s, px_k3_0, px_stk_, px_cats, px_ent, px_st1, px_st2, px_mask, ↓px_tsw, ↓px_lsw, ct_, mls_0, mls_1, mls_2, mls_3, mls_4, mls_5, kd_0, kd_1, kd_2, kd_3, ln_0, ln_1, ln_2, ln_3, gf_0, gf_1, gf_2, gf_3, gf_4, gf_7, gf_21, gf_63, dy_0, dy_1, dy_2, dy_3, dy_7, dy_21, px_brT, px_brF, true_and, and_true, and_false, false_and, and_self, true_implies, false_implies, or_true, true_or, or_false, false_or, eq_self, ne_eq, not_false_eq_true, not_true_eq_false, if_true, if_false, List.mem_cons, List.not_mem_nil, List.length_cons, List.length_nil, Nat.reduceEqDiff, Nat.reduceAdd, Nat.reduceSub, Nat.reduceLeDiff, Nat.reduceLT, Int.reduceEq, Int.reduceLT, Int.reduceLE, Int.reduceNeg, Int.reduceAdd, Int.reduceSub, Int.reduceToNat, ↓reduceIte, one_ne_zero_, zero_ne_one_, px_in32L, cd_278]
      repeat' (first | (with_reducible apply And.intro) | (with_reducible refine px_br_intro (fun _ => ?_) (fun _ => ?_)))
      all_goals (try (first | (unfold px_in32; omega) | omega))
      refine ih (by omega) (by omega) (fun j j0 j1 => ?_)
      by_cases q : j = i
      · rw [q]; exact c4
      · exact hj j j0 (by omega)
    · simp only [px_go, px_Q0_at, px_sx_0, px_sx_s, px_cl, px_step, ↓px_ll, px_lg, f4_, ↓px_r1, ↓px_r2, ↓px_r4, ↓px_r5, ↓px_p1, ↓px_p2, ↓px_p3, ↓px_pop, px_k_0, px_k_s, px_k3_0, px_stk_, px_cats, px_ent, px_st1, px_st2, px_mask, ↓px_tsw, ↓px_lsw, ct_, mls_0, mls_1, mls_2, mls_3, mls_4, mls_5, kd_0, kd_1, kd_2, kd_3, ln_0, ln_1, ln_2, ln_3, gf_0, gf_1, gf_2, gf_3, gf_4, gf_7, gf_21, gf_63, dy_0, dy_1, dy_2, dy_3, dy_7, dy_21, px_brT, px_brF, true_and, and_true, and_false, false_and, and_self, true_implies, false_implies, or_true, true_or, or_false, false_or, eq_self, ne_eq, not_false_eq_true, not_true_eq_false, if_true, if_false, List.mem_cons, List.not_mem_nil, List.length_cons, List.length_nil, Nat.reduceEqDiff, Nat.reduceAdd, Nat.reduceSub, Nat.reduceLeDiff, Nat.reduceLT, Int.reduceEq, Int.reduceLT, Int.reduceLE, Int.reduceNeg, Int.reduceAdd, Int.reduceSub, Int.reduceToNat, ↓reduceIte, one_ne_zero_, zero_ne_one_, px_in32L, cd_278]
      refine h0 (fun z => c4 ?_)
      have := hm.mp z (i - 1) (by omega) (by omega)
      rw [show 0 + 1 + (i - 1) = i by omega] at this
      exact this
set_option maxHeartbeats 600000 in
set_option maxRecDepth 100000 in
theorem sp_isName {P : List Int} (hp : pth M 131 P) (h1 : ltr P → Q (some (0, 1)) M) (h0 : ¬ ltr P → Q (some (0, 0)) M) : px_Ok 278 [(2, 127)] LAY M Q := by
  refine px_ok_go (inl := []) (ls0 := [(2, 127), (9, 0)]) 60 (by decide) (Nat.le_of_ble_eq_true rfl) rfl ?_
  simp only [px_go, px_Q0_at, px_sx_0, px_sx_s, px_cl, px_step, ↓px_ll, px_lg, f4_, ↓px_r1, ↓px_r2, ↓px_r4, ↓px_r5, ↓px_p1, ↓px_p2, ↓px_p3, ↓px_pop, px_k_0, px_k_s, px_k3_0, px_stk_, px_cats, px_ent, px_st1, px_st2, px_mask, ↓px_tsw, ↓px_lsw, ct_, mls_0, mls_1, mls_2, mls_3, mls_4, mls_5, kd_0, kd_1, kd_2, kd_3, ln_0, ln_1, ln_2, ln_3, gf_0, gf_1, gf_2, gf_3, gf_4, gf_7, gf_21, gf_63, dy_0, dy_1, dy_2, dy_3, dy_7, dy_21, px_brT, px_brF, true_and, and_true, and_false, false_and, and_self, true_implies, false_implies, or_true, true_or, or_false, false_or, eq_self, ne_eq, not_false_eq_true, not_true_eq_false, if_true, if_false, List.mem_cons, List.not_mem_nil, List.length_cons, List.length_nil, Nat.reduceEqDiff, Nat.reduceAdd, Nat.reduceSub, Nat.reduceLeDiff, Nat.reduceLT, Int.reduceEq, Int.reduceLT, Int.reduceLE, Int.reduceNeg, Int.reduceAdd, Int.reduceSub, Int.reduceToNat, ↓reduceIte, one_ne_zero_, zero_ne_one_, px_in32L, cd_278]
  repeat' (first | (with_reducible apply And.intro) | (with_reducible refine px_br_intro (fun _ => ?_) (fun _ => ?_)))
  all_goals (try (first | (unfold px_in32; omega) | omega))
  exact lp_isName hp h1 h0 1 (by have := hp.2.2.2.1; omega) (Int.le_refl 1) (fun j j0 j1 => by omega)
set_option maxHeartbeats 600000 in
set_option maxRecDepth 100000 in
theorem sp_rnamed {Mc : px_mem} {q : Int} {pl : Int → Int → List Int} {nm : Int → List Int} (ht : 0 ≤ M 127 3 ∧ M 127 3 ≤ 160) (hT : TE Mc pl nm (M 128)) (h0 : ¬ wdq M q → Q (some (0, -1)) M) (h2 : ∀ M', wdq M q → brN Mc nm (tw (M 130) 0 q) < 0 → M' 128 = M 128 → out M' M → Q (some (0, -2)) M') (h1 : ∀ M', wdq M q → 0 ≤ brN Mc nm (tw (M 130) 0 q) → brN Mc nm (tw (M 130) 0 q) < Mc 20 1 → M' 128 = M 128 → out M' M → Q (some (0, Mc (Mc 21 (brN Mc nm (tw (M 130) 0 q))) 3)) M') : px_Ok 280 [(2, 127), (0, q)] LAY M Q := by
  refine px_ok_go (inl := [204]) (ls0 := [(2, 127), (0, q), (9, 0)]) 60 (by decide) (Nat.le_of_ble_eq_true rfl) rfl ?_
  simp only [px_go, px_Q0_at, px_sx_0, px_sx_s, px_cl, px_step, ↓px_ll, px_lg, f4_, ↓px_r1, ↓px_r2, ↓px_r4, ↓px_r5, ↓px_p1, ↓px_p2, ↓px_p3, ↓px_pop, px_k_0, px_k_s, px_k3_0, px_stk_, px_cats, px_ent, px_st1, px_st2, px_mask, ↓px_tsw, ↓px_lsw, ct_, mls_0, mls_1, mls_2, mls_3, mls_4, mls_5, kd_0, kd_1, kd_2, kd_3, ln_0, ln_1, ln_2, ln_3, gf_0, gf_1, gf_2, gf_3, gf_4, gf_7, gf_21, gf_63, dy_0, dy_1, dy_2, dy_3, dy_7, dy_21, px_brT, px_brF, true_and, and_true, and_false, false_and, and_self, true_implies, false_implies, or_true, true_or, or_false, false_or, eq_self, ne_eq, not_false_eq_true, not_true_eq_false, if_true, if_false, List.mem_cons, List.not_mem_nil, List.length_cons, List.length_nil, Nat.reduceEqDiff, Nat.reduceAdd, Nat.reduceSub, Nat.reduceLeDiff, Nat.reduceLT, Int.reduceEq, Int.reduceLT, Int.reduceLE, Int.reduceNeg, Int.reduceAdd, Int.reduceSub, Int.reduceToNat, ↓reduceIte, one_ne_zero_, zero_ne_one_, px_in32L, cd_280, cd_204]
  repeat' (first | (with_reducible apply And.intro) | (with_reducible refine px_br_intro (fun _ => ?_) (fun _ => ?_)))
  all_goals (try (first | (unfold px_in32; omega) | omega))
  have hTn := TE_n hT
  have hsb := brN_bd Mc nm (tw (M 130) 0 q)
  refine sp_areLaid ht (fun w => ?_) (fun w => ?_)
  · have hq : wdq M q := ⟨w.1, w.2.1, by omega⟩
    simp only [px_go, px_Q0_at, px_sx_0, px_sx_s, px_cl, px_step, ↓px_ll, px_lg, f4_, ↓px_r1, ↓px_r2, ↓px_r4, ↓px_r5, ↓px_p1, ↓px_p2, ↓px_p3, ↓px_pop, px_k_0, px_k_s, px_k3_0, px_stk_, px_cats, px_ent, px_st1, px_st2, px_mask, ↓px_tsw, ↓px_lsw, ct_, mls_0, mls_1, mls_2, mls_3, mls_4, mls_5, kd_0, kd_1, kd_2, kd_3, ln_0, ln_1, ln_2, ln_3, gf_0, gf_1, gf_2, gf_3, gf_4, gf_7, gf_21, gf_63, dy_0, dy_1, dy_2, dy_3, dy_7, dy_21, px_brT, px_brF, true_and, and_true, and_false, false_and, and_self, true_implies, false_implies, or_true, true_or, or_false, false_or, eq_self, ne_eq, not_false_eq_true, not_true_eq_false, if_true, if_false, List.mem_cons, List.not_mem_nil, List.length_cons, List.length_nil, Nat.reduceEqDiff, Nat.reduceAdd, Nat.reduceSub, Nat.reduceLeDiff, Nat.reduceLT, Int.reduceEq, Int.reduceLT, Int.reduceLE, Int.reduceNeg, Int.reduceAdd, Int.reduceSub, Int.reduceToNat, ↓reduceIte, one_ne_zero_, zero_ne_one_, px_in32L, cd_280, cd_204]
    refine sp_lay (Or.inl rfl) (by omega) (by omega) (fun M1 a1 a2 => ?_)
    have e128 : M1 128 = M 128 := a2 128 (by decide)
    have o2 : out M1 M := ⟨fun b b0 => a2 b (by omega), a2 130 (by decide), by rw [a2 127 (by decide)]⟩
    simp only [px_go, px_Q0_at, px_sx_0, px_sx_s, px_cl, px_step, ↓px_ll, px_lg, f4_, ↓px_r1, ↓px_r2, ↓px_r4, ↓px_r5, ↓px_p1, ↓px_p2, ↓px_p3, ↓px_pop, px_k_0, px_k_s, px_k3_0, px_stk_, px_cats, px_ent, px_st1, px_st2, px_mask, ↓px_tsw, ↓px_lsw, ct_, mls_0, mls_1, mls_2, mls_3, mls_4, mls_5, kd_0, kd_1, kd_2, kd_3, ln_0, ln_1, ln_2, ln_3, gf_0, gf_1, gf_2, gf_3, gf_4, gf_7, gf_21, gf_63, dy_0, dy_1, dy_2, dy_3, dy_7, dy_21, px_brT, px_brF, true_and, and_true, and_false, false_and, and_self, true_implies, false_implies, or_true, true_or, or_false, false_or, eq_self, ne_eq, not_false_eq_true, not_true_eq_false, if_true, if_false, List.mem_cons, List.not_mem_nil, List.length_cons, List.length_nil, Nat.reduceEqDiff, Nat.reduceAdd, Nat.reduceSub, Nat.reduceLeDiff, Nat.reduceLT, Int.reduceEq, Int.reduceLT, Int.reduceLE, Int.reduceNeg, Int.reduceAdd, Int.reduceSub, Int.reduceToNat, ↓reduceIte, one_ne_zero_, zero_ne_one_, px_in32L, cd_280, cd_204]
    refine sp_slotNamed (Mc := Mc) (pl := pl) (nm := nm) (by rw [e128]; exact hT) a1 ?_
    have h2 := h2 M1 hq
    have h1 := h1 M1 hq
    generalize brN Mc nm (tw (M 130) 0 q) = s at *
    have e0 : 0 ≤ s ∧ s < Mc 20 1 → M1 128 (1294 + 186 * s + 0) = Mc (Mc 21 s) 3 := fun z => by rw [e128]; exact (TE_e hT z.1 z.2).1
    simp only [px_go, px_Q0_at, px_sx_0, px_sx_s, px_cl, px_step, ↓px_ll, px_lg, f4_, ↓px_r1, ↓px_r2, ↓px_r4, ↓px_r5, ↓px_p1, ↓px_p2, ↓px_p3, ↓px_pop, px_k_0, px_k_s, px_k3_0, px_stk_, px_cats, px_ent, px_st1, px_st2, px_mask, ↓px_tsw, ↓px_lsw, ct_, mls_0, mls_1, mls_2, mls_3, mls_4, mls_5, kd_0, kd_1, kd_2, kd_3, ln_0, ln_1, ln_2, ln_3, gf_0, gf_1, gf_2, gf_3, gf_4, gf_7, gf_21, gf_63, dy_0, dy_1, dy_2, dy_3, dy_7, dy_21, px_brT, px_brF, true_and, and_true, and_false, false_and, and_self, true_implies, false_implies, or_true, true_or, or_false, false_or, eq_self, ne_eq, not_false_eq_true, not_true_eq_false, if_true, if_false, List.mem_cons, List.not_mem_nil, List.length_cons, List.length_nil, Nat.reduceEqDiff, Nat.reduceAdd, Nat.reduceSub, Nat.reduceLeDiff, Nat.reduceLT, Int.reduceEq, Int.reduceLT, Int.reduceLE, Int.reduceNeg, Int.reduceAdd, Int.reduceSub, Int.reduceToNat, ↓reduceIte, one_ne_zero_, zero_ne_one_, px_in32L, cd_280, cd_204]
    repeat' (first | (with_reducible apply And.intro) | (with_reducible refine px_br_intro (fun _ => ?_) (fun _ => ?_)))
    all_goals (try (first | (unfold px_in32; omega) | omega))
    · exact h2 (by omega) e128 o2
    · have e0' := e0 (by omega)
      have h1 := h1 (by omega) (by omega) e128 o2
      rw [← e0'] at h1
      exact h1
  · simp only [px_go, px_Q0_at, px_sx_0, px_sx_s, px_cl, px_step, ↓px_ll, px_lg, f4_, ↓px_r1, ↓px_r2, ↓px_r4, ↓px_r5, ↓px_p1, ↓px_p2, ↓px_p3, ↓px_pop, px_k_0, px_k_s, px_k3_0, px_stk_, px_cats, px_ent, px_st1, px_st2, px_mask, ↓px_tsw, ↓px_lsw, ct_, mls_0, mls_1, mls_2, mls_3, mls_4, mls_5, kd_0, kd_1, kd_2, kd_3, ln_0, ln_1, ln_2, ln_3, gf_0, gf_1, gf_2, gf_3, gf_4, gf_7, gf_21, gf_63, dy_0, dy_1, dy_2, dy_3, dy_7, dy_21, px_brT, px_brF, true_and, and_true, and_false, false_and, and_self, true_implies, false_implies, or_true, true_or, or_false, false_or, eq_self, ne_eq, not_false_eq_true, not_true_eq_false, if_true, if_false, List.mem_cons, List.not_mem_nil, List.length_cons, List.length_nil, Nat.reduceEqDiff, Nat.reduceAdd, Nat.reduceSub, Nat.reduceLeDiff, Nat.reduceLT, Int.reduceEq, Int.reduceLT, Int.reduceLE, Int.reduceNeg, Int.reduceAdd, Int.reduceSub, Int.reduceToNat, ↓reduceIte, one_ne_zero_, zero_ne_one_, px_in32L, cd_280, cd_204]
    exact h0 (fun z => w ⟨z.1, z.2.1, Int.le_refl 0, by decide, by have := z.2.2; omega⟩)
set_option maxHeartbeats 600000 in
set_option maxRecDepth 100000 in
theorem sp_rnameByte {Mc : px_mem} {num k : Int} {pl : Int → Int → List Int} {nm : Int → List Int} (hT : TE Mc pl nm (M 128)) (h0 : (slot Mc num < 0 ∨ k < 0) → Q (some (0, -1)) M) (h1 : 0 ≤ slot Mc num → slot Mc num < Mc 20 1 → 0 ≤ k → Q (some (0, if ((nm (slot Mc num)).length : Int) ≤ k then -2 else nth (nm (slot Mc num)) k)) M) : px_Ok 281 [(2, 127), (0, num), (0, k)] LAY M Q := by
  refine px_ok_go (inl := [204]) (ls0 := [(2, 127), (0, num), (0, k), (9, 0)]) 60 (by decide) (Nat.le_of_ble_eq_true rfl) rfl ?_
  simp only [px_go, px_Q0_at, px_sx_0, px_sx_s, px_cl, px_step, ↓px_ll, px_lg, f4_, ↓px_r1, ↓px_r2, ↓px_r4, ↓px_r5, ↓px_p1, ↓px_p2, ↓px_p3, ↓px_pop, px_k_0, px_k_s, px_k3_0, px_stk_, px_cats, px_ent, px_st1, px_st2, px_mask, ↓px_tsw, ↓px_lsw, ct_, mls_0, mls_1, mls_2, mls_3, mls_4, mls_5, kd_0, kd_1, kd_2, kd_3, ln_0, ln_1, ln_2, ln_3, gf_0, gf_1, gf_2, gf_3, gf_4, gf_7, gf_21, gf_63, dy_0, dy_1, dy_2, dy_3, dy_7, dy_21, px_brT, px_brF, true_and, and_true, and_false, false_and, and_self, true_implies, false_implies, or_true, true_or, or_false, false_or, eq_self, ne_eq, not_false_eq_true, not_true_eq_false, if_true, if_false, List.mem_cons, List.not_mem_nil, List.length_cons, List.length_nil, Nat.reduceEqDiff, Nat.reduceAdd, Nat.reduceSub, Nat.reduceLeDiff, Nat.reduceLT, Int.reduceEq, Int.reduceLT, Int.reduceLE, Int.reduceNeg, Int.reduceAdd, Int.reduceSub, Int.reduceToNat, ↓reduceIte, one_ne_zero_, zero_ne_one_, px_in32L, cd_281, cd_204]
  repeat' (first | (with_reducible apply And.intro) | (with_reducible refine px_br_intro (fun _ => ?_) (fun _ => ?_)))
  all_goals (try (first | (unfold px_in32; omega) | omega))
  have hTn := TE_n hT
  have hsb := slot_bd Mc num
  refine sp_slotT hT ?_
  generalize hsl : slot Mc num = s at *
  have e4 : 0 ≤ s ∧ s < Mc 20 1 → (M 128 (1294 + 186 * s + 4) = ((nm s).length : Int) ∧ (0 ≤ M 128 (1294 + 186 * s + 4) ∧ M 128 (1294 + 186 * s + 4) ≤ 12) ∧ ∀ j, 0 ≤ j → j < ((nm s).length : Int) → nth (nm s) j = M 128 (1294 + 186 * s + 4 + 1 + j)) := fun q => by
    have ht := (hT.2.2.2 s q.1 q.2).2.1
    have el := fp_len ht.2.2.1
    rw [ht.1] at el
    refine ⟨el.symm, ⟨ht.2.2.1, ht.2.2.2.1⟩, fun j j0 j1 => ?_⟩
    have e := lst_nth (nm s)
    rw [el] at e
    have e2 : lst (nth (nm s)) (M 128 (1294 + 186 * s + 4)) = lst (fun k => M 128 (1294 + 186 * s + 4 + 1 + k)) (M 128 (1294 + 186 * s + 4)) := e.trans ht.1.symm
    exact lst_at e2 j0 (by omega)
  simp only [px_go, px_Q0_at, px_sx_0, px_sx_s, px_cl, px_step, ↓px_ll, px_lg, f4_, ↓px_r1, ↓px_r2, ↓px_r4, ↓px_r5, ↓px_p1, ↓px_p2, ↓px_p3, ↓px_pop, px_k_0, px_k_s, px_k3_0, px_stk_, px_cats, px_ent, px_st1, px_st2, px_mask, ↓px_tsw, ↓px_lsw, ct_, mls_0, mls_1, mls_2, mls_3, mls_4, mls_5, kd_0, kd_1, kd_2, kd_3, ln_0, ln_1, ln_2, ln_3, gf_0, gf_1, gf_2, gf_3, gf_4, gf_7, gf_21, gf_63, dy_0, dy_1, dy_2, dy_3, dy_7, dy_21, px_brT, px_brF, true_and, and_true, and_false, false_and, and_self, true_implies, false_implies, or_true, true_or, or_false, false_or, eq_self, ne_eq, not_false_eq_true, not_true_eq_false, if_true, if_false, List.mem_cons, List.not_mem_nil, List.length_cons, List.length_nil, Nat.reduceEqDiff, Nat.reduceAdd, Nat.reduceSub, Nat.reduceLeDiff, Nat.reduceLT, Int.reduceEq, Int.reduceLT, Int.reduceLE, Int.reduceNeg, Int.reduceAdd, Int.reduceSub, Int.reduceToNat, ↓reduceIte, one_ne_zero_, zero_ne_one_, px_in32L, cd_281, cd_204]
  repeat' (first | (with_reducible apply And.intro) | (with_reducible refine px_br_intro (fun _ => ?_) (fun _ => ?_)))
  all_goals (try (first | (unfold px_in32; omega) | omega))
  all_goals (try (have e4' := e4 (by omega)))
  all_goals (try (first | (unfold px_in32; omega) | omega))
  · exact h0 (Or.inl (by omega))
  · rename_i c1 c2 c3
    have h1 := h1 (by omega) (by omega) (by omega)
    rw [if_pos (by omega)] at h1
    exact h1
  · rename_i c1 c2 c3
    have h1 := h1 (by omega) (by omega) (by omega)
    rw [if_neg (by omega), e4'.2.2 k (by omega) (by omega)] at h1
    exact h1
  · exact h0 (Or.inr (by omega))
set_option maxHeartbeats 600000 in
set_option maxRecDepth 100000 in
theorem sp_rname {Mc : px_mem} {num q : Int} {pl : Int → Int → List Int} {nm : Int → List Int} (ht : 0 ≤ M 127 3 ∧ M 127 3 ≤ 160) (hT : TE Mc pl nm (M 128)) (h0 : ¬ (0 ≤ q ∧ q ≤ 12 ∧ q ≤ M 127 3) → Q (some (0, -1)) M) (h2 : ∀ M', (0 ≤ q ∧ q ≤ 12 ∧ q ≤ M 127 3) → slot Mc num < 0 → M' 128 = M 128 → out0 M' M → Q (some (0, -2)) M') (h3 : ∀ M', (0 ≤ q ∧ q ≤ 12 ∧ q ≤ M 127 3) → 0 ≤ slot Mc num → ¬ ltr (tw (M 130) 0 q) → M' 128 = M 128 → out0 M' M → Q (some (0, -3)) M') (h4 : ∀ M', (0 ≤ q ∧ q ≤ 12 ∧ q ≤ M 127 3) → 0 ≤ slot Mc num → ltr (tw (M 130) 0 q) → 0 ≤ brN Mc nm (tw (M 130) 0 q) → brN Mc nm (tw (M 130) 0 q) ≠ slot Mc num → M' 128 = M 128 → out0 M' M → Q (some (0, -4)) M') (h1 : ∀ M', (0 ≤ q ∧ q ≤ 12 ∧ q ≤ M 127 3) → 0 ≤ slot Mc num → slot Mc num < Mc 20 1 → ltr (tw (M 130) 0 q) → (brN Mc nm (tw (M 130) 0 q) < 0 ∨ brN Mc nm (tw (M 130) 0 q) = slot Mc num) → fp (M' 128) (1294 + 186 * slot Mc num + 4) = tw (M 130) 0 q → pok (M' 128) (1294 + 186 * slot Mc num + 4) 3154 → (∀ x, ¬ (1294 + 186 * slot Mc num + 4 ≤ x ∧ x < 1294 + 186 * slot Mc num + 4 + 13) → M' 128 x = M 128 x) → out0 M' M → Q (some (0, q)) M') : px_Ok 279 [(2, 127), (0, num), (0, q)] LAY M Q := by
  refine px_ok_go (inl := [170, 204]) (ls0 := [(2, 127), (0, num), (0, q), (9, 0), (9, 0)]) 60 (by decide) (Nat.le_of_ble_eq_true rfl) rfl ?_
  simp only [px_go, px_Q0_at, px_sx_0, px_sx_s, px_cl, px_step, ↓px_ll, px_lg, f4_, ↓px_r1, ↓px_r2, ↓px_r4, ↓px_r5, ↓px_p1, ↓px_p2, ↓px_p3, ↓px_pop, px_k_0, px_k_s, px_k3_0, px_stk_, px_cats, px_ent, px_st1, px_st2, px_mask, ↓px_tsw, ↓px_lsw, ct_, mls_0, mls_1, mls_2, mls_3, mls_4, mls_5, kd_0, kd_1, kd_2, kd_3, ln_0, ln_1, ln_2, ln_3, gf_0, gf_1, gf_2, gf_3, gf_4, gf_7, gf_21, gf_63, dy_0, dy_1, dy_2, dy_3, dy_7, dy_21, px_brT, px_brF, true_and, and_true, and_false, false_and, and_self, true_implies, false_implies, or_true, true_or, or_false, false_or, eq_self, ne_eq, not_false_eq_true, not_true_eq_false, if_true, if_false, List.mem_cons, List.not_mem_nil, List.length_cons, List.length_nil, Nat.reduceEqDiff, Nat.reduceAdd, Nat.reduceSub, Nat.reduceLeDiff, Nat.reduceLT, Int.reduceEq, Int.reduceLT, Int.reduceLE, Int.reduceNeg, Int.reduceAdd, Int.reduceSub, Int.reduceToNat, ↓reduceIte, one_ne_zero_, zero_ne_one_, px_in32L, cd_279, cd_170, cd_204]
  repeat' (first | (with_reducible apply And.intro) | (with_reducible refine px_br_intro (fun _ => ?_) (fun _ => ?_)))
  all_goals (try (first | (unfold px_in32; omega) | omega))
  all_goals (try exact h0 (by omega))
  have hTn := TE_n hT
  have hsb := slot_bd Mc num
  have hnb := brN_bd Mc nm (tw (M 130) 0 q)
  have hq : 0 ≤ q ∧ q ≤ 12 ∧ q ≤ M 127 3 := by omega
  refine sp_lay (Or.inl rfl) (by omega) (by omega) (fun M1 a1 a2 => ?_)
  have f130 : px_up M 127 3 0 130 = M 130 := row_ne (by decide)
  rw [f130] at a1
  have e128 : M1 128 = M 128 := by rw [a2 128 (by decide), row_ne (by decide)]
  have o2 : out0 M1 M := ⟨fun b b0 => by rw [a2 b (by omega), row_ne (by omega)], by rw [a2 130 (by decide), f130], by rw [a2 127 (by decide), px_up_at, if_pos ⟨rfl, rfl⟩]⟩
  have hTM : TE Mc pl nm (M1 128) := by rw [e128]; exact hT
  simp only [px_go, px_Q0_at, px_sx_0, px_sx_s, px_cl, px_step, ↓px_ll, px_lg, f4_, ↓px_r1, ↓px_r2, ↓px_r4, ↓px_r5, ↓px_p1, ↓px_p2, ↓px_p3, ↓px_pop, px_k_0, px_k_s, px_k3_0, px_stk_, px_cats, px_ent, px_st1, px_st2, px_mask, ↓px_tsw, ↓px_lsw, ct_, mls_0, mls_1, mls_2, mls_3, mls_4, mls_5, kd_0, kd_1, kd_2, kd_3, ln_0, ln_1, ln_2, ln_3, gf_0, gf_1, gf_2, gf_3, gf_4, gf_7, gf_21, gf_63, dy_0, dy_1, dy_2, dy_3, dy_7, dy_21, px_brT, px_brF, true_and, and_true, and_false, false_and, and_self, true_implies, false_implies, or_true, true_or, or_false, false_or, eq_self, ne_eq, not_false_eq_true, not_true_eq_false, if_true, if_false, List.mem_cons, List.not_mem_nil, List.length_cons, List.length_nil, Nat.reduceEqDiff, Nat.reduceAdd, Nat.reduceSub, Nat.reduceLeDiff, Nat.reduceLT, Int.reduceEq, Int.reduceLT, Int.reduceLE, Int.reduceNeg, Int.reduceAdd, Int.reduceSub, Int.reduceToNat, ↓reduceIte, one_ne_zero_, zero_ne_one_, px_in32L, cd_279, cd_170, cd_204]
  refine sp_slotT hTM ?_
  generalize hsl : slot Mc num = s at *
  simp only [px_go, px_Q0_at, px_sx_0, px_sx_s, px_cl, px_step, ↓px_ll, px_lg, f4_, ↓px_r1, ↓px_r2, ↓px_r4, ↓px_r5, ↓px_p1, ↓px_p2, ↓px_p3, ↓px_pop, px_k_0, px_k_s, px_k3_0, px_stk_, px_cats, px_ent, px_st1, px_st2, px_mask, ↓px_tsw, ↓px_lsw, ct_, mls_0, mls_1, mls_2, mls_3, mls_4, mls_5, kd_0, kd_1, kd_2, kd_3, ln_0, ln_1, ln_2, ln_3, gf_0, gf_1, gf_2, gf_3, gf_4, gf_7, gf_21, gf_63, dy_0, dy_1, dy_2, dy_3, dy_7, dy_21, px_brT, px_brF, true_and, and_true, and_false, false_and, and_self, true_implies, false_implies, or_true, true_or, or_false, false_or, eq_self, ne_eq, not_false_eq_true, not_true_eq_false, if_true, if_false, List.mem_cons, List.not_mem_nil, List.length_cons, List.length_nil, Nat.reduceEqDiff, Nat.reduceAdd, Nat.reduceSub, Nat.reduceLeDiff, Nat.reduceLT, Int.reduceEq, Int.reduceLT, Int.reduceLE, Int.reduceNeg, Int.reduceAdd, Int.reduceSub, Int.reduceToNat, ↓reduceIte, one_ne_zero_, zero_ne_one_, px_in32L, cd_279, cd_170, cd_204]
  repeat' (first | (with_reducible apply And.intro) | (with_reducible refine px_br_intro (fun _ => ?_) (fun _ => ?_)))
  all_goals (try (first | (unfold px_in32; omega) | omega))
  · exact h2 M1 hq (by omega) e128 o2
  · rename_i c1
    have hs' : 0 ≤ s ∧ s < Mc 20 1 := by omega
    refine sp_isName a1 (fun v => ?_) (fun v => ?_)
    · simp only [px_go, px_Q0_at, px_sx_0, px_sx_s, px_cl, px_step, ↓px_ll, px_lg, f4_, ↓px_r1, ↓px_r2, ↓px_r4, ↓px_r5, ↓px_p1, ↓px_p2, ↓px_p3, ↓px_pop, px_k_0, px_k_s, px_k3_0, px_stk_, px_cats, px_ent, px_st1, px_st2, px_mask, ↓px_tsw, ↓px_lsw, ct_, mls_0, mls_1, mls_2, mls_3, mls_4, mls_5, kd_0, kd_1, kd_2, kd_3, ln_0, ln_1, ln_2, ln_3, gf_0, gf_1, gf_2, gf_3, gf_4, gf_7, gf_21, gf_63, dy_0, dy_1, dy_2, dy_3, dy_7, dy_21, px_brT, px_brF, true_and, and_true, and_false, false_and, and_self, true_implies, false_implies, or_true, true_or, or_false, false_or, eq_self, ne_eq, not_false_eq_true, not_true_eq_false, if_true, if_false, List.mem_cons, List.not_mem_nil, List.length_cons, List.length_nil, Nat.reduceEqDiff, Nat.reduceAdd, Nat.reduceSub, Nat.reduceLeDiff, Nat.reduceLT, Int.reduceEq, Int.reduceLT, Int.reduceLE, Int.reduceNeg, Int.reduceAdd, Int.reduceSub, Int.reduceToNat, ↓reduceIte, one_ne_zero_, zero_ne_one_, px_in32L, cd_279, cd_170, cd_204]
      refine sp_slotNamed hTM a1 ?_
      have h4 := h4 M1 hq hs'.1 v
      have h1 := fun M' => h1 M' hq hs'.1 hs'.2 v
      generalize brN Mc nm (tw (M 130) 0 q) = b at *
      have hcp : (b < 0 ∨ b = s) → ∀ M2 : px_mem, (∀ x, M2 128 x = if 1294 + 186 * s + 4 ≤ x ∧ x < 1294 + 186 * s + 4 + 13 then M1 131 (0 + (x - (1294 + 186 * s + 4))) else M1 128 x) → (∀ c, c ≠ 128 → M2 c = M1 c) → Q (some (0, q)) M2 := fun z M2 b1' b2 => by
        have hce : ∀ y, 0 ≤ y → y < 13 → M2 128 (1294 + 186 * s + 4 + y) = M1 131 (0 + y) := fun y y0 y1 => by
          rw [b1', if_pos (by omega), show 1294 + 186 * s + 4 + y - (1294 + 186 * s + 4) = y by omega]
        refine h1 M2 z ?_ (pok_congr hce a1.2.2 (by omega)) (fun x x0 => by rw [b1' x, if_neg x0, e128]) ⟨fun c c0 => by rw [b2 c (by omega)]; exact o2.1 c c0, by rw [b2 130 (by decide)]; exact o2.2.1, by rw [b2 127 (by decide)]; exact o2.2.2⟩
        rw [fp_congr hce a1.2.2.2.2.1]; exact a1.2.1
      simp only [px_go, px_Q0_at, px_sx_0, px_sx_s, px_cl, px_step, ↓px_ll, px_lg, f4_, ↓px_r1, ↓px_r2, ↓px_r4, ↓px_r5, ↓px_p1, ↓px_p2, ↓px_p3, ↓px_pop, px_k_0, px_k_s, px_k3_0, px_stk_, px_cats, px_ent, px_st1, px_st2, px_mask, ↓px_tsw, ↓px_lsw, ct_, mls_0, mls_1, mls_2, mls_3, mls_4, mls_5, kd_0, kd_1, kd_2, kd_3, ln_0, ln_1, ln_2, ln_3, gf_0, gf_1, gf_2, gf_3, gf_4, gf_7, gf_21, gf_63, dy_0, dy_1, dy_2, dy_3, dy_7, dy_21, px_brT, px_brF, true_and, and_true, and_false, false_and, and_self, true_implies, false_implies, or_true, true_or, or_false, false_or, eq_self, ne_eq, not_false_eq_true, not_true_eq_false, if_true, if_false, List.mem_cons, List.not_mem_nil, List.length_cons, List.length_nil, Nat.reduceEqDiff, Nat.reduceAdd, Nat.reduceSub, Nat.reduceLeDiff, Nat.reduceLT, Int.reduceEq, Int.reduceLT, Int.reduceLE, Int.reduceNeg, Int.reduceAdd, Int.reduceSub, Int.reduceToNat, ↓reduceIte, one_ne_zero_, zero_ne_one_, px_in32L, cd_279, cd_170, cd_204]
      repeat' (first | (with_reducible apply And.intro) | (with_reducible refine px_br_intro (fun _ => ?_) (fun _ => ?_)))
      all_goals (try (first | (unfold px_in32; omega) | omega))
      · rename_i c2
        refine sp_copiesPath rfl rfl ⟨by decide, by decide⟩ ⟨by omega, by show _ ≤ (3154 : Int); omega⟩ ⟨by decide, by decide⟩ (Or.inl (by decide)) (fun M2 b1' b2 => ?_)
        simp only [px_go, px_Q0_at, px_sx_0, px_sx_s, px_cl, px_step, ↓px_ll, px_lg, f4_, ↓px_r1, ↓px_r2, ↓px_r4, ↓px_r5, ↓px_p1, ↓px_p2, ↓px_p3, ↓px_pop, px_k_0, px_k_s, px_k3_0, px_stk_, px_cats, px_ent, px_st1, px_st2, px_mask, ↓px_tsw, ↓px_lsw, ct_, mls_0, mls_1, mls_2, mls_3, mls_4, mls_5, kd_0, kd_1, kd_2, kd_3, ln_0, ln_1, ln_2, ln_3, gf_0, gf_1, gf_2, gf_3, gf_4, gf_7, gf_21, gf_63, dy_0, dy_1, dy_2, dy_3, dy_7, dy_21, px_brT, px_brF, true_and, and_true, and_false, false_and, and_self, true_implies, false_implies, or_true, true_or, or_false, false_or, eq_self, ne_eq, not_false_eq_true, not_true_eq_false, if_true, if_false, List.mem_cons, List.not_mem_nil, List.length_cons, List.length_nil, Nat.reduceEqDiff, Nat.reduceAdd, Nat.reduceSub, Nat.reduceLeDiff, Nat.reduceLT, Int.reduceEq, Int.reduceLT, Int.reduceLE, Int.reduceNeg, Int.reduceAdd, Int.reduceSub, Int.reduceToNat, ↓reduceIte, one_ne_zero_, zero_ne_one_, px_in32L, cd_279, cd_170, cd_204]
        exact hcp (Or.inl (by omega)) M2 b1' b2
      · rename_i c2 c3
        refine sp_copiesPath rfl rfl ⟨by decide, by decide⟩ ⟨by omega, by show _ ≤ (3154 : Int); omega⟩ ⟨by decide, by decide⟩ (Or.inl (by decide)) (fun M2 b1' b2 => ?_)
        simp only [px_go, px_Q0_at, px_sx_0, px_sx_s, px_cl, px_step, ↓px_ll, px_lg, f4_, ↓px_r1, ↓px_r2, ↓px_r4, ↓px_r5, ↓px_p1, ↓px_p2, ↓px_p3, ↓px_pop, px_k_0, px_k_s, px_k3_0, px_stk_, px_cats, px_ent, px_st1, px_st2, px_mask, ↓px_tsw, ↓px_lsw, ct_, mls_0, mls_1, mls_2, mls_3, mls_4, mls_5, kd_0, kd_1, kd_2, kd_3, ln_0, ln_1, ln_2, ln_3, gf_0, gf_1, gf_2, gf_3, gf_4, gf_7, gf_21, gf_63, dy_0, dy_1, dy_2, dy_3, dy_7, dy_21, px_brT, px_brF, true_and, and_true, and_false, false_and, and_self, true_implies, false_implies, or_true, true_or, or_false, false_or, eq_self, ne_eq, not_false_eq_true, not_true_eq_false, if_true, if_false, List.mem_cons, List.not_mem_nil, List.length_cons, List.length_nil, Nat.reduceEqDiff, Nat.reduceAdd, Nat.reduceSub, Nat.reduceLeDiff, Nat.reduceLT, Int.reduceEq, Int.reduceLT, Int.reduceLE, Int.reduceNeg, Int.reduceAdd, Int.reduceSub, Int.reduceToNat, ↓reduceIte, one_ne_zero_, zero_ne_one_, px_in32L, cd_279, cd_170, cd_204]
        exact hcp (Or.inr c3) M2 b1' b2
      · rename_i c2 c3
        exact h4 (by omega) c3 e128 o2
    · simp only [px_go, px_Q0_at, px_sx_0, px_sx_s, px_cl, px_step, ↓px_ll, px_lg, f4_, ↓px_r1, ↓px_r2, ↓px_r4, ↓px_r5, ↓px_p1, ↓px_p2, ↓px_p3, ↓px_pop, px_k_0, px_k_s, px_k3_0, px_stk_, px_cats, px_ent, px_st1, px_st2, px_mask, ↓px_tsw, ↓px_lsw, ct_, mls_0, mls_1, mls_2, mls_3, mls_4, mls_5, kd_0, kd_1, kd_2, kd_3, ln_0, ln_1, ln_2, ln_3, gf_0, gf_1, gf_2, gf_3, gf_4, gf_7, gf_21, gf_63, dy_0, dy_1, dy_2, dy_3, dy_7, dy_21, px_brT, px_brF, true_and, and_true, and_false, false_and, and_self, true_implies, false_implies, or_true, true_or, or_false, false_or, eq_self, ne_eq, not_false_eq_true, not_true_eq_false, if_true, if_false, List.mem_cons, List.not_mem_nil, List.length_cons, List.length_nil, Nat.reduceEqDiff, Nat.reduceAdd, Nat.reduceSub, Nat.reduceLeDiff, Nat.reduceLT, Int.reduceEq, Int.reduceLT, Int.reduceLE, Int.reduceNeg, Int.reduceAdd, Int.reduceSub, Int.reduceToNat, ↓reduceIte, one_ne_zero_, zero_ne_one_, px_in32L, cd_279, cd_170, cd_204]
      exact h3 M1 hq hs'.1 v e128 o2
end PS
