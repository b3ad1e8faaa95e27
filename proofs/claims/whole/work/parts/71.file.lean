set_option maxRecDepth 100000 in
/-- X11_file -/
theorem cd_160 : px_at 160 0 = some (1, [], .iload_n 3, []) ∧ px_at 160 1 = some (4, [], .ifCond .lt 8, [9]) ∧ px_at 160 4 = some (5, [], .iload_n 3, []) ∧ px_at 160 5 = some (6, [], .iconst 2, []) ∧ px_at 160 6 = some (9, [], .if_icmp .le 5, [11]) ∧ px_at 160 9 = some (10, [], .iconst (-1), []) ∧ px_at 160 10 = some (11, [], .ireturn, [0]) ∧ px_at 160 11 = some (12, [], .iload_n 1, []) ∧ px_at 160 12 = some (13, [], .iconst (-1), []) ∧ px_at 160 13 = some (16, [], .if_icmp .ne 25, [38]) ∧ px_at 160 16 = some (17, [], .aload_n 0, []) ∧ px_at 160 17 = some (20, [], .getfield 19, [10, 1, 2, 1, 115]) ∧ px_at 160 20 = some (21, [], .iload_n 2, []) ∧ px_at 160 21 = some (24, [], .invokevirtual 411, [84, 1, 7, 200]) ∧ px_at 160 24 = some (27, [], .ifCond .eq 12, [36]) ∧ px_at 160 27 = some (28, [], .aload_n 0, []) ∧ px_at 160 28 = some (29, [], .iload_n 2, []) ∧ px_at 160 29 = some (30, [], .iload_n 3, []) ∧ px_at 160 30 = some (33, [], .invokevirtual 412, [161, 2, 10, 201]) ∧ px_at 160 33 = some (36, [], .goto 4, [37]) ∧ px_at 160 36 = some (37, [], .iconst (-1), []) ∧ px_at 160 37 = some (38, [], .ireturn, [0]) ∧ px_at 160 38 = some (39, [], .aload_n 0, []) ∧ px_at 160 39 = some (42, [], .getfield 26, [10, 2, 2, 1, 116]) ∧ px_at 160 42 = some (43, [], .iload_n 1, []) ∧ px_at 160 43 = some (46, [], .invokevirtual 162, [47, 1, 3, 61]) ∧ px_at 160 46 = some (48, [], .astore 4, []) ∧ px_at 160 48 = some (50, [], .aload 4, []) ∧ px_at 160 50 = some (53, [], .ifnull 12, [62]) ∧ px_at 160 53 = some (55, [], .aload 4, []) ∧ px_at 160 55 = some (56, [], .iload_n 2, []) ∧ px_at 160 56 = some (59, [], .invokevirtual 361, [36, 1, 2, 174]) ∧ px_at 160 59 = some (62, [], .ifCond .ne 5, [64]) ∧ px_at 160 62 = some (63, [], .iconst (-1), []) ∧ px_at 160 63 = some (64, [], .ireturn, [0]) ∧ px_at 160 64 = some (66, [], .aload 4, []) ∧ px_at 160 66 = some (69, [], .getfield 169, [2, 1, 2, 1, 28]) ∧ px_at 160 69 = some (70, [], .iload_n 2, []) ∧ px_at 160 70 = some (71, [], .iaload, []) ∧ px_at 160 71 = some (73, [], .istore 5, []) ∧ px_at 160 73 = some (74, [], .iload_n 3, []) ∧ px_at 160 74 = some (100, [], .lookupswitch 48 #[(0, 26), (1, 37)], [122, 0, 100, 1, 111]) ∧ px_at 160 100 = some (102, [], .aload 4, []) ∧ px_at 160 102 = some (105, [], .getfield 171, [2, 0, 2, 1, 23]) ∧ px_at 160 105 = some (106, [], .iload_n 2, []) ∧ px_at 160 106 = some (107, [], .laload, []) ∧ px_at 160 107 = some (110, [], .invokestatic 405, [63, 1, 0, 198]) ∧ px_at 160 110 = some (111, [], .ireturn, [0]) ∧ px_at 160 111 = some (112, [], .aload_n 0, []) ∧ px_at 160 112 = some (115, [], .getfield 42, [10, 4, 2, 1, 118]) ∧ px_at 160 115 = some (118, [], .getfield 318, [1, 0, 2, 1, 68]) ∧ px_at 160 118 = some (120, [], .iload 5, []) ∧ px_at 160 120 = some (121, [], .iaload, []) ∧ px_at 160 121 = some (122, [], .ireturn, [0]) ∧ px_at 160 122 = some (124, [], .iload 5, []) ∧ px_at 160 124 = some (125, [], .ireturn, [0]) := ⟨rfl, rfl, rfl, rfl, rfl, rfl, rfl, rfl, rfl, rfl, rfl, rfl, rfl, rfl, rfl, rfl, rfl, rfl, rfl, rfl, rfl, rfl, rfl, rfl, rfl, rfl, rfl, rfl, rfl, rfl, rfl, rfl, rfl, rfl, rfl, rfl, rfl, rfl, rfl, rfl, rfl, rfl, rfl, rfl, rfl, rfl, rfl, rfl, rfl, rfl, rfl, rfl, rfl, rfl, rfl, rfl⟩
set_option maxRecDepth 100000 in
/-- X11_stagedFile -/
theorem cd_161 : px_at 161 0 = some (1, [], .iload_n 2, []) ∧ px_at 161 1 = some (28, [], .lookupswitch 50 #[(0, 27), (1, 40)], [51, 0, 28, 1, 41]) ∧ px_at 161 28 = some (29, [], .aload_n 0, []) ∧ px_at 161 29 = some (32, [], .getfield 19, [10, 1, 2, 1, 115]) ∧ px_at 161 32 = some (35, [], .getfield 175, [7, 0, 2, 1, 6]) ∧ px_at 161 35 = some (36, [], .iload_n 1, []) ∧ px_at 161 36 = some (37, [], .laload, []) ∧ px_at 161 37 = some (40, [], .invokestatic 405, [63, 1, 0, 198]) ∧ px_at 161 40 = some (41, [], .ireturn, [0]) ∧ px_at 161 41 = some (42, [], .aload_n 0, []) ∧ px_at 161 42 = some (45, [], .getfield 19, [10, 1, 2, 1, 115]) ∧ px_at 161 45 = some (48, [], .getfield 183, [7, 1, 2, 1, 8]) ∧ px_at 161 48 = some (49, [], .iload_n 1, []) ∧ px_at 161 49 = some (50, [], .iaload, []) ∧ px_at 161 50 = some (51, [], .ireturn, [0]) ∧ px_at 161 51 = some (52, [], .aload_n 0, []) ∧ px_at 161 52 = some (55, [], .getfield 42, [10, 4, 2, 1, 118]) ∧ px_at 161 55 = some (56, [], .aload_n 0, []) ∧ px_at 161 56 = some (59, [], .getfield 19, [10, 1, 2, 1, 115]) ∧ px_at 161 59 = some (62, [], .getfield 180, [7, 2, 2, 1, 10]) ∧ px_at 161 62 = some (63, [], .iload_n 1, []) ∧ px_at 161 63 = some (64, [], .aaload, []) ∧ px_at 161 64 = some (65, [], .aload_n 0, []) ∧ px_at 161 65 = some (68, [], .getfield 19, [10, 1, 2, 1, 115]) ∧ px_at 161 68 = some (71, [], .getfield 183, [7, 1, 2, 1, 8]) ∧ px_at 161 71 = some (72, [], .iload_n 1, []) ∧ px_at 161 72 = some (73, [], .iaload, []) ∧ px_at 161 73 = some (76, [], .invokevirtual 190, [11, 2, 1, 69]) ∧ px_at 161 76 = some (77, [], .ireturn, [0]) := ⟨rfl, rfl, rfl, rfl, rfl, rfl, rfl, rfl, rfl, rfl, rfl, rfl, rfl, rfl, rfl, rfl, rfl, rfl, rfl, rfl, rfl, rfl, rfl, rfl, rfl, rfl, rfl, rfl, rfl⟩
set_option maxRecDepth 100000 in
/-- X11_at -/
theorem cd_162 : px_at 162 0 = some (2, [], .iload 4, []) ∧ px_at 162 2 = some (5, [], .ifCond .ge 5, [7]) ∧ px_at 162 5 = some (6, [], .iconst (-1), []) ∧ px_at 162 6 = some (7, [], .ireturn, [0]) ∧ px_at 162 7 = some (8, [], .iload_n 1, []) ∧ px_at 162 8 = some (9, [], .iconst (-1), []) ∧ px_at 162 9 = some (12, [], .if_icmp .ne 27, [36]) ∧ px_at 162 12 = some (13, [], .aload_n 0, []) ∧ px_at 162 13 = some (16, [], .getfield 19, [10, 1, 2, 1, 115]) ∧ px_at 162 16 = some (17, [], .iload_n 2, []) ∧ px_at 162 17 = some (20, [], .invokevirtual 411, [84, 1, 7, 200]) ∧ px_at 162 20 = some (23, [], .ifCond .eq 14, [34]) ∧ px_at 162 23 = some (24, [], .aload_n 0, []) ∧ px_at 162 24 = some (25, [], .iload_n 2, []) ∧ px_at 162 25 = some (26, [], .iload_n 3, []) ∧ px_at 162 26 = some (28, [], .iload 4, []) ∧ px_at 162 28 = some (31, [], .invokevirtual 415, [163, 3, 10, 203]) ∧ px_at 162 31 = some (34, [], .goto 4, [35]) ∧ px_at 162 34 = some (35, [], .iconst (-1), []) ∧ px_at 162 35 = some (36, [], .ireturn, [0]) ∧ px_at 162 36 = some (37, [], .aload_n 0, []) ∧ px_at 162 37 = some (40, [], .getfield 26, [10, 2, 2, 1, 116]) ∧ px_at 162 40 = some (41, [], .iload_n 1, []) ∧ px_at 162 41 = some (44, [], .invokevirtual 162, [47, 1, 3, 61]) ∧ px_at 162 44 = some (46, [], .astore 5, []) ∧ px_at 162 46 = some (48, [], .aload 5, []) ∧ px_at 162 48 = some (51, [], .ifnull 12, [60]) ∧ px_at 162 51 = some (53, [], .aload 5, []) ∧ px_at 162 53 = some (54, [], .iload_n 2, []) ∧ px_at 162 54 = some (57, [], .invokevirtual 361, [36, 1, 2, 174]) ∧ px_at 162 57 = some (60, [], .ifCond .ne 5, [62]) ∧ px_at 162 60 = some (61, [], .iconst (-1), []) ∧ px_at 162 61 = some (62, [], .ireturn, [0]) ∧ px_at 162 62 = some (63, [], .iload_n 3, []) ∧ px_at 162 63 = some (66, [], .ifCond .ne 16, [79]) ∧ px_at 162 66 = some (68, [], .aload 5, []) ∧ px_at 162 68 = some (71, [], .getfield 171, [2, 0, 2, 1, 23]) ∧ px_at 162 71 = some (72, [], .iload_n 2, []) ∧ px_at 162 72 = some (73, [], .laload, []) ∧ px_at 162 73 = some (75, [], .iload 4, []) ∧ px_at 162 75 = some (78, [], .invokestatic 258, [64, 2, 0, 123]) ∧ px_at 162 78 = some (79, [], .ireturn, [0]) ∧ px_at 162 79 = some (81, [], .aload 5, []) ∧ px_at 162 81 = some (84, [], .getfield 169, [2, 1, 2, 1, 28]) ∧ px_at 162 84 = some (85, [], .iload_n 2, []) ∧ px_at 162 85 = some (86, [], .iaload, []) ∧ px_at 162 86 = some (88, [], .istore 6, []) ∧ px_at 162 88 = some (90, [], .iload 4, []) ∧ px_at 162 90 = some (91, [], .aload_n 0, []) ∧ px_at 162 91 = some (94, [], .getfield 42, [10, 4, 2, 1, 118]) ∧ px_at 162 94 = some (97, [], .getfield 318, [1, 0, 2, 1, 68]) ∧ px_at 162 97 = some (99, [], .iload 6, []) ∧ px_at 162 99 = some (100, [], .iaload, []) ∧ px_at 162 100 = some (103, [], .if_icmp .lt 6, [106]) ∧ px_at 162 103 = some (105, [], .bipush (-2), []) ∧ px_at 162 105 = some (106, [], .ireturn, [0]) ∧ px_at 162 106 = some (107, [], .aload_n 0, []) ∧ px_at 162 107 = some (110, [], .getfield 42, [10, 4, 2, 1, 118]) ∧ px_at 162 110 = some (113, [], .getfield 419, [1, 7, 2, 1, 82]) ∧ px_at 162 113 = some (115, [], .iload 6, []) ∧ px_at 162 115 = some (116, [], .baload, []) ∧ px_at 162 116 = some (119, [], .ifCond .eq 19, [135]) ∧ px_at 162 119 = some (120, [], .aload_n 0, []) ∧ px_at 162 120 = some (123, [], .getfield 42, [10, 4, 2, 1, 118]) ∧ px_at 162 123 = some (126, [], .getfield 315, [1, 6, 2, 1, 80]) ∧ px_at 162 126 = some (128, [], .iload 6, []) ∧ px_at 162 128 = some (129, [], .aaload, []) ∧ px_at 162 129 = some (131, [], .iload 4, []) ∧ px_at 162 131 = some (132, [], .iaload, []) ∧ px_at 162 132 = some (135, [], .goto 5, [137]) ∧ px_at 162 135 = some (137, [], .bipush (-3), []) ∧ px_at 162 137 = some (138, [], .ireturn, [0]) := ⟨rfl, rfl, rfl, rfl, rfl, rfl, rfl, rfl, rfl, rfl, rfl, rfl, rfl, rfl, rfl, rfl, rfl, rfl, rfl, rfl, rfl, rfl, rfl, rfl, rfl, rfl, rfl, rfl, rfl, rfl, rfl, rfl, rfl, rfl, rfl, rfl, rfl, rfl, rfl, rfl, rfl, rfl, rfl, rfl, rfl, rfl, rfl, rfl, rfl, rfl, rfl, rfl, rfl, rfl, rfl, rfl, rfl, rfl, rfl, rfl, rfl, rfl, rfl, rfl, rfl, rfl, rfl, rfl, rfl, rfl, rfl, rfl⟩
set_option maxRecDepth 100000 in
/-- X11_stagedByte -/
theorem cd_163 : px_at 163 0 = some (1, [], .iload_n 2, []) ∧ px_at 163 1 = some (4, [], .ifCond .ne 17, [18]) ∧ px_at 163 4 = some (5, [], .aload_n 0, []) ∧ px_at 163 5 = some (8, [], .getfield 19, [10, 1, 2, 1, 115]) ∧ px_at 163 8 = some (11, [], .getfield 175, [7, 0, 2, 1, 6]) ∧ px_at 163 11 = some (12, [], .iload_n 1, []) ∧ px_at 163 12 = some (13, [], .laload, []) ∧ px_at 163 13 = some (14, [], .iload_n 3, []) ∧ px_at 163 14 = some (17, [], .invokestatic 258, [64, 2, 0, 123]) ∧ px_at 163 17 = some (18, [], .ireturn, [0]) ∧ px_at 163 18 = some (19, [], .iload_n 3, []) ∧ px_at 163 19 = some (20, [], .aload_n 0, []) ∧ px_at 163 20 = some (23, [], .getfield 19, [10, 1, 2, 1, 115]) ∧ px_at 163 23 = some (26, [], .getfield 183, [7, 1, 2, 1, 8]) ∧ px_at 163 26 = some (27, [], .iload_n 1, []) ∧ px_at 163 27 = some (28, [], .iaload, []) ∧ px_at 163 28 = some (31, [], .if_icmp .ge 17, [45]) ∧ px_at 163 31 = some (32, [], .aload_n 0, []) ∧ px_at 163 32 = some (35, [], .getfield 19, [10, 1, 2, 1, 115]) ∧ px_at 163 35 = some (38, [], .getfield 180, [7, 2, 2, 1, 10]) ∧ px_at 163 38 = some (39, [], .iload_n 1, []) ∧ px_at 163 39 = some (40, [], .aaload, []) ∧ px_at 163 40 = some (41, [], .iload_n 3, []) ∧ px_at 163 41 = some (42, [], .iaload, []) ∧ px_at 163 42 = some (45, [], .goto 5, [47]) ∧ px_at 163 45 = some (47, [], .bipush (-2), []) ∧ px_at 163 47 = some (48, [], .ireturn, [0]) := ⟨rfl, rfl, rfl, rfl, rfl, rfl, rfl, rfl, rfl, rfl, rfl, rfl, rfl, rfl, rfl, rfl, rfl, rfl, rfl, rfl, rfl, rfl, rfl, rfl, rfl, rfl, rfl⟩
/-! EditionVault: file, at, change -/
section PS
variable {M : px_mem} {Q : Option pv → px_mem → Prop}
set_option maxHeartbeats 600000 in
set_option maxRecDepth 100000 in
theorem sp_stagedFile {i w N : Int} {g : Int → fe} (hst : stC M N g) (hci : ci M) (hi : 0 ≤ i ∧ i < N) (h : Q (some (0, if w = 0 then ((g i).1.length : Int) else if w = 1 then ((g i).2.length : Int) else idx 40 (isFb M (g i).2))) M) : px_Ok 161 [(2, 1), (0, i), (0, w)] LAY M Q := by
  have fk := hst.2.2.2.2 i hi.1 hi.2
  have hN := hst.2.2.1
  have hrow := hst.2.2.2.1.1 i hi.1 (by omega)
  have hrl := row_lay (v := M 7 i) (Or.inl hrow)
  have hlen : (g i).2.length ≤ 40 := by have := fk.2.2.1; have := fk.2.2.2.1; omega
  have hb : lst (M (M 7 i)) ((g i).2.length : Int) = (g i).2 := by rw [← fk.2.2.1]; exact fk.2.2.2.2.1
  refine px_ok_go (inl := []) (ls0 := [(2, 1), (0, i), (0, w)]) 60 (by decide) (Nat.le_of_ble_eq_true rfl) rfl ?_
  simp only [px_go, px_Q0_at, px_sx_0, px_sx_s, px_cl, px_step, ↓px_ll, px_lg, f4_, ↓px_r1, ↓px_r2, ↓px_r4, ↓px_r5, ↓px_p1, ↓px_p2, ↓px_p3, ↓px_pop, px_k_0, px_k_s, px_k3_0, px_stk_, px_cats, px_ent, px_st1, px_st2, px_mask, ↓px_tsw, ↓px_lsw, ct_, mls_0, mls_1, mls_2, mls_3, mls_4, mls_5, kd_0, kd_1, kd_2, kd_3, ln_0, ln_1, ln_2, ln_3, gf_0, gf_1, gf_2, gf_3, gf_4, gf_7, gf_21, gf_63, dy_0, dy_1, dy_2, dy_3, dy_7, dy_21, px_brT, px_brF, true_and, and_true, and_false, false_and, and_self, true_implies, false_implies, or_true, true_or, or_false, false_or, eq_self, ne_eq, not_false_eq_true, not_true_eq_false, if_true, if_false, List.mem_cons, List.not_mem_nil, List.length_cons, List.length_nil, Nat.reduceEqDiff, Nat.reduceAdd, Nat.reduceSub, Nat.reduceLeDiff, Nat.reduceLT, Int.reduceEq, Int.reduceLT, Int.reduceLE, Int.reduceNeg, Int.reduceAdd, Int.reduceSub, Int.reduceToNat, ↓reduceIte, one_ne_zero_, zero_ne_one_, px_in32L, cd_161]
  repeat' (first | (with_reducible apply And.intro) | (with_reducible refine px_br_intro (fun _ => ?_) (fun _ => ?_)))
  all_goals (try (first | (unfold px_in32; omega) | omega))
  · intro z
    rw [if_pos z] at h
    repeat' (first | (with_reducible apply And.intro) | (with_reducible refine px_br_intro (fun _ => ?_) (fun _ => ?_)))
    all_goals (try (first | (unfold px_in32; omega) | omega))
    rw [fk.2.1]
    refine sp_lengthOf fk.1.2 fk.1.1 ?_
    simp only [px_go, px_Q0_at, px_sx_0, px_sx_s, px_cl, px_step, ↓px_ll, px_lg, f4_, ↓px_r1, ↓px_r2, ↓px_r4, ↓px_r5, ↓px_p1, ↓px_p2, ↓px_p3, ↓px_pop, px_k_0, px_k_s, px_k3_0, px_stk_, px_cats, px_ent, px_st1, px_st2, px_mask, ↓px_tsw, ↓px_lsw, ct_, mls_0, mls_1, mls_2, mls_3, mls_4, mls_5, kd_0, kd_1, kd_2, kd_3, ln_0, ln_1, ln_2, ln_3, gf_0, gf_1, gf_2, gf_3, gf_4, gf_7, gf_21, gf_63, dy_0, dy_1, dy_2, dy_3, dy_7, dy_21, px_brT, px_brF, true_and, and_true, and_false, false_and, and_self, true_implies, false_implies, or_true, true_or, or_false, false_or, eq_self, ne_eq, not_false_eq_true, not_true_eq_false, if_true, if_false, List.mem_cons, List.not_mem_nil, List.length_cons, List.length_nil, Nat.reduceEqDiff, Nat.reduceAdd, Nat.reduceSub, Nat.reduceLeDiff, Nat.reduceLT, Int.reduceEq, Int.reduceLT, Int.reduceLE, Int.reduceNeg, Int.reduceAdd, Int.reduceSub, Int.reduceToNat, ↓reduceIte, one_ne_zero_, zero_ne_one_, px_in32L, cd_161]
    exact h
  · intro z
    rw [if_neg z] at h
    refine ⟨fun z1 => ?_, fun z1 => ?_⟩
    · rw [if_pos z1] at h
      repeat' (first | (with_reducible apply And.intro) | (with_reducible refine px_br_intro (fun _ => ?_) (fun _ => ?_)))
      all_goals (try (first | (unfold px_in32; omega) | omega))
      rw [fk.2.2.1]; exact h
    · rw [if_neg z1] at h
      repeat' (first | (with_reducible apply And.intro) | (with_reducible refine px_br_intro (fun _ => ?_) (fun _ => ?_)))
      all_goals (try (first | (unfold px_in32; omega) | omega))
      rw [fk.2.2.1]
      refine sp_wholeWith (by omega) hrl.1 (by omega) (by omega) ?_
      have eidx : idx 40 (isF M (M 7 i) ((g i).2.length : Int)) = idx 40 (isFb M (g i).2) := idx_congr (fun c c0 c1 => by rw [isF_b hci.1 c0 c1 (by omega), hb])
      rw [eidx]
      simp only [px_go, px_Q0_at, px_sx_0, px_sx_s, px_cl, px_step, ↓px_ll, px_lg, f4_, ↓px_r1, ↓px_r2, ↓px_r4, ↓px_r5, ↓px_p1, ↓px_p2, ↓px_p3, ↓px_pop, px_k_0, px_k_s, px_k3_0, px_stk_, px_cats, px_ent, px_st1, px_st2, px_mask, ↓px_tsw, ↓px_lsw, ct_, mls_0, mls_1, mls_2, mls_3, mls_4, mls_5, kd_0, kd_1, kd_2, kd_3, ln_0, ln_1, ln_2, ln_3, gf_0, gf_1, gf_2, gf_3, gf_4, gf_7, gf_21, gf_63, dy_0, dy_1, dy_2, dy_3, dy_7, dy_21, px_brT, px_brF, true_and, and_true, and_false, false_and, and_self, true_implies, false_implies, or_true, true_or, or_false, false_or, eq_self, ne_eq, not_false_eq_true, not_true_eq_false, if_true, if_false, List.mem_cons, List.not_mem_nil, List.length_cons, List.length_nil, Nat.reduceEqDiff, Nat.reduceAdd, Nat.reduceSub, Nat.reduceLeDiff, Nat.reduceLT, Int.reduceEq, Int.reduceLT, Int.reduceLE, Int.reduceNeg, Int.reduceAdd, Int.reduceSub, Int.reduceToNat, ↓reduceIte, one_ne_zero_, zero_ne_one_, px_in32L, cd_161]
      exact h
set_option maxHeartbeats 600000 in
set_option maxRecDepth 100000 in
theorem sp_file {num i w N : Int} {pl : Int → Int → List Int} {nm : Int → List Int} {g : Int → fe} (hed : edA M pl nm) (hst : stC M N g) (hci : ci M) (h0 : (¬ (0 ≤ w ∧ w ≤ 2) ∨ (num = -1 ∧ ¬ (0 ≤ i ∧ i < N)) ∨ (num ≠ -1 ∧ (slot M num < 0 ∨ ¬ (0 ≤ i ∧ i < M (M 21 (slot M num)) 2)))) → Q (some (0, -1)) M) (hs : (0 ≤ w ∧ w ≤ 2) → num = -1 → (0 ≤ i ∧ i < N) → Q (some (0, if w = 0 then ((g i).1.length : Int) else if w = 1 then ((g i).2.length : Int) else idx 40 (isFb M (g i).2))) M) (he : (0 ≤ w ∧ w ≤ 2) → num ≠ -1 → 0 ≤ slot M num → slot M num < M 20 1 → (0 ≤ i ∧ i < M (M 21 (slot M num)) 2) → Q (some (0, if w = 0 then ((pl (slot M num) i).length : Int) else if w = 1 then M 57 (M (M 21 (slot M num) + 2) i) else M (M 21 (slot M num) + 2) i)) M) : px_Ok 160 [(2, 1), (0, num), (0, i), (0, w)] LAY M Q := by
  have hw := hed.1
  have hn := hw.2.2
  have hM := hst.1
  refine px_ok_go (inl := [36, 84]) (ls0 := [(2, 1), (0, num), (0, i), (0, w), (9, 0), (9, 0)]) 120 (by decide) (Nat.le_of_ble_eq_true rfl) rfl ?_
  simp only [px_go, px_Q0_at, px_sx_0, px_sx_s, px_cl, px_step, ↓px_ll, px_lg, f4_, ↓px_r1, ↓px_r2, ↓px_r4, ↓px_r5, ↓px_p1, ↓px_p2, ↓px_p3, ↓px_pop, px_k_0, px_k_s, px_k3_0, px_stk_, px_cats, px_ent, px_st1, px_st2, px_mask, ↓px_tsw, ↓px_lsw, ct_, mls_0, mls_1, mls_2, mls_3, mls_4, mls_5, kd_0, kd_1, kd_2, kd_3, ln_0, ln_1, ln_2, ln_3, gf_0, gf_1, gf_2, gf_3, gf_4, gf_7, gf_21, gf_63, dy_0, dy_1, dy_2, dy_3, dy_7, dy_21, px_brT, px_brF, true_and, and_true, and_false, false_and, and_self, true_implies, false_implies, or_true, true_or, or_false, false_or, eq_self, ne_eq, not_false_eq_true, not_true_eq_false, if_true, if_false, List.mem_cons, List.not_mem_nil, List.length_cons, List.length_nil, Nat.reduceEqDiff, Nat.reduceAdd, Nat.reduceSub, Nat.reduceLeDiff, Nat.reduceLT, Int.reduceEq, Int.reduceLT, Int.reduceLE, Int.reduceNeg, Int.reduceAdd, Int.reduceSub, Int.reduceToNat, ↓reduceIte, one_ne_zero_, zero_ne_one_, px_in32L, cd_160, cd_36, cd_84, hM]
  repeat' (first | (with_reducible apply And.intro) | (with_reducible refine px_br_intro (fun _ => ?_) (fun _ => ?_)))
  all_goals (try (first | (unfold px_in32; omega) | omega))
  all_goals (try exact h0 (Or.inl (by omega)))
  all_goals (try exact h0 (Or.inr (Or.inl (by omega))))
  · rename_i c1 c2 c3 c4 c5
    refine sp_stagedFile hst hci ⟨by omega, by omega⟩ ?_
    simp only [px_go, px_Q0_at, px_sx_0, px_sx_s, px_cl, px_step, ↓px_ll, px_lg, f4_, ↓px_r1, ↓px_r2, ↓px_r4, ↓px_r5, ↓px_p1, ↓px_p2, ↓px_p3, ↓px_pop, px_k_0, px_k_s, px_k3_0, px_stk_, px_cats, px_ent, px_st1, px_st2, px_mask, ↓px_tsw, ↓px_lsw, ct_, mls_0, mls_1, mls_2, mls_3, mls_4, mls_5, kd_0, kd_1, kd_2, kd_3, ln_0, ln_1, ln_2, ln_3, gf_0, gf_1, gf_2, gf_3, gf_4, gf_7, gf_21, gf_63, dy_0, dy_1, dy_2, dy_3, dy_7, dy_21, px_brT, px_brF, true_and, and_true, and_false, false_and, and_self, true_implies, false_implies, or_true, true_or, or_false, false_or, eq_self, ne_eq, not_false_eq_true, not_true_eq_false, if_true, if_false, List.mem_cons, List.not_mem_nil, List.length_cons, List.length_nil, Nat.reduceEqDiff, Nat.reduceAdd, Nat.reduceSub, Nat.reduceLeDiff, Nat.reduceLT, Int.reduceEq, Int.reduceLT, Int.reduceLE, Int.reduceNeg, Int.reduceAdd, Int.reduceSub, Int.reduceToNat, ↓reduceIte, one_ne_zero_, zero_ne_one_, px_in32L, cd_160, cd_36, cd_84]
    exact hs (by omega) c3 (by omega)
  · rename_i c1 c2 c3
    refine sp_numbered hw ?_
    unfold edR
    have hsr := slot_rng (M := M) num
    generalize slot M num = s at *
    by_cases qs : s < 0
    · rw [if_pos qs]
      simp only [px_go, px_Q0_at, px_sx_0, px_sx_s, px_cl, px_step, ↓px_ll, px_lg, f4_, ↓px_r1, ↓px_r2, ↓px_r4, ↓px_r5, ↓px_p1, ↓px_p2, ↓px_p3, ↓px_pop, px_k_0, px_k_s, px_k3_0, px_stk_, px_cats, px_ent, px_st1, px_st2, px_mask, ↓px_tsw, ↓px_lsw, ct_, mls_0, mls_1, mls_2, mls_3, mls_4, mls_5, kd_0, kd_1, kd_2, kd_3, ln_0, ln_1, ln_2, ln_3, gf_0, gf_1, gf_2, gf_3, gf_4, gf_7, gf_21, gf_63, dy_0, dy_1, dy_2, dy_3, dy_7, dy_21, px_brT, px_brF, true_and, and_true, and_false, false_and, and_self, true_implies, false_implies, or_true, true_or, or_false, false_or, eq_self, ne_eq, not_false_eq_true, not_true_eq_false, if_true, if_false, List.mem_cons, List.not_mem_nil, List.length_cons, List.length_nil, Nat.reduceEqDiff, Nat.reduceAdd, Nat.reduceSub, Nat.reduceLeDiff, Nat.reduceLT, Int.reduceEq, Int.reduceLT, Int.reduceLE, Int.reduceNeg, Int.reduceAdd, Int.reduceSub, Int.reduceToNat, ↓reduceIte, one_ne_zero_, zero_ne_one_, px_in32L, cd_160, cd_36, cd_84]
      exact h0 (Or.inr (Or.inr ⟨c3, Or.inl qs⟩))
    · rw [if_neg qs]
      have hE := hw.1 s (by omega) (by omega)
      have hem := isE_m hE.1
      have hel := isE_lay hE.1
      have heg := isE_gf hE.1
      have hei := hed.2 s (by omega) (by omega)
      have hn12 := hei.1.2.1
      simp only [px_go, px_Q0_at, px_sx_0, px_sx_s, px_cl, px_step, ↓px_ll, px_lg, f4_, ↓px_r1, ↓px_r2, ↓px_r4, ↓px_r5, ↓px_p1, ↓px_p2, ↓px_p3, ↓px_pop, px_k_0, px_k_s, px_k3_0, px_stk_, px_cats, px_ent, px_st1, px_st2, px_mask, ↓px_tsw, ↓px_lsw, ct_, mls_0, mls_1, mls_2, mls_3, mls_4, mls_5, kd_0, kd_1, kd_2, kd_3, ln_0, ln_1, ln_2, ln_3, gf_0, gf_1, gf_2, gf_3, gf_4, gf_7, gf_21, gf_63, dy_0, dy_1, dy_2, dy_3, dy_7, dy_21, px_brT, px_brF, true_and, and_true, and_false, false_and, and_self, true_implies, false_implies, or_true, true_or, or_false, false_or, eq_self, ne_eq, not_false_eq_true, not_true_eq_false, if_true, if_false, List.mem_cons, List.not_mem_nil, List.length_cons, List.length_nil, Nat.reduceEqDiff, Nat.reduceAdd, Nat.reduceSub, Nat.reduceLeDiff, Nat.reduceLT, Int.reduceEq, Int.reduceLT, Int.reduceLE, Int.reduceNeg, Int.reduceAdd, Int.reduceSub, Int.reduceToNat, ↓reduceIte, one_ne_zero_, zero_ne_one_, px_in32L, cd_160, cd_36, cd_84, hel, heg]
      repeat' (first | (with_reducible apply And.intro) | (with_reducible refine px_br_intro (fun _ => ?_) (fun _ => ?_)))
      all_goals (try (first | (unfold px_in32; omega) | omega))
      all_goals (try exact h0 (Or.inr (Or.inr ⟨c3, Or.inr (by omega)⟩)))
      · intro z
        have hj := hei.1.2.2 i (by omega) (by omega)
        have he := he (by omega) c3 (by omega) (by omega) (by omega)
        rw [if_pos z] at he
        repeat' (first | (with_reducible apply And.intro) | (with_reducible refine px_br_intro (fun _ => ?_) (fun _ => ?_)))
        all_goals (try (first | (unfold px_in32; omega) | omega))
        rw [hj.2.1]
        refine sp_lengthOf hj.1.2 hj.1.1 ?_
        simp only [px_go, px_Q0_at, px_sx_0, px_sx_s, px_cl, px_step, ↓px_ll, px_lg, f4_, ↓px_r1, ↓px_r2, ↓px_r4, ↓px_r5, ↓px_p1, ↓px_p2, ↓px_p3, ↓px_pop, px_k_0, px_k_s, px_k3_0, px_stk_, px_cats, px_ent, px_st1, px_st2, px_mask, ↓px_tsw, ↓px_lsw, ct_, mls_0, mls_1, mls_2, mls_3, mls_4, mls_5, kd_0, kd_1, kd_2, kd_3, ln_0, ln_1, ln_2, ln_3, gf_0, gf_1, gf_2, gf_3, gf_4, gf_7, gf_21, gf_63, dy_0, dy_1, dy_2, dy_3, dy_7, dy_21, px_brT, px_brF, true_and, and_true, and_false, false_and, and_self, true_implies, false_implies, or_true, true_or, or_false, false_or, eq_self, ne_eq, not_false_eq_true, not_true_eq_false, if_true, if_false, List.mem_cons, List.not_mem_nil, List.length_cons, List.length_nil, Nat.reduceEqDiff, Nat.reduceAdd, Nat.reduceSub, Nat.reduceLeDiff, Nat.reduceLT, Int.reduceEq, Int.reduceLT, Int.reduceLE, Int.reduceNeg, Int.reduceAdd, Int.reduceSub, Int.reduceToNat, ↓reduceIte, one_ne_zero_, zero_ne_one_, px_in32L, cd_160, cd_36, cd_84]
        exact he
      · intro z
        have hj := hei.1.2.2 i (by omega) (by omega)
        have he := he (by omega) c3 (by omega) (by omega) (by omega)
        rw [if_neg z] at he
        refine ⟨fun z1 => ?_, fun z1 => ?_⟩
        · rw [if_pos z1] at he
          repeat' (first | (with_reducible apply And.intro) | (with_reducible refine px_br_intro (fun _ => ?_) (fun _ => ?_)))
          all_goals (first | exact he | omega)
        · rw [if_neg z1] at he
          exact he
set_option maxHeartbeats 600000 in
set_option maxRecDepth 100000 in
theorem sp_stagedByte {i b k N : Int} {g : Int → fe} (hst : stC M N g) (hi : 0 ≤ i ∧ i < N) (hk : 0 ≤ k) (h : Q (some (0, if b = 0 then usg (sgA (g i).1 k) else if k < ((g i).2.length : Int) then nth (g i).2 k else -2)) M) : px_Ok 163 [(2, 1), (0, i), (0, b), (0, k)] LAY M Q := by
  have fk := hst.2.2.2.2 i hi.1 hi.2
  have hN := hst.2.2.1
  have hrow := hst.2.2.2.1.1 i hi.1 (by omega)
  have hrl := row_lay (v := M 7 i) (Or.inl hrow)
  have hl6 := fk.2.2.2.1
  have hl5 := fk.2.2.1
  have hb : lst (M (M 7 i)) ((g i).2.length : Int) = (g i).2 := by rw [← fk.2.2.1]; exact fk.2.2.2.2.1
  refine px_ok_go (inl := []) (ls0 := [(2, 1), (0, i), (0, b), (0, k)]) 60 (by decide) (Nat.le_of_ble_eq_true rfl) rfl ?_
  simp only [px_go, px_Q0_at, px_sx_0, px_sx_s, px_cl, px_step, ↓px_ll, px_lg, f4_, ↓px_r1, ↓px_r2, ↓px_r4, ↓px_r5, ↓px_p1, ↓px_p2, ↓px_p3, ↓px_pop, px_k_0, px_k_s, px_k3_0, px_stk_, px_cats, px_ent, px_st1, px_st2, px_mask, ↓px_tsw, ↓px_lsw, ct_, mls_0, mls_1, mls_2, mls_3, mls_4, mls_5, kd_0, kd_1, kd_2, kd_3, ln_0, ln_1, ln_2, ln_3, gf_0, gf_1, gf_2, gf_3, gf_4, gf_7, gf_21, gf_63, dy_0, dy_1, dy_2, dy_3, dy_7, dy_21, px_brT, px_brF, true_and, and_true, and_false, false_and, and_self, true_implies, false_implies, or_true, true_or, or_false, false_or, eq_self, ne_eq, not_false_eq_true, not_true_eq_false, if_true, if_false, List.mem_cons, List.not_mem_nil, List.length_cons, List.length_nil, Nat.reduceEqDiff, Nat.reduceAdd, Nat.reduceSub, Nat.reduceLeDiff, Nat.reduceLT, Int.reduceEq, Int.reduceLT, Int.reduceLE, Int.reduceNeg, Int.reduceAdd, Int.reduceSub, Int.reduceToNat, ↓reduceIte, one_ne_zero_, zero_ne_one_, px_in32L, cd_163, hrl]
  repeat' (first | (with_reducible apply And.intro) | (with_reducible refine px_br_intro (fun _ => ?_) (fun _ => ?_)))
  all_goals (try (first | (unfold px_in32; omega) | omega))
  · rename_i c1
    rw [if_pos c1] at h
    rw [fk.2.1]
    refine sp_byteOr fk.1.2 ?_
    simp only [px_go, px_Q0_at, px_sx_0, px_sx_s, px_cl, px_step, ↓px_ll, px_lg, f4_, ↓px_r1, ↓px_r2, ↓px_r4, ↓px_r5, ↓px_p1, ↓px_p2, ↓px_p3, ↓px_pop, px_k_0, px_k_s, px_k3_0, px_stk_, px_cats, px_ent, px_st1, px_st2, px_mask, ↓px_tsw, ↓px_lsw, ct_, mls_0, mls_1, mls_2, mls_3, mls_4, mls_5, kd_0, kd_1, kd_2, kd_3, ln_0, ln_1, ln_2, ln_3, gf_0, gf_1, gf_2, gf_3, gf_4, gf_7, gf_21, gf_63, dy_0, dy_1, dy_2, dy_3, dy_7, dy_21, px_brT, px_brF, true_and, and_true, and_false, false_and, and_self, true_implies, false_implies, or_true, true_or, or_false, false_or, eq_self, ne_eq, not_false_eq_true, not_true_eq_false, if_true, if_false, List.mem_cons, List.not_mem_nil, List.length_cons, List.length_nil, Nat.reduceEqDiff, Nat.reduceAdd, Nat.reduceSub, Nat.reduceLeDiff, Nat.reduceLT, Int.reduceEq, Int.reduceLT, Int.reduceLE, Int.reduceNeg, Int.reduceAdd, Int.reduceSub, Int.reduceToNat, ↓reduceIte, one_ne_zero_, zero_ne_one_, px_in32L, cd_163]
    exact h
  · rename_i c1 c2
    rw [if_neg c1, if_neg (by omega)] at h; exact h
  · rename_i c1 c2
    rw [if_neg c1, if_pos (by omega)] at h
    have e : M (M 7 i) k = nth (g i).2 k := by rw [← hb]; exact (nth_lst hk (by omega)).symm
    rw [e]; exact h
set_option maxHeartbeats 600000 in
set_option maxRecDepth 100000 in
theorem sp_at {num i b k N : Int} {pl : Int → Int → List Int} {nm : Int → List Int} {g : Int → fe} (hed : edA M pl nm) (hst : stC M N g) (hci : ci M) (h0 : (k < 0 ∨ (num = -1 ∧ ¬ (0 ≤ i ∧ i < N)) ∨ (num ≠ -1 ∧ (slot M num < 0 ∨ ¬ (0 ≤ i ∧ i < M (M 21 (slot M num)) 2)))) → Q (some (0, -1)) M) (hs : 0 ≤ k → num = -1 → (0 ≤ i ∧ i < N) → Q (some (0, if b = 0 then usg (sgA (g i).1 k) else if k < ((g i).2.length : Int) then nth (g i).2 k else -2)) M) (he : 0 ≤ k → num ≠ -1 → 0 ≤ slot M num → slot M num < M 20 1 → (0 ≤ i ∧ i < M (M 21 (slot M num)) 2) → Q (some (0, if b = 0 then usg (sgA (pl (slot M num) i) k) else if k < M 57 (M (M 21 (slot M num) + 2) i) then (if M 104 (M (M 21 (slot M num) + 2) i) = 0 then -3 else M (64 + M (M 21 (slot M num) + 2) i) k) else -2)) M) : px_Ok 162 [(2, 1), (0, num), (0, i), (0, b), (0, k)] LAY M Q := by
  have hw := hed.1
  have hn := hw.2.2
  have hM := hst.1
  refine px_ok_go (inl := [36, 84]) (ls0 := [(2, 1), (0, num), (0, i), (0, b), (0, k), (9, 0), (9, 0)]) 120 (by decide) (Nat.le_of_ble_eq_true rfl) rfl ?_
  simp only [px_go, px_Q0_at, px_sx_0, px_sx_s, px_cl, px_step, ↓px_ll, px_lg, f4_, ↓px_r1, ↓px_r2, ↓px_r4, ↓px_r5, ↓px_p1, ↓px_p2, ↓px_p3, ↓px_pop, px_k_0, px_k_s, px_k3_0, px_stk_, px_cats, px_ent, px_st1, px_st2, px_mask, ↓px_tsw, ↓px_lsw, ct_, mls_0, mls_1, mls_2, mls_3, mls_4, mls_5, kd_0, kd_1, kd_2, kd_3, ln_0, ln_1, ln_2, ln_3, gf_0, gf_1, gf_2, gf_3, gf_4, gf_7, gf_21, gf_63, dy_0, dy_1, dy_2, dy_3, dy_7, dy_21, px_brT, px_brF, true_and, and_true, and_false, false_and, and_self, true_implies, false_implies, or_true, true_or, or_false, false_or, eq_self, ne_eq, not_false_eq_true, not_true_eq_false, if_true, if_false, List.mem_cons, List.not_mem_nil, List.length_cons, List.length_nil, Nat.reduceEqDiff, Nat.reduceAdd, Nat.reduceSub, Nat.reduceLeDiff, Nat.reduceLT, Int.reduceEq, Int.reduceLT, Int.reduceLE, Int.reduceNeg, Int.reduceAdd, Int.reduceSub, Int.reduceToNat, ↓reduceIte, one_ne_zero_, zero_ne_one_, px_in32L, cd_162, cd_36, cd_84, hM]
  repeat' (first | (with_reducible apply And.intro) | (with_reducible refine px_br_intro (fun _ => ?_) (fun _ => ?_)))
  all_goals (try (first | (unfold px_in32; omega) | omega))
  all_goals (try exact h0 (Or.inl (by omega)))
  all_goals (try exact h0 (Or.inr (Or.inl (by omega))))
  · rename_i c1 c2 c3 c4
    refine sp_stagedByte hst ⟨by omega, by omega⟩ c1 ?_
    simp only [px_go, px_Q0_at, px_sx_0, px_sx_s, px_cl, px_step, ↓px_ll, px_lg, f4_, ↓px_r1, ↓px_r2, ↓px_r4, ↓px_r5, ↓px_p1, ↓px_p2, ↓px_p3, ↓px_pop, px_k_0, px_k_s, px_k3_0, px_stk_, px_cats, px_ent, px_st1, px_st2, px_mask, ↓px_tsw, ↓px_lsw, ct_, mls_0, mls_1, mls_2, mls_3, mls_4, mls_5, kd_0, kd_1, kd_2, kd_3, ln_0, ln_1, ln_2, ln_3, gf_0, gf_1, gf_2, gf_3, gf_4, gf_7, gf_21, gf_63, dy_0, dy_1, dy_2, dy_3, dy_7, dy_21, px_brT, px_brF, true_and, and_true, and_false, false_and, and_self, true_implies, false_implies, or_true, true_or, or_false, false_or, eq_self, ne_eq, not_false_eq_true, not_true_eq_false, if_true, if_false, List.mem_cons, List.not_mem_nil, List.length_cons, List.length_nil, Nat.reduceEqDiff, Nat.reduceAdd, Nat.reduceSub, Nat.reduceLeDiff, Nat.reduceLT, Int.reduceEq, Int.reduceLT, Int.reduceLE, Int.reduceNeg, Int.reduceAdd, Int.reduceSub, Int.reduceToNat, ↓reduceIte, one_ne_zero_, zero_ne_one_, px_in32L, cd_162, cd_36, cd_84]
    exact hs c1 c2 (by omega)
  · rename_i c1 c3
    refine sp_numbered hw ?_
    unfold edR
    have hsr := slot_rng (M := M) num
    generalize slot M num = s at *
    by_cases qs : s < 0
    · rw [if_pos qs]
      simp only [px_go, px_Q0_at, px_sx_0, px_sx_s, px_cl, px_step, ↓px_ll, px_lg, f4_, ↓px_r1, ↓px_r2, ↓px_r4, ↓px_r5, ↓px_p1, ↓px_p2, ↓px_p3, ↓px_pop, px_k_0, px_k_s, px_k3_0, px_stk_, px_cats, px_ent, px_st1, px_st2, px_mask, ↓px_tsw, ↓px_lsw, ct_, mls_0, mls_1, mls_2, mls_3, mls_4, mls_5, kd_0, kd_1, kd_2, kd_3, ln_0, ln_1, ln_2, ln_3, gf_0, gf_1, gf_2, gf_3, gf_4, gf_7, gf_21, gf_63, dy_0, dy_1, dy_2, dy_3, dy_7, dy_21, px_brT, px_brF, true_and, and_true, and_false, false_and, and_self, true_implies, false_implies, or_true, true_or, or_false, false_or, eq_self, ne_eq, not_false_eq_true, not_true_eq_false, if_true, if_false, List.mem_cons, List.not_mem_nil, List.length_cons, List.length_nil, Nat.reduceEqDiff, Nat.reduceAdd, Nat.reduceSub, Nat.reduceLeDiff, Nat.reduceLT, Int.reduceEq, Int.reduceLT, Int.reduceLE, Int.reduceNeg, Int.reduceAdd, Int.reduceSub, Int.reduceToNat, ↓reduceIte, one_ne_zero_, zero_ne_one_, px_in32L, cd_162, cd_36, cd_84]
      exact h0 (Or.inr (Or.inr ⟨c3, Or.inl qs⟩))
    · rw [if_neg qs]
      have hE := hw.1 s (by omega) (by omega)
      have hem := isE_m hE.1
      have hel := isE_lay hE.1
      have heg := isE_gf hE.1
      have hei := hed.2 s (by omega) (by omega)
      have hn12 := hei.1.2.1
      have hcj : 0 ≤ i → i < M (M 21 s) 2 → 0 ≤ M (M 21 s + 2) i ∧ M (M 21 s + 2) i < 40 ∧ px_kd LAY (64 + M (M 21 s + 2) i) = 0 ∧ px_ln LAY (64 + M (M 21 s + 2) i) = 40 ∧ M 57 (M (M 21 s + 2) i) ≤ 40 := fun q r => by
        have hj := hei.1.2.2 i q r
        have hrl := row_lay (v := 64 + M (M 21 s + 2) i) (Or.inr (by omega))
        have := cokC (hci.1 _ hj.2.2.1 hj.2.2.2 (hei.2.2.1 i q r).1)
        exact ⟨hj.2.2.1, hj.2.2.2, hrl.1, hrl.2, by omega⟩
      simp only [px_go, px_Q0_at, px_sx_0, px_sx_s, px_cl, px_step, ↓px_ll, px_lg, f4_, ↓px_r1, ↓px_r2, ↓px_r4, ↓px_r5, ↓px_p1, ↓px_p2, ↓px_p3, ↓px_pop, px_k_0, px_k_s, px_k3_0, px_stk_, px_cats, px_ent, px_st1, px_st2, px_mask, ↓px_tsw, ↓px_lsw, ct_, mls_0, mls_1, mls_2, mls_3, mls_4, mls_5, kd_0, kd_1, kd_2, kd_3, ln_0, ln_1, ln_2, ln_3, gf_0, gf_1, gf_2, gf_3, gf_4, gf_7, gf_21, gf_63, dy_0, dy_1, dy_2, dy_3, dy_7, dy_21, px_brT, px_brF, true_and, and_true, and_false, false_and, and_self, true_implies, false_implies, or_true, true_or, or_false, false_or, eq_self, ne_eq, not_false_eq_true, not_true_eq_false, if_true, if_false, List.mem_cons, List.not_mem_nil, List.length_cons, List.length_nil, Nat.reduceEqDiff, Nat.reduceAdd, Nat.reduceSub, Nat.reduceLeDiff, Nat.reduceLT, Int.reduceEq, Int.reduceLT, Int.reduceLE, Int.reduceNeg, Int.reduceAdd, Int.reduceSub, Int.reduceToNat, ↓reduceIte, one_ne_zero_, zero_ne_one_, px_in32L, cd_162, cd_36, cd_84, hel, heg]
      repeat' (first | (with_reducible apply And.intro) | (with_reducible refine px_br_intro (fun _ => ?_) (fun _ => ?_)))
      all_goals (try (first | (unfold px_in32; omega) | omega))
      all_goals (try exact h0 (Or.inr (Or.inr ⟨c3, Or.inr (by omega)⟩)))
      · rename_i c4 c5 c6 c7
        have hj := hei.1.2.2 i (by omega) (by omega)
        have he := he c1 c3 (by omega) (by omega) (by omega)
        rw [if_pos c7] at he
        rw [hj.2.1]
        refine sp_byteOr hj.1.2 ?_
        simp only [px_go, px_Q0_at, px_sx_0, px_sx_s, px_cl, px_step, ↓px_ll, px_lg, f4_, ↓px_r1, ↓px_r2, ↓px_r4, ↓px_r5, ↓px_p1, ↓px_p2, ↓px_p3, ↓px_pop, px_k_0, px_k_s, px_k3_0, px_stk_, px_cats, px_ent, px_st1, px_st2, px_mask, ↓px_tsw, ↓px_lsw, ct_, mls_0, mls_1, mls_2, mls_3, mls_4, mls_5, kd_0, kd_1, kd_2, kd_3, ln_0, ln_1, ln_2, ln_3, gf_0, gf_1, gf_2, gf_3, gf_4, gf_7, gf_21, gf_63, dy_0, dy_1, dy_2, dy_3, dy_7, dy_21, px_brT, px_brF, true_and, and_true, and_false, false_and, and_self, true_implies, false_implies, or_true, true_or, or_false, false_or, eq_self, ne_eq, not_false_eq_true, not_true_eq_false, if_true, if_false, List.mem_cons, List.not_mem_nil, List.length_cons, List.length_nil, Nat.reduceEqDiff, Nat.reduceAdd, Nat.reduceSub, Nat.reduceLeDiff, Nat.reduceLT, Int.reduceEq, Int.reduceLT, Int.reduceLE, Int.reduceNeg, Int.reduceAdd, Int.reduceSub, Int.reduceToNat, ↓reduceIte, one_ne_zero_, zero_ne_one_, px_in32L, cd_162, cd_36, cd_84]
        exact he
      · rename_i c4 c5 c6 c7 c8 c9
        have he := he c1 c3 (by omega) (by omega) (by omega)
        rw [if_neg c7, if_pos (by omega), if_pos c9] at he; exact he
      · rename_i c4 c5 c6 c7 c8 c9
        have he := he c1 c3 (by omega) (by omega) (by omega)
        rw [if_neg c7, if_pos (by omega), if_neg c9] at he; exact he
      · rename_i c4 c5 c6 c7 c8
        have he := he c1 c3 (by omega) (by omega) (by omega)
        rw [if_neg c7, if_neg (by omega)] at he; exact he
end PS
