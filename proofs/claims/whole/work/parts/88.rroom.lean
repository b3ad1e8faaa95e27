set_option maxRecDepth 100000 in
/-- X12_marksTaken -/
theorem cd_201 : px_at 201 0 = some (1, [], .iconst 0, []) ∧ px_at 201 1 = some (2, [], .istore_n 1, []) ∧ px_at 201 2 = some (3, [1, 1, 0], .iload_n 1, []) ∧ px_at 201 3 = some (6, [], .sipush 400, []) ∧ px_at 201 6 = some (9, [], .if_icmp .ge 16, [22]) ∧ px_at 201 9 = some (10, [], .aload_n 0, []) ∧ px_at 201 10 = some (13, [], .getfield 47, [11, 18, 2, 1, 143]) ∧ px_at 201 13 = some (14, [], .iload_n 1, []) ∧ px_at 201 14 = some (15, [], .iconst 0, []) ∧ px_at 201 15 = some (16, [], .bastore, []) ∧ px_at 201 16 = some (19, [], .iinc 1 1, []) ∧ px_at 201 19 = some (22, [], .goto (-17), [2]) ∧ px_at 201 22 = some (23, [], .iconst 0, []) ∧ px_at 201 23 = some (24, [], .istore_n 1, []) ∧ px_at 201 24 = some (25, [1, 1, 0], .iload_n 1, []) ∧ px_at 201 25 = some (27, [], .bipush 40, []) ∧ px_at 201 27 = some (30, [], .if_icmp .ge 55, [82]) ∧ px_at 201 30 = some (31, [], .iconst 0, []) ∧ px_at 201 31 = some (32, [], .istore_n 2, []) ∧ px_at 201 32 = some (33, [1, 1, 1], .iload_n 2, []) ∧ px_at 201 33 = some (34, [], .aload_n 0, []) ∧ px_at 201 34 = some (35, [], .iload_n 1, []) ∧ px_at 201 35 = some (36, [], .iconst 0, []) ∧ px_at 201 36 = some (39, [], .invokevirtual 109, [187, 2, 11, 259]) ∧ px_at 201 39 = some (40, [], .iconst 1, []) ∧ px_at 201 40 = some (43, [], .if_icmp .ne 12, [52]) ∧ px_at 201 43 = some (44, [], .aload_n 0, []) ∧ px_at 201 44 = some (45, [], .iload_n 1, []) ∧ px_at 201 45 = some (46, [], .iconst 4, []) ∧ px_at 201 46 = some (49, [], .invokevirtual 109, [187, 2, 11, 259]) ∧ px_at 201 49 = some (52, [], .goto 4, [53]) ∧ px_at 201 52 = some (53, [], .iconst 0, []) ∧ px_at 201 53 = some (56, [], .if_icmp .ge 23, [76]) ∧ px_at 201 56 = some (57, [], .aload_n 0, []) ∧ px_at 201 57 = some (60, [], .getfield 47, [11, 18, 2, 1, 143]) ∧ px_at 201 60 = some (61, [], .aload_n 0, []) ∧ px_at 201 61 = some (62, [], .iload_n 1, []) ∧ px_at 201 62 = some (63, [], .iconst 3, []) ∧ px_at 201 63 = some (66, [], .invokevirtual 109, [187, 2, 11, 259]) ∧ px_at 201 66 = some (67, [], .iload_n 2, []) ∧ px_at 201 67 = some (68, [], .iadd, []) ∧ px_at 201 68 = some (69, [], .iconst 1, []) ∧ px_at 201 69 = some (70, [], .bastore, []) ∧ px_at 201 70 = some (73, [], .iinc 2 1, []) ∧ px_at 201 73 = some (76, [], .goto (-41), [32]) ∧ px_at 201 76 = some (79, [], .iinc 1 1, []) ∧ px_at 201 79 = some (82, [], .goto (-55), [24]) ∧ px_at 201 82 = some (83, [], .return_, []) := ⟨rfl, rfl, rfl, rfl, rfl, rfl, rfl, rfl, rfl, rfl, rfl, rfl, rfl, rfl, rfl, rfl, rfl, rfl, rfl, rfl, rfl, rfl, rfl, rfl, rfl, rfl, rfl, rfl, rfl, rfl, rfl, rfl, rfl, rfl, rfl, rfl, rfl, rfl, rfl, rfl, rfl, rfl, rfl, rfl, rfl, rfl, rfl, rfl⟩
set_option maxRecDepth 100000 in
/-- X12_placeFor -/
theorem cd_202 : px_at 202 0 = some (1, [], .aload_n 0, []) ∧ px_at 202 1 = some (4, [], .invokevirtual 161, [201, 0, 11, 273]) ∧ px_at 202 4 = some (5, [], .iconst 0, []) ∧ px_at 202 5 = some (6, [], .istore_n 2, []) ∧ px_at 202 6 = some (7, [], .iload_n 1, []) ∧ px_at 202 7 = some (10, [], .ifCond .ne 5, [12]) ∧ px_at 202 10 = some (11, [], .iconst 0, []) ∧ px_at 202 11 = some (12, [], .ireturn, [0]) ∧ px_at 202 12 = some (13, [], .iconst 0, []) ∧ px_at 202 13 = some (14, [], .istore_n 3, []) ∧ px_at 202 14 = some (15, [1, 1, 1, 1], .iload_n 3, []) ∧ px_at 202 15 = some (18, [], .sipush 400, []) ∧ px_at 202 18 = some (21, [], .if_icmp .ge 37, [55]) ∧ px_at 202 21 = some (22, [], .aload_n 0, []) ∧ px_at 202 22 = some (25, [], .getfield 47, [11, 18, 2, 1, 143]) ∧ px_at 202 25 = some (26, [], .iload_n 3, []) ∧ px_at 202 26 = some (27, [], .baload, []) ∧ px_at 202 27 = some (30, [], .ifCond .eq 7, [34]) ∧ px_at 202 30 = some (31, [], .iconst 0, []) ∧ px_at 202 31 = some (34, [], .goto 6, [37]) ∧ px_at 202 34 = some (35, [], .iload_n 2, []) ∧ px_at 202 35 = some (36, [], .iconst 1, []) ∧ px_at 202 36 = some (37, [], .iadd, []) ∧ px_at 202 37 = some (38, [], .istore_n 2, []) ∧ px_at 202 38 = some (39, [], .iload_n 2, []) ∧ px_at 202 39 = some (40, [], .iload_n 1, []) ∧ px_at 202 40 = some (43, [], .if_icmp .ne 9, [49]) ∧ px_at 202 43 = some (44, [], .iload_n 3, []) ∧ px_at 202 44 = some (45, [], .iload_n 1, []) ∧ px_at 202 45 = some (46, [], .isub, []) ∧ px_at 202 46 = some (47, [], .iconst 1, []) ∧ px_at 202 47 = some (48, [], .iadd, []) ∧ px_at 202 48 = some (49, [], .ireturn, [0]) ∧ px_at 202 49 = some (52, [], .iinc 3 1, []) ∧ px_at 202 52 = some (55, [], .goto (-38), [14]) ∧ px_at 202 55 = some (56, [], .iconst (-1), []) ∧ px_at 202 56 = some (57, [], .ireturn, [0]) := ⟨rfl, rfl, rfl, rfl, rfl, rfl, rfl, rfl, rfl, rfl, rfl, rfl, rfl, rfl, rfl, rfl, rfl, rfl, rfl, rfl, rfl, rfl, rfl, rfl, rfl, rfl, rfl, rfl, rfl, rfl, rfl, rfl, rfl, rfl, rfl, rfl, rfl⟩
set_option maxRecDepth 100000 in
/-- X12_keepsDue -/
theorem cd_203 : px_at 203 0 = some (1, [], .iconst 0, []) ∧ px_at 203 1 = some (2, [], .istore_n 1, []) ∧ px_at 203 2 = some (3, [1, 1, 0, 0], .iload_n 1, []) ∧ px_at 203 3 = some (5, [], .bipush 40, []) ∧ px_at 203 5 = some (8, [], .if_icmp .ge 20, [25]) ∧ px_at 203 8 = some (9, [], .aload_n 0, []) ∧ px_at 203 9 = some (10, [], .iload_n 1, []) ∧ px_at 203 10 = some (11, [], .iconst 0, []) ∧ px_at 203 11 = some (14, [], .invokevirtual 109, [187, 2, 11, 259]) ∧ px_at 203 14 = some (15, [], .iconst 1, []) ∧ px_at 203 15 = some (18, [], .if_icmp .ne 10, [25]) ∧ px_at 203 18 = some (19, [], .iload_n 1, []) ∧ px_at 203 19 = some (20, [], .iconst 1, []) ∧ px_at 203 20 = some (21, [], .iadd, []) ∧ px_at 203 21 = some (22, [], .istore_n 1, []) ∧ px_at 203 22 = some (25, [], .goto (-20), [2]) ∧ px_at 203 25 = some (26, [], .iload_n 1, []) ∧ px_at 203 26 = some (28, [], .bipush 40, []) ∧ px_at 203 28 = some (31, [], .if_icmp .ne 5, [33]) ∧ px_at 203 31 = some (32, [], .iconst (-1), []) ∧ px_at 203 32 = some (33, [], .ireturn, [0]) ∧ px_at 203 33 = some (34, [], .aload_n 0, []) ∧ px_at 203 34 = some (37, [], .invokevirtual 164, [200, 0, 11, 267]) ∧ px_at 203 37 = some (38, [], .aload_n 0, []) ∧ px_at 203 38 = some (39, [], .aload_n 0, []) ∧ px_at 203 39 = some (42, [], .getfield 151, [11, 16, 0, 0, 141]) ∧ px_at 203 42 = some (45, [], .invokevirtual 167, [202, 1, 11, 272]) ∧ px_at 203 45 = some (46, [], .istore_n 2, []) ∧ px_at 203 46 = some (47, [], .iload_n 2, []) ∧ px_at 203 47 = some (48, [], .iconst (-1), []) ∧ px_at 203 48 = some (51, [], .if_icmp .ne 5, [53]) ∧ px_at 203 51 = some (52, [], .iconst (-1), []) ∧ px_at 203 52 = some (53, [], .ireturn, [0]) ∧ px_at 203 53 = some (54, [], .aload_n 0, []) ∧ px_at 203 54 = some (55, [], .iload_n 1, []) ∧ px_at 203 55 = some (56, [], .iconst 0, []) ∧ px_at 203 56 = some (57, [], .iconst 1, []) ∧ px_at 203 57 = some (60, [], .invokevirtual 170, [188, 3, 11, 274]) ∧ px_at 203 60 = some (61, [], .aload_n 0, []) ∧ px_at 203 61 = some (62, [], .iload_n 1, []) ∧ px_at 203 62 = some (63, [], .iconst 1, []) ∧ px_at 203 63 = some (64, [], .aload_n 0, []) ∧ px_at 203 64 = some (67, [], .getfield 129, [11, 14, 0, 0, 139]) ∧ px_at 203 67 = some (70, [], .invokevirtual 170, [188, 3, 11, 274]) ∧ px_at 203 70 = some (71, [], .aload_n 0, []) ∧ px_at 203 71 = some (72, [], .iload_n 1, []) ∧ px_at 203 72 = some (73, [], .iconst 2, []) ∧ px_at 203 73 = some (74, [], .aload_n 0, []) ∧ px_at 203 74 = some (77, [], .getfield 38, [11, 11, 2, 1, 136]) ∧ px_at 203 77 = some (78, [], .iconst 0, []) ∧ px_at 203 78 = some (79, [], .aload_n 0, []) ∧ px_at 203 79 = some (82, [], .getfield 129, [11, 14, 0, 0, 139]) ∧ px_at 203 82 = some (85, [], .invokestatic 125, [186, 3, 11, 262]) ∧ px_at 203 85 = some (88, [], .invokevirtual 170, [188, 3, 11, 274]) ∧ px_at 203 88 = some (89, [], .aload_n 0, []) ∧ px_at 203 89 = some (90, [], .iload_n 1, []) ∧ px_at 203 90 = some (91, [], .iconst 3, []) ∧ px_at 203 91 = some (92, [], .iload_n 2, []) ∧ px_at 203 92 = some (95, [], .invokevirtual 170, [188, 3, 11, 274]) ∧ px_at 203 95 = some (96, [], .aload_n 0, []) ∧ px_at 203 96 = some (97, [], .iload_n 1, []) ∧ px_at 203 97 = some (98, [], .iconst 4, []) ∧ px_at 203 98 = some (99, [], .aload_n 0, []) ∧ px_at 203 99 = some (102, [], .getfield 151, [11, 16, 0, 0, 141]) ∧ px_at 203 102 = some (105, [], .invokevirtual 170, [188, 3, 11, 274]) ∧ px_at 203 105 = some (106, [], .aload_n 0, []) ∧ px_at 203 106 = some (107, [], .iload_n 1, []) ∧ px_at 203 107 = some (108, [], .iconst 5, []) ∧ px_at 203 108 = some (109, [], .aload_n 0, []) ∧ px_at 203 109 = some (112, [], .getfield 148, [11, 17, 0, 0, 142]) ∧ px_at 203 112 = some (115, [], .invokevirtual 170, [188, 3, 11, 274]) ∧ px_at 203 115 = some (116, [], .iconst 0, []) ∧ px_at 203 116 = some (117, [], .istore_n 3, []) ∧ px_at 203 117 = some (118, [1, 1, 1, 1], .iload_n 3, []) ∧ px_at 203 118 = some (119, [], .aload_n 0, []) ∧ px_at 203 119 = some (122, [], .getfield 151, [11, 16, 0, 0, 141]) ∧ px_at 203 122 = some (125, [], .if_icmp .ge 27, [149]) ∧ px_at 203 125 = some (126, [], .aload_n 0, []) ∧ px_at 203 126 = some (129, [], .getfield 7, [11, 0, 2, 1, 125]) ∧ px_at 203 129 = some (132, [], .sipush 894, []) ∧ px_at 203 132 = some (133, [], .iload_n 2, []) ∧ px_at 203 133 = some (134, [], .iadd, []) ∧ px_at 203 134 = some (135, [], .iload_n 3, []) ∧ px_at 203 135 = some (136, [], .iadd, []) ∧ px_at 203 136 = some (137, [], .aload_n 0, []) ∧ px_at 203 137 = some (140, [], .getfield 44, [11, 13, 2, 1, 138]) ∧ px_at 203 140 = some (141, [], .iload_n 3, []) ∧ px_at 203 141 = some (142, [], .iaload, []) ∧ px_at 203 142 = some (143, [], .iastore, []) ∧ px_at 203 143 = some (146, [], .iinc 3 1, []) ∧ px_at 203 146 = some (149, [], .goto (-29), [117]) ∧ px_at 203 149 = some (150, [], .iload_n 1, []) ∧ px_at 203 150 = some (151, [], .ireturn, [0]) := ⟨rfl, rfl, rfl, rfl, rfl, rfl, rfl, rfl, rfl, rfl, rfl, rfl, rfl, rfl, rfl, rfl, rfl, rfl, rfl, rfl, rfl, rfl, rfl, rfl, rfl, rfl, rfl, rfl, rfl, rfl, rfl, rfl, rfl, rfl, rfl, rfl, rfl, rfl, rfl, rfl, rfl, rfl, rfl, rfl, rfl, rfl, rfl, rfl, rfl, rfl, rfl, rfl, rfl, rfl, rfl, rfl, rfl, rfl, rfl, rfl, rfl, rfl, rfl, rfl, rfl, rfl, rfl, rfl, rfl, rfl, rfl, rfl, rfl, rfl, rfl, rfl, rfl, rfl, rfl, rfl, rfl, rfl, rfl, rfl, rfl, rfl, rfl, rfl, rfl, rfl, rfl, rfl, rfl⟩
/-! the reference: room, a content kept anew -/
def inC (F : Int → Int) (c x : Int) : Prop := rC F c 3 ≤ x ∧ x < rC F c 3 + rC F c 4
def occ (F dd : Int → Int) (x : Int) : Prop := ∃ c, 0 ≤ c ∧ c < 40 ∧ 0 ≤ dd c ∧ inC F c x
/-- marked, so far -/
def mkd (M : px_mem) (p : Int → Prop) : Prop := ∀ x, 0 ≤ x → x < 400 → (M 140 x = 0 ∧ ¬ p x) ∨ (M 140 x = 1 ∧ p x)
section PA
variable {M : px_mem} {Q : Option pv → px_mem → Prop}
set_option maxHeartbeats 600000 in
set_option maxRecDepth 100000 in
theorem lp_mt1 {M0 : px_mem} (hx : ∀ M', mkd M' (fun _ => False) → (∀ b, b ≠ 140 → M' b = M0 b) → px_WP 201 0 0 (px_Q0 LAY Q) 24 [(2, 127), (0, 0), (9, 0)] [] LAY M' 0 0) (k : Int) (hk_k : k ≤ 400) : ∀ (M : px_mem), 0 ≤ k → (∀ x, 0 ≤ x → x < k → M 140 x = 0) → (∀ b, b ≠ 140 → M b = M0 b) → px_WP 201 0 0 (px_Q0 LAY Q) 2 [(2, 127), (0, k), (9, 0)] [] LAY M 0 0 := by
  refine up_ind (P := fun k => ∀ (M : px_mem), 0 ≤ k → (∀ x, 0 ≤ x → x < k → M 140 x = 0) → (∀ b, b ≠ 140 → M b = M0 b) → px_WP 201 0 0 (px_Q0 LAY Q) 2 [(2, 127), (0, k), (9, 0)] [] LAY M 0 0) (400) (fun k hk_k ih => ?_) k hk_k
  intro M k0 ha hf
  refine px_go_ok (inl := []) 60 ?_
  simp only [px_go, px_Q0_at, px_sx_0, px_sx_s, px_cl, px_step, ↓px_ll, px_lg, f4_, ↓px_r1, ↓px_r2, ↓px_r4, ↓px_r5, ↓px_p1, ↓px_p2, ↓px_p3, ↓px_pop, px_k_0, px_k_s, px_k3_0, px_stk_, px_cats, px_ent, px_st1, px_st2, px_mask, ↓px_tsw, ↓px_lsw, ct_, mls_0, mls_1, mls_2, mls_3, mls_4, mls_5, kd_0, kd_1, kd_2, kd_3, ln_0, ln_1, ln_2, ln_3, gf_0, gf_1, gf_2, gf_3, gf_4, gf_7, gf_21, gf_63, dy_0, dy_1, dy_2, dy_3, dy_7, dy_21, px_brT, px_brF, true_and, and_true, and_false, false_and, and_self, true_implies, false_implies, or_true, true_or, or_false, false_or, eq_self, ne_eq, not_false_eq_true, not_true_eq_false, if_true, if_false, List.mem_cons, List.not_mem_nil, List.length_cons, List.length_nil, Nat.reduceEqDiff, Nat.reduceAdd, Nat.reduceSub, Nat.reduceLeDiff, Nat.reduceLT, Int.reduceEq, Int.reduceLT, Int.reduceLE, Int.reduceNeg, Int.reduceAdd, Int.reduceSub, Int.reduceToNat, ↓reduceIte, one_ne_zero_, zero_ne_one_, px_in32L, cd_201]
  repeat' (first | (with_reducible apply And.intro) | (with_reducible refine px_br_intro (fun _ => ?_) (fun _ => ?_)))
  all_goals (try (first | (unfold px_in32; omega) | omega))
  · exact hx M (fun x x0 x1 => Or.inl ⟨ha x x0 (by omega), id⟩) hf
  · refine ih (by omega) _ (by omega) (fun x x0 x1 => ?_) (fun b b0 => by rw [row_ne b0]; exact hf b b0)
    rw [px_up_at]
    by_cases q : x = k
    · rw [if_pos ⟨rfl, q⟩]
    · rw [if_neg (fun z => q z.2)]; exact ha x x0 (by omega)
set_option maxHeartbeats 600000 in
set_option maxRecDepth 100000 in
theorem lp_mt3 {M0 : px_mem} {c n s u : Int} {p : Int → Prop} (hc : 0 ≤ c ∧ c < 40) (hu : rC (M0 128) c 0 = u) (hu2 : (u = 1 ∧ rC (M0 128) c 4 = n) ∨ (u = 0 ∧ n = 0)) (hs : rC (M0 128) c 3 = s) (hb : u = 1 → 0 ≤ s ∧ s + n ≤ 400) (hx : ∀ M', mkd M' (fun x => p x ∨ (s ≤ x ∧ x < s + n)) → (∀ b, b ≠ 140 → M' b = M0 b) → px_WP 201 0 0 (px_Q0 LAY Q) 24 [(2, 127), (0, c + 1), (9, 0)] [] LAY M' 0 0) (k : Int) (hk_k : k ≤ n) : ∀ (M : px_mem), 0 ≤ k → mkd M (fun x => p x ∨ (s ≤ x ∧ x < s + k)) → (∀ b, b ≠ 140 → M b = M0 b) → px_WP 201 0 0 (px_Q0 LAY Q) 32 [(2, 127), (0, c), (0, k)] [] LAY M 0 0 := by
  refine up_ind (P := fun k => ∀ (M : px_mem), 0 ≤ k → mkd M (fun x => p x ∨ (s ≤ x ∧ x < s + k)) → (∀ b, b ≠ 140 → M b = M0 b) → px_WP 201 0 0 (px_Q0 LAY Q) 32 [(2, 127), (0, c), (0, k)] [] LAY M 0 0) (n) (fun k hk_k ih => ?_) k hk_k
  intro M k0 ha hf
  have e128 := hf 128 (by decide)
  have hnx : k < n → 0 ≤ s → s + n ≤ 400 → px_WP 201 0 0 (px_Q0 LAY Q) 32 [(2, 127), (0, c), (0, k + 1)] [] LAY (px_up M 140 (s + k) 1) 0 0 := fun q s0 s1 => ih q _ (by omega) (fun x x0 x1 => by
    rw [px_up_at]
    by_cases y : x = s + k
    · rw [if_pos ⟨rfl, y⟩]; exact Or.inr ⟨rfl, Or.inr ⟨by omega, by omega⟩⟩
    · rw [if_neg (fun z => y z.2)]
      rcases ha x x0 x1 with w | w
      · exact Or.inl ⟨w.1, fun z => w.2 (z.elim Or.inl (fun z => Or.inr ⟨z.1, by omega⟩))⟩
      · exact Or.inr ⟨w.1, w.2.elim Or.inl (fun z => Or.inr ⟨z.1, by omega⟩)⟩) (fun b b0 => by rw [row_ne b0]; exact hf b b0)
  refine px_go_ok (inl := []) 60 ?_
  simp only [px_go, px_Q0_at, px_sx_0, px_sx_s, px_cl, px_step, ↓px_ll, px_lg, f4_, ↓px_r1, ↓px_r2, ↓px_r4, ↓px_r5, ↓px_p1, ↓px_p2, ↓px_p3, ↓px_pop, px_k_0, px_k_s, px_k3_0, px_stk_, px_cats, px_ent, px_st1, px_st2, px_mask, ↓px_tsw, ↓px_lsw, ct_, mls_0, mls_1, mls_2, mls_3, mls_4, mls_5, kd_0, kd_1, kd_2, kd_3, ln_0, ln_1, ln_2, ln_3, gf_0, gf_1, gf_2, gf_3, gf_4, gf_7, gf_21, gf_63, dy_0, dy_1, dy_2, dy_3, dy_7, dy_21, px_brT, px_brF, true_and, and_true, and_false, false_and, and_self, true_implies, false_implies, or_true, true_or, or_false, false_or, eq_self, ne_eq, not_false_eq_true, not_true_eq_false, if_true, if_false, List.mem_cons, List.not_mem_nil, List.length_cons, List.length_nil, Nat.reduceEqDiff, Nat.reduceAdd, Nat.reduceSub, Nat.reduceLeDiff, Nat.reduceLT, Int.reduceEq, Int.reduceLT, Int.reduceLE, Int.reduceNeg, Int.reduceAdd, Int.reduceSub, Int.reduceToNat, ↓reduceIte, one_ne_zero_, zero_ne_one_, px_in32L, cd_201]
  repeat' (first | (with_reducible apply And.intro) | (with_reducible refine px_br_intro (fun _ => ?_) (fun _ => ?_)))
  all_goals (try (first | (unfold px_in32; omega) | omega))
  refine sp_partOf hc (by decide) ?_
  rw [e128, hu]
  simp only [px_go, px_Q0_at, px_sx_0, px_sx_s, px_cl, px_step, ↓px_ll, px_lg, f4_, ↓px_r1, ↓px_r2, ↓px_r4, ↓px_r5, ↓px_p1, ↓px_p2, ↓px_p3, ↓px_pop, px_k_0, px_k_s, px_k3_0, px_stk_, px_cats, px_ent, px_st1, px_st2, px_mask, ↓px_tsw, ↓px_lsw, ct_, mls_0, mls_1, mls_2, mls_3, mls_4, mls_5, kd_0, kd_1, kd_2, kd_3, ln_0, ln_1, ln_2, ln_3, gf_0, gf_1, gf_2, gf_3, gf_4, gf_7, gf_21, gf_63, dy_0, dy_1, dy_2, dy_3, dy_7, dy_21, px_brT, px_brF, true_and, and_true, and_false, false_and, and_self, true_implies, false_implies, or_true, true_or, or_false, false_or, eq_self, ne_eq, not_false_eq_true, not_true_eq_false, if_true, if_false, List.mem_cons, List.not_mem_nil, List.length_cons, List.length_nil, Nat.reduceEqDiff, Nat.reduceAdd, Nat.reduceSub, Nat.reduceLeDiff, Nat.reduceLT, Int.reduceEq, Int.reduceLT, Int.reduceLE, Int.reduceNeg, Int.reduceAdd, Int.reduceSub, Int.reduceToNat, ↓reduceIte, one_ne_zero_, zero_ne_one_, px_in32L, cd_201]
  repeat' (first | (with_reducible apply And.intro) | (with_reducible refine px_br_intro (fun _ => ?_) (fun _ => ?_)))
  all_goals (try (first | (unfold px_in32; omega) | omega))
  · rename_i c1
    refine sp_partOf hc (by decide) ?_
    rw [e128]
    simp only [px_go, px_Q0_at, px_sx_0, px_sx_s, px_cl, px_step, ↓px_ll, px_lg, f4_, ↓px_r1, ↓px_r2, ↓px_r4, ↓px_r5, ↓px_p1, ↓px_p2, ↓px_p3, ↓px_pop, px_k_0, px_k_s, px_k3_0, px_stk_, px_cats, px_ent, px_st1, px_st2, px_mask, ↓px_tsw, ↓px_lsw, ct_, mls_0, mls_1, mls_2, mls_3, mls_4, mls_5, kd_0, kd_1, kd_2, kd_3, ln_0, ln_1, ln_2, ln_3, gf_0, gf_1, gf_2, gf_3, gf_4, gf_7, gf_21, gf_63, dy_0, dy_1, dy_2, dy_3, dy_7, dy_21, px_brT, px_brF, true_and, and_true, and_false, false_and, and_self, true_implies, false_implies, or_true, true_or, or_false, false_or, eq_self, ne_eq, not_false_eq_true, not_true_eq_false, if_true, if_false, List.mem_cons, List.not_mem_nil, List.length_cons, List.length_nil, Nat.reduceEqDiff, Nat.reduceAdd, Nat.reduceSub, Nat.reduceLeDiff, Nat.reduceLT, Int.reduceEq, Int.reduceLT, Int.reduceLE, Int.reduceNeg, Int.reduceAdd, Int.reduceSub, Int.reduceToNat, ↓reduceIte, one_ne_zero_, zero_ne_one_, px_in32L, cd_201]
    repeat' (first | (with_reducible apply And.intro) | (with_reducible refine px_br_intro (fun _ => ?_) (fun _ => ?_)))
    all_goals (try (first | (unfold px_in32; omega) | omega))
    · have e : k = n := by omega
      rw [e] at ha
      exact hx M ha hf
    · refine sp_partOf hc (by decide) ?_
      rw [e128, hs]
      simp only [px_go, px_Q0_at, px_sx_0, px_sx_s, px_cl, px_step, ↓px_ll, px_lg, f4_, ↓px_r1, ↓px_r2, ↓px_r4, ↓px_r5, ↓px_p1, ↓px_p2, ↓px_p3, ↓px_pop, px_k_0, px_k_s, px_k3_0, px_stk_, px_cats, px_ent, px_st1, px_st2, px_mask, ↓px_tsw, ↓px_lsw, ct_, mls_0, mls_1, mls_2, mls_3, mls_4, mls_5, kd_0, kd_1, kd_2, kd_3, ln_0, ln_1, ln_2, ln_3, gf_0, gf_1, gf_2, gf_3, gf_4, gf_7, gf_21, gf_63, dy_0, dy_1, dy_2, dy_3, dy_7, dy_21, px_brT, px_brF, true_and, and_true, and_false, false_and, and_self, true_implies, false_implies, or_true, true_or, or_false, false_or, eq_self, ne_eq, not_false_eq_true, not_true_eq_false, if_true, if_false, List.mem_cons, List.not_mem_nil, List.length_cons, List.length_nil, Nat.reduceEqDiff, Nat.reduceAdd, Nat.reduceSub, Nat.reduceLeDiff, Nat.reduceLT, Int.reduceEq, Int.reduceLT, Int.reduceLE, Int.reduceNeg, Int.reduceAdd, Int.reduceSub, Int.reduceToNat, ↓reduceIte, one_ne_zero_, zero_ne_one_, px_in32L, cd_201]
      repeat' (first | (with_reducible apply And.intro) | (with_reducible refine px_br_intro (fun _ => ?_) (fun _ => ?_)))
      all_goals (try (first | (unfold px_in32; omega) | omega))
      exact hnx (by omega) (by omega) (by omega)
  · rename_i c1
    have e : k = n := by omega
    rw [e] at ha
    repeat' (first | (with_reducible apply And.intro) | (with_reducible refine px_br_intro (fun _ => ?_) (fun _ => ?_)))
    all_goals (try (first | (unfold px_in32; omega) | omega))
    exact hx M ha hf
set_option maxHeartbeats 600000 in
set_option maxRecDepth 100000 in
theorem lp_mt2 {M0 : px_mem} {dd : Int → Int} (hr : rok (M0 128) dd) (hu : rus (M0 128) dd) (h : ∀ M', mkd M' (occ (M0 128) dd) → (∀ b, b ≠ 140 → M' b = M0 b) → Q none M') (c : Int) (hk_c : c ≤ 40) : ∀ (M : px_mem), 0 ≤ c → mkd M (fun x => ∃ d, 0 ≤ d ∧ d < c ∧ 0 ≤ dd d ∧ inC (M0 128) d x) → (∀ b, b ≠ 140 → M b = M0 b) → px_WP 201 0 0 (px_Q0 LAY Q) 24 [(2, 127), (0, c), (9, 0)] [] LAY M 0 0 := by
  refine up_ind (P := fun c => ∀ (M : px_mem), 0 ≤ c → mkd M (fun x => ∃ d, 0 ≤ d ∧ d < c ∧ 0 ≤ dd d ∧ inC (M0 128) d x) → (∀ b, b ≠ 140 → M b = M0 b) → px_WP 201 0 0 (px_Q0 LAY Q) 24 [(2, 127), (0, c), (9, 0)] [] LAY M 0 0) (40) (fun c hk_c ih => ?_) c hk_c
  intro M c0 ha hf
  have e128 := hf 128 (by decide)
  refine px_go_ok (inl := []) 60 ?_
  simp only [px_go, px_Q0_at, px_sx_0, px_sx_s, px_cl, px_step, ↓px_ll, px_lg, f4_, ↓px_r1, ↓px_r2, ↓px_r4, ↓px_r5, ↓px_p1, ↓px_p2, ↓px_p3, ↓px_pop, px_k_0, px_k_s, px_k3_0, px_stk_, px_cats, px_ent, px_st1, px_st2, px_mask, ↓px_tsw, ↓px_lsw, ct_, mls_0, mls_1, mls_2, mls_3, mls_4, mls_5, kd_0, kd_1, kd_2, kd_3, ln_0, ln_1, ln_2, ln_3, gf_0, gf_1, gf_2, gf_3, gf_4, gf_7, gf_21, gf_63, dy_0, dy_1, dy_2, dy_3, dy_7, dy_21, px_brT, px_brF, true_and, and_true, and_false, false_and, and_self, true_implies, false_implies, or_true, true_or, or_false, false_or, eq_self, ne_eq, not_false_eq_true, not_true_eq_false, if_true, if_false, List.mem_cons, List.not_mem_nil, List.length_cons, List.length_nil, Nat.reduceEqDiff, Nat.reduceAdd, Nat.reduceSub, Nat.reduceLeDiff, Nat.reduceLT, Int.reduceEq, Int.reduceLT, Int.reduceLE, Int.reduceNeg, Int.reduceAdd, Int.reduceSub, Int.reduceToNat, ↓reduceIte, one_ne_zero_, zero_ne_one_, px_in32L, cd_201]
  repeat' (first | (with_reducible apply And.intro) | (with_reducible refine px_br_intro (fun _ => ?_) (fun _ => ?_)))
  all_goals (try (first | (unfold px_in32; omega) | omega))
  · have e : c = 40 := by omega
    subst e
    exact h M (fun x x0 x1 => (ha x x0 x1).imp (fun z => ⟨z.1, fun ⟨d, d0, d1, d2⟩ => z.2 ⟨d, d0, d1, d2⟩⟩) (fun z => ⟨z.1, z.2⟩)) hf
  · rename_i c1
    have hc := hu c c0 (by omega)
    have hk : 0 ≤ dd c → 0 ≤ rC (M0 128) c 3 ∧ 0 ≤ rC (M0 128) c 4 ∧ rC (M0 128) c 3 + rC (M0 128) c 4 ≤ 400 := fun z => by
      have := hr.1 c c0 (by omega) z
      unfold cok at this
      omega
    refine lp_mt3 (M0 := M) (c := c) (n := if 0 ≤ dd c then rC (M0 128) c 4 else 0) (s := rC (M0 128) c 3) (u := rC (M0 128) c 0) (p := fun x => ∃ d, 0 ≤ d ∧ d < c ∧ 0 ≤ dd d ∧ inC (M0 128) d x) ⟨c0, by omega⟩ (by rw [e128]) ?_ (by rw [e128]) ?_ (fun M1 a1 a2 => ?_) 0 ?_ M (Int.le_refl 0) ?_ (fun _ _ => rfl)
    · rw [e128]
      by_cases q : 0 ≤ dd c
      · rw [if_pos q]; exact Or.inl ⟨by omega, rfl⟩
      · rw [if_neg q]; exact Or.inr ⟨by omega, rfl⟩
    · intro z
      have := hk (by omega)
      rw [if_pos (by omega)]; omega
    · refine ih (by omega) M1 (by omega) (fun x x0 x1 => ?_) (fun b b0 => by rw [a2 b b0, hf b b0])
      have key : ((∃ d, 0 ≤ d ∧ d < c ∧ 0 ≤ dd d ∧ inC (M0 128) d x) ∨ (rC (M0 128) c 3 ≤ x ∧ x < rC (M0 128) c 3 + if 0 ≤ dd c then rC (M0 128) c 4 else 0)) ↔ ∃ d, 0 ≤ d ∧ d < c + 1 ∧ 0 ≤ dd d ∧ inC (M0 128) d x := by
        constructor
        · rintro (⟨d, d0, d1, d2⟩ | z)
          · exact ⟨d, d0, by omega, d2⟩
          · by_cases q : 0 ≤ dd c
            · rw [if_pos q] at z; exact ⟨c, c0, by omega, q, z⟩
            · rw [if_neg q] at z; omega
        · rintro ⟨d, d0, d1, d2, d3⟩
          by_cases q : d = c
          · subst q; rw [if_pos d2]; exact Or.inr d3
          · exact Or.inl ⟨d, d0, by omega, d2, d3⟩
      rcases a1 x x0 x1 with w | w
      · exact Or.inl ⟨w.1, fun z => w.2 (key.mpr z)⟩
      · exact Or.inr ⟨w.1, key.mp w.2⟩
    · by_cases q : 0 ≤ dd c
      · rw [if_pos q]; exact (hk q).2.1
      · rw [if_neg q]; exact Int.le_refl 0
    · intro x x0 x1
      rcases ha x x0 x1 with w | w
      · exact Or.inl ⟨w.1, fun z => z.elim w.2 (fun z => by omega)⟩
      · exact Or.inr ⟨w.1, Or.inl w.2⟩
set_option maxHeartbeats 600000 in
set_option maxRecDepth 100000 in
theorem sp_marksTaken {dd : Int → Int} (hr : rok (M 128) dd) (hu : rus (M 128) dd) (h : ∀ M', mkd M' (occ (M 128) dd) → (∀ b, b ≠ 140 → M' b = M b) → Q none M') : px_Ok 201 [(2, 127)] LAY M Q := by
  refine px_ok_go (inl := []) (ls0 := [(2, 127), (9, 0), (9, 0)]) 60 (by decide) (Nat.le_of_ble_eq_true rfl) rfl ?_
  simp only [px_go, px_Q0_at, px_sx_0, px_sx_s, px_cl, px_step, ↓px_ll, px_lg, f4_, ↓px_r1, ↓px_r2, ↓px_r4, ↓px_r5, ↓px_p1, ↓px_p2, ↓px_p3, ↓px_pop, px_k_0, px_k_s, px_k3_0, px_stk_, px_cats, px_ent, px_st1, px_st2, px_mask, ↓px_tsw, ↓px_lsw, ct_, mls_0, mls_1, mls_2, mls_3, mls_4, mls_5, kd_0, kd_1, kd_2, kd_3, ln_0, ln_1, ln_2, ln_3, gf_0, gf_1, gf_2, gf_3, gf_4, gf_7, gf_21, gf_63, dy_0, dy_1, dy_2, dy_3, dy_7, dy_21, px_brT, px_brF, true_and, and_true, and_false, false_and, and_self, true_implies, false_implies, or_true, true_or, or_false, false_or, eq_self, ne_eq, not_false_eq_true, not_true_eq_false, if_true, if_false, List.mem_cons, List.not_mem_nil, List.length_cons, List.length_nil, Nat.reduceEqDiff, Nat.reduceAdd, Nat.reduceSub, Nat.reduceLeDiff, Nat.reduceLT, Int.reduceEq, Int.reduceLT, Int.reduceLE, Int.reduceNeg, Int.reduceAdd, Int.reduceSub, Int.reduceToNat, ↓reduceIte, one_ne_zero_, zero_ne_one_, px_in32L, cd_201]
  repeat' (first | (with_reducible apply And.intro) | (with_reducible refine px_br_intro (fun _ => ?_) (fun _ => ?_)))
  all_goals (try (first | (unfold px_in32; omega) | omega))
  refine lp_mt1 (M0 := M) (fun M1 a1 a2 => ?_) 0 (by decide) M (Int.le_refl 0) (fun x x0 x1 => by omega) (fun _ _ => rfl)
  refine lp_mt2 (M0 := M) hr hu h 0 (by decide) M1 (Int.le_refl 0) (fun x x0 x1 => ?_) a2
  rcases a1 x x0 x1 with w | w
  · exact Or.inl ⟨w.1, fun ⟨d, d0, d1, _⟩ => by omega⟩
  · exact w.2.elim
set_option maxHeartbeats 600000 in
set_option maxRecDepth 100000 in
theorem lp_placeFor {n : Int} {p : Int → Prop} (hn : 0 < n ∧ n ≤ 400) (hm : mkd M p) (h : Q (some (0, rmF (fun x => ¬ p x) n)) M) (k : Int) (hk_k : k ≤ 400) : 0 ≤ k → fr (fun x => ¬ p x) k < n → (∀ j, 0 ≤ j → j < k → fr (fun x => ¬ p x) (j + 1) ≠ n) → px_WP 202 0 0 (px_Q0 LAY Q) 14 [(2, 127), (0, n), (0, fr (fun x => ¬ p x) k), (0, k)] [] LAY M 0 0 := by
  refine up_ind (P := fun k => 0 ≤ k → fr (fun x => ¬ p x) k < n → (∀ j, 0 ≤ j → j < k → fr (fun x => ¬ p x) (j + 1) ≠ n) → px_WP 202 0 0 (px_Q0 LAY Q) 14 [(2, 127), (0, n), (0, fr (fun x => ¬ p x) k), (0, k)] [] LAY M 0 0) (400) (fun k hk_k ih => ?_) k hk_k
  intro k0 hfr hj
  have hr := fr_rng (fun x => ¬ p x) k0
  have hmk := hm k k0
  unfold rmF at h
  rw [if_neg (show ¬ n = 0 by omega)] at h
  have hj2 : fr (fun x => ¬ p x) (k + 1) ≠ n → ∀ j, 0 ≤ j → j < k + 1 → fr (fun x => ¬ p x) (j + 1) ≠ n := fun z j a b => by
    by_cases e2 : j = k
    · rw [e2]; exact z
    · exact hj j a (by omega)
  refine px_go_ok (inl := []) 60 ?_
  simp only [px_go, px_Q0_at, px_sx_0, px_sx_s, px_cl, px_step, ↓px_ll, px_lg, f4_, ↓px_r1, ↓px_r2, ↓px_r4, ↓px_r5, ↓px_p1, ↓px_p2, ↓px_p3, ↓px_pop, px_k_0, px_k_s, px_k3_0, px_stk_, px_cats, px_ent, px_st1, px_st2, px_mask, ↓px_tsw, ↓px_lsw, ct_, mls_0, mls_1, mls_2, mls_3, mls_4, mls_5, kd_0, kd_1, kd_2, kd_3, ln_0, ln_1, ln_2, ln_3, gf_0, gf_1, gf_2, gf_3, gf_4, gf_7, gf_21, gf_63, dy_0, dy_1, dy_2, dy_3, dy_7, dy_21, px_brT, px_brF, true_and, and_true, and_false, false_and, and_self, true_implies, false_implies, or_true, true_or, or_false, false_or, eq_self, ne_eq, not_false_eq_true, not_true_eq_false, if_true, if_false, List.mem_cons, List.not_mem_nil, List.length_cons, List.length_nil, Nat.reduceEqDiff, Nat.reduceAdd, Nat.reduceSub, Nat.reduceLeDiff, Nat.reduceLT, Int.reduceEq, Int.reduceLT, Int.reduceLE, Int.reduceNeg, Int.reduceAdd, Int.reduceSub, Int.reduceToNat, ↓reduceIte, one_ne_zero_, zero_ne_one_, px_in32L, cd_202]
  repeat' (first | (with_reducible apply And.intro) | (with_reducible refine px_br_intro (fun _ => ?_) (fun _ => ?_)))
  all_goals (try (first | (unfold px_in32; omega) | omega))
  · rename_i c1
    rw [fnd_miss (fun j a b => hj j a (by omega)), if_pos rfl] at h
    exact h
  · rename_i c1 c2 c3
    have hp : ¬ p k := by rcases hmk (by omega) with w | w; exact w.2; omega
    have e := fr_t (p := fun x => ¬ p x) k0 hp
    rw [show fnd 400 (fun k => fr (fun x => ¬ p x) (k + 1) = n) = k from fnd_hit k0 (by omega) (e.trans c3) hj, if_neg (by omega)] at h
    exact h
  · rename_i c1 c2 c3
    have hp : ¬ p k := by rcases hmk (by omega) with w | w; exact w.2; omega
    have e := fr_t (p := fun x => ¬ p x) k0 hp
    have := ih (by omega) (by omega) (by omega) (hj2 (by omega))
    rw [e] at this
    exact this
  · rename_i c1 c2 c3
    have hp : ¬ ¬ p k := by rcases hmk (by omega) with w | w; exact absurd w.1 c2; exact fun z => z w.2
    have e := fr_f (p := fun x => ¬ p x) k0 hp
    have := ih (by omega) (by omega) (by omega) (hj2 (by omega))
    rw [e] at this
    exact this
set_option maxHeartbeats 600000 in
set_option maxRecDepth 100000 in
theorem sp_placeFor {dd : Int → Int} {n : Int} (hr : rok (M 128) dd) (hu : rus (M 128) dd) (hn : 0 ≤ n ∧ n ≤ 400) (h : ∀ M', (∀ b, b ≠ 140 → M' b = M b) → Q (some (0, rmF (fun x => ¬ occ (M 128) dd x) n)) M') : px_Ok 202 [(2, 127), (0, n)] LAY M Q := by
  refine px_ok_go (inl := []) (ls0 := [(2, 127), (0, n), (9, 0), (9, 0)]) 60 (by decide) (Nat.le_of_ble_eq_true rfl) rfl ?_
  simp only [px_go, px_Q0_at, px_sx_0, px_sx_s, px_cl, px_step, ↓px_ll, px_lg, f4_, ↓px_r1, ↓px_r2, ↓px_r4, ↓px_r5, ↓px_p1, ↓px_p2, ↓px_p3, ↓px_pop, px_k_0, px_k_s, px_k3_0, px_stk_, px_cats, px_ent, px_st1, px_st2, px_mask, ↓px_tsw, ↓px_lsw, ct_, mls_0, mls_1, mls_2, mls_3, mls_4, mls_5, kd_0, kd_1, kd_2, kd_3, ln_0, ln_1, ln_2, ln_3, gf_0, gf_1, gf_2, gf_3, gf_4, gf_7, gf_21, gf_63, dy_0, dy_1, dy_2, dy_3, dy_7, dy_21, px_brT, px_brF, true_and, and_true, and_false, false_and, and_self, true_implies, false_implies, or_true, true_or, or_false, false_or, eq_self, ne_eq, not_false_eq_true, not_true_eq_false, if_true, if_false, List.mem_cons, List.not_mem_nil, List.length_cons, List.length_nil, Nat.reduceEqDiff, Nat.reduceAdd, Nat.reduceSub, Nat.reduceLeDiff, Nat.reduceLT, Int.reduceEq, Int.reduceLT, Int.reduceLE, Int.reduceNeg, Int.reduceAdd, Int.reduceSub, Int.reduceToNat, ↓reduceIte, one_ne_zero_, zero_ne_one_, px_in32L, cd_202]
  repeat' (first | (with_reducible apply And.intro) | (with_reducible refine px_br_intro (fun _ => ?_) (fun _ => ?_)))
  all_goals (try (first | (unfold px_in32; omega) | omega))
  refine sp_marksTaken hr hu (fun M1 a1 a2 => ?_)
  simp only [px_go, px_Q0_at, px_sx_0, px_sx_s, px_cl, px_step, ↓px_ll, px_lg, f4_, ↓px_r1, ↓px_r2, ↓px_r4, ↓px_r5, ↓px_p1, ↓px_p2, ↓px_p3, ↓px_pop, px_k_0, px_k_s, px_k3_0, px_stk_, px_cats, px_ent, px_st1, px_st2, px_mask, ↓px_tsw, ↓px_lsw, ct_, mls_0, mls_1, mls_2, mls_3, mls_4, mls_5, kd_0, kd_1, kd_2, kd_3, ln_0, ln_1, ln_2, ln_3, gf_0, gf_1, gf_2, gf_3, gf_4, gf_7, gf_21, gf_63, dy_0, dy_1, dy_2, dy_3, dy_7, dy_21, px_brT, px_brF, true_and, and_true, and_false, false_and, and_self, true_implies, false_implies, or_true, true_or, or_false, false_or, eq_self, ne_eq, not_false_eq_true, not_true_eq_false, if_true, if_false, List.mem_cons, List.not_mem_nil, List.length_cons, List.length_nil, Nat.reduceEqDiff, Nat.reduceAdd, Nat.reduceSub, Nat.reduceLeDiff, Nat.reduceLT, Int.reduceEq, Int.reduceLT, Int.reduceLE, Int.reduceNeg, Int.reduceAdd, Int.reduceSub, Int.reduceToNat, ↓reduceIte, one_ne_zero_, zero_ne_one_, px_in32L, cd_202]
  repeat' (first | (with_reducible apply And.intro) | (with_reducible refine px_br_intro (fun _ => ?_) (fun _ => ?_)))
  all_goals (try (first | (unfold px_in32; omega) | omega))
  · rename_i c1
    have := h M1 a2
    unfold rmF at this
    rw [if_pos c1] at this
    exact this
  · rename_i c1
    have := lp_placeFor (M := M1) (p := occ (M 128) dd) ⟨by omega, hn.2⟩ a1 (h M1 a2) 0 (by decide) (Int.le_refl 0) (by rw [fr_0]; omega) (fun j a b => by omega)
    rw [fr_0] at this
    exact this
/-- one content comes anew: number, length, mark, base, kept bytes, place, these -/
def keptR (F F' : Int → Int) (c n m b l p : Int) (P : Int → Int) : Prop :=
  (∀ x q, 0 ≤ x → x < 40 → 0 ≤ q → q < 6 → rC F' x q = if x = c then (if q = 0 then 1 else if q = 1 then n else if q = 2 then m else if q = 3 then p else if q = 4 then l else b) else rC F x q) ∧
  (∀ x, 0 ≤ x → x < 400 → F' (894 + x) = if p ≤ x ∧ x < p + l then P (x - p) else F (894 + x)) ∧ ∀ y, ¬ (654 ≤ y ∧ y < 1294) → F' y = F y
def frk (M' M : px_mem) : Prop := (∀ j, j ≠ 9 → j ≠ 15 → j ≠ 16 → j ≠ 17 → M' 127 j = M 127 j) ∧ ∀ b, b ≠ 127 → b ≠ 128 → b ≠ 134 → b ≠ 135 → b ≠ 136 → b ≠ 138 → b ≠ 139 → b ≠ 140 → M' b = M b
set_option maxHeartbeats 600000 in
set_option maxRecDepth 100000 in
theorem lp_kd2 {M0 : px_mem} {c p l : Int} (h16 : M0 127 16 = l) (hl : l ≤ 40) (hp : 0 ≤ p ∧ p + l ≤ 400) (hx : ∀ M', (∀ x, M' 128 x = if 894 + p ≤ x ∧ x < 894 + p + l then M0 139 (x - (894 + p)) else M0 128 x) → (∀ b, b ≠ 128 → M' b = M0 b) → Q (some (0, c)) M') (k : Int) (hk_k : k ≤ l) : ∀ (M : px_mem), 0 ≤ k → (∀ x, M 128 x = if 894 + p ≤ x ∧ x < 894 + p + k then M0 139 (x - (894 + p)) else M0 128 x) → (∀ b, b ≠ 128 → M b = M0 b) → px_WP 203 0 0 (px_Q0 LAY Q) 117 [(2, 127), (0, c), (0, p), (0, k)] [] LAY M 0 0 := by
  refine up_ind (P := fun k => ∀ (M : px_mem), 0 ≤ k → (∀ x, M 128 x = if 894 + p ≤ x ∧ x < 894 + p + k then M0 139 (x - (894 + p)) else M0 128 x) → (∀ b, b ≠ 128 → M b = M0 b) → px_WP 203 0 0 (px_Q0 LAY Q) 117 [(2, 127), (0, c), (0, p), (0, k)] [] LAY M 0 0) (l) (fun k hk_k ih => ?_) k hk_k
  intro M k0 ha hf
  have h127 := hf 127 (by decide)
  have h139 := hf 139 (by decide)
  refine px_go_ok (inl := []) 60 ?_
  simp only [px_go, px_Q0_at, px_sx_0, px_sx_s, px_cl, px_step, ↓px_ll, px_lg, f4_, ↓px_r1, ↓px_r2, ↓px_r4, ↓px_r5, ↓px_p1, ↓px_p2, ↓px_p3, ↓px_pop, px_k_0, px_k_s, px_k3_0, px_stk_, px_cats, px_ent, px_st1, px_st2, px_mask, ↓px_tsw, ↓px_lsw, ct_, mls_0, mls_1, mls_2, mls_3, mls_4, mls_5, kd_0, kd_1, kd_2, kd_3, ln_0, ln_1, ln_2, ln_3, gf_0, gf_1, gf_2, gf_3, gf_4, gf_7, gf_21, gf_63, dy_0, dy_1, dy_2, dy_3, dy_7, dy_21, px_brT, px_brF, true_and, and_true, and_false, false_and, and_self, true_implies, false_implies, or_true, true_or, or_false, false_or, eq_self, ne_eq, not_false_eq_true, not_true_eq_false, if_true, if_false, List.mem_cons, List.not_mem_nil, List.length_cons, List.length_nil, Nat.reduceEqDiff, Nat.reduceAdd, Nat.reduceSub, Nat.reduceLeDiff, Nat.reduceLT, Int.reduceEq, Int.reduceLT, Int.reduceLE, Int.reduceNeg, Int.reduceAdd, Int.reduceSub, Int.reduceToNat, ↓reduceIte, one_ne_zero_, zero_ne_one_, px_in32L, cd_203, h127, h139, h16]
  repeat' (first | (with_reducible apply And.intro) | (with_reducible refine px_br_intro (fun _ => ?_) (fun _ => ?_)))
  all_goals (try (first | (unfold px_in32; omega) | omega))
  · rw [show k = l by omega] at ha
    exact hx M ha hf
  · refine ih (by omega) _ (by omega) (fun x => ?_) (fun b b0 => by rw [row_ne b0]; exact hf b b0)
    rw [px_up_at, ha x]
    by_cases q : x = 894 + p + k
    · rw [if_pos ⟨rfl, q⟩, if_pos (by omega), show x - (894 + p) = k by omega]
    · rw [if_neg (fun z => q z.2)]
      by_cases r : 894 + p ≤ x ∧ x < 894 + p + k
      · rw [if_pos r, if_pos (by omega)]
      · rw [if_neg r, if_neg (by omega)]
def frk0 (M' M : px_mem) : Prop := M' 128 = M 128 ∧ frk M' M
set_option maxHeartbeats 600000 in
set_option maxRecDepth 100000 in
theorem lp_keepsDue {dd : Int → Int} {D : List Int} (hr : rok (M 128) dd) (hu : rus (M 128) dd) (hD : lst (M 137) (D.length : Int) = D) (h14 : M 127 14 = (D.length : Int)) (hn : D.length ≤ 40) (hby : ∀ b ∈ D, 0 ≤ b ∧ b < 256) (h0 : ∀ M', (fnd 40 (fun c => dd c < 0) = -1 ∨ ∃ b l, isBB (cndR (M 128) dd) (szR (M 128) D) (D.length : Int) 40 b l ∧ rmF (fun x => ¬ occ (M 128) dd x) l = -1) → frk0 M' M → Q (some (0, -1)) M') (h1 : ∀ M' c b l p P, fnd 40 (fun c => dd c < 0) = c → 0 ≤ c → c < 40 → isBB (cndR (M 128) dd) (szR (M 128) D) (D.length : Int) 40 b l → rmF (fun x => ¬ occ (M 128) dd x) l = p → 0 ≤ p → lst P l = bstR (M 128) D b → keptR (M 128) (M' 128) c (D.length : Int) (mkl D) b l p P → frk M' M → Q (some (0, c)) M') (c : Int) (hk_c : c ≤ 40) : 0 ≤ c → (∀ j, 0 ≤ j → j < c → ¬ dd j < 0) → px_WP 203 0 0 (px_Q0 LAY Q) 2 [(2, 127), (0, c), (9, 0), (9, 0)] [] LAY M 0 0 := by
  refine up_ind (P := fun c => 0 ≤ c → (∀ j, 0 ≤ j → j < c → ¬ dd j < 0) → px_WP 203 0 0 (px_Q0 LAY Q) 2 [(2, 127), (0, c), (9, 0), (9, 0)] [] LAY M 0 0) (40) (fun c hk_c ih => ?_) c hk_c
  intro c0 hj
  have hdl : (D.length : Int) ≤ 40 := by omega
  refine px_go_ok (inl := []) 200 ?_
  simp only [px_go, px_Q0_at, px_sx_0, px_sx_s, px_cl, px_step, ↓px_ll, px_lg, f4_, ↓px_r1, ↓px_r2, ↓px_r4, ↓px_r5, ↓px_p1, ↓px_p2, ↓px_p3, ↓px_pop, px_k_0, px_k_s, px_k3_0, px_stk_, px_cats, px_ent, px_st1, px_st2, px_mask, ↓px_tsw, ↓px_lsw, ct_, mls_0, mls_1, mls_2, mls_3, mls_4, mls_5, kd_0, kd_1, kd_2, kd_3, ln_0, ln_1, ln_2, ln_3, gf_0, gf_1, gf_2, gf_3, gf_4, gf_7, gf_21, gf_63, dy_0, dy_1, dy_2, dy_3, dy_7, dy_21, px_brT, px_brF, true_and, and_true, and_false, false_and, and_self, true_implies, false_implies, or_true, true_or, or_false, false_or, eq_self, ne_eq, not_false_eq_true, not_true_eq_false, if_true, if_false, List.mem_cons, List.not_mem_nil, List.length_cons, List.length_nil, Nat.reduceEqDiff, Nat.reduceAdd, Nat.reduceSub, Nat.reduceLeDiff, Nat.reduceLT, Int.reduceEq, Int.reduceLT, Int.reduceLE, Int.reduceNeg, Int.reduceAdd, Int.reduceSub, Int.reduceToNat, ↓reduceIte, one_ne_zero_, zero_ne_one_, px_in32L, cd_203]
  repeat' (first | (with_reducible apply And.intro) | (with_reducible refine px_br_intro (fun _ => ?_) (fun _ => ?_)))
  all_goals (try (first | (unfold px_in32; omega) | omega))
  · rename_i c1
    exact h0 M (Or.inl (fnd_miss (fun j j0 j1 => hj j j0 (by omega)))) ⟨rfl, fun _ _ _ _ _ => rfl, fun _ _ _ _ _ _ _ _ _ => rfl⟩
  · rename_i c1
    have hc := hu c c0 (by omega)
    refine sp_partOf ⟨c0, by omega⟩ (by decide) ?_
    simp only [px_go, px_Q0_at, px_sx_0, px_sx_s, px_cl, px_step, ↓px_ll, px_lg, f4_, ↓px_r1, ↓px_r2, ↓px_r4, ↓px_r5, ↓px_p1, ↓px_p2, ↓px_p3, ↓px_pop, px_k_0, px_k_s, px_k3_0, px_stk_, px_cats, px_ent, px_st1, px_st2, px_mask, ↓px_tsw, ↓px_lsw, ct_, mls_0, mls_1, mls_2, mls_3, mls_4, mls_5, kd_0, kd_1, kd_2, kd_3, ln_0, ln_1, ln_2, ln_3, gf_0, gf_1, gf_2, gf_3, gf_4, gf_7, gf_21, gf_63, dy_0, dy_1, dy_2, dy_3, dy_7, dy_21, px_brT, px_brF, true_and, and_true, and_false, false_and, and_self, true_implies, false_implies, or_true, true_or, or_false, false_or, eq_self, ne_eq, not_false_eq_true, not_true_eq_false, if_true, if_false, List.mem_cons, List.not_mem_nil, List.length_cons, List.length_nil, Nat.reduceEqDiff, Nat.reduceAdd, Nat.reduceSub, Nat.reduceLeDiff, Nat.reduceLT, Int.reduceEq, Int.reduceLT, Int.reduceLE, Int.reduceNeg, Int.reduceAdd, Int.reduceSub, Int.reduceToNat, ↓reduceIte, one_ne_zero_, zero_ne_one_, px_in32L, cd_203]
    repeat' (first | (with_reducible apply And.intro) | (with_reducible refine px_br_intro (fun _ => ?_) (fun _ => ?_)))
    all_goals (try (first | (unfold px_in32; omega) | omega))
    · rename_i c2
      refine ih (by omega) (by omega) (fun j j0 j1 => ?_)
      by_cases q : j = c
      · rw [q]; omega
      · exact hj j j0 (by omega)
    · rename_i c2 c3
      refine sp_chooses hr hu hD h14 hn hby (fun M1 b l a1 a2 a3 a4 a5 => ?_)
      have e128 := frc_128 a5
      have hl40 : 0 ≤ l ∧ l ≤ 40 := by
        rcases a1 with z | z
        · omega
        · have : 0 ≤ szR (M 128) D b := Int.natCast_nonneg _
          omega
      simp only [px_go, px_Q0_at, px_sx_0, px_sx_s, px_cl, px_step, ↓px_ll, px_lg, f4_, ↓px_r1, ↓px_r2, ↓px_r4, ↓px_r5, ↓px_p1, ↓px_p2, ↓px_p3, ↓px_pop, px_k_0, px_k_s, px_k3_0, px_stk_, px_cats, px_ent, px_st1, px_st2, px_mask, ↓px_tsw, ↓px_lsw, ct_, mls_0, mls_1, mls_2, mls_3, mls_4, mls_5, kd_0, kd_1, kd_2, kd_3, ln_0, ln_1, ln_2, ln_3, gf_0, gf_1, gf_2, gf_3, gf_4, gf_7, gf_21, gf_63, dy_0, dy_1, dy_2, dy_3, dy_7, dy_21, px_brT, px_brF, true_and, and_true, and_false, false_and, and_self, true_implies, false_implies, or_true, true_or, or_false, false_or, eq_self, ne_eq, not_false_eq_true, not_true_eq_false, if_true, if_false, List.mem_cons, List.not_mem_nil, List.length_cons, List.length_nil, Nat.reduceEqDiff, Nat.reduceAdd, Nat.reduceSub, Nat.reduceLeDiff, Nat.reduceLT, Int.reduceEq, Int.reduceLT, Int.reduceLE, Int.reduceNeg, Int.reduceAdd, Int.reduceSub, Int.reduceToNat, ↓reduceIte, one_ne_zero_, zero_ne_one_, px_in32L, cd_203, a3]
      refine sp_placeFor (dd := dd) (by rw [e128]; exact hr) (by rw [e128]; exact hu) (by omega) (fun M2 g1 => ?_)
      rw [e128]
      have f2 : M2 128 = M 128 := by rw [g1 128 (by decide), e128]
      have hsp := rmF_spec (p := fun x => ¬ occ (M 128) dd x) (n := l) hl40.1
      generalize hp : rmF (fun x => ¬ occ (M 128) dd x) l = p at *
      have e14 : M2 127 14 = (D.length : Int) := by rw [g1 127 (by decide), frc_14 a5, h14]
      have e16 : M2 127 16 = l := by rw [g1 127 (by decide), a3]
      have e17 : M2 127 17 = b := by rw [g1 127 (by decide), a2]
      have e137 : M2 137 = M 137 := by rw [g1 137 (by decide), frc_137 a5]
      have e139 : M2 139 = M1 139 := g1 139 (by decide)
      have fk : frk M2 M := ⟨fun j j0 j1 j2 j3 => by rw [g1 127 (by decide), a5.1 j j0 j1 j2 j3], fun x x0 _ x2 x3 x4 x5 x6 x7 => by rw [g1 x x7, a5.2 x x0 x2 x3 x4 x5 x6]⟩
      simp only [px_go, px_Q0_at, px_sx_0, px_sx_s, px_cl, px_step, ↓px_ll, px_lg, f4_, ↓px_r1, ↓px_r2, ↓px_r4, ↓px_r5, ↓px_p1, ↓px_p2, ↓px_p3, ↓px_pop, px_k_0, px_k_s, px_k3_0, px_stk_, px_cats, px_ent, px_st1, px_st2, px_mask, ↓px_tsw, ↓px_lsw, ct_, mls_0, mls_1, mls_2, mls_3, mls_4, mls_5, kd_0, kd_1, kd_2, kd_3, ln_0, ln_1, ln_2, ln_3, gf_0, gf_1, gf_2, gf_3, gf_4, gf_7, gf_21, gf_63, dy_0, dy_1, dy_2, dy_3, dy_7, dy_21, px_brT, px_brF, true_and, and_true, and_false, false_and, and_self, true_implies, false_implies, or_true, true_or, or_false, false_or, eq_self, ne_eq, not_false_eq_true, not_true_eq_false, if_true, if_false, List.mem_cons, List.not_mem_nil, List.length_cons, List.length_nil, Nat.reduceEqDiff, Nat.reduceAdd, Nat.reduceSub, Nat.reduceLeDiff, Nat.reduceLT, Int.reduceEq, Int.reduceLT, Int.reduceLE, Int.reduceNeg, Int.reduceAdd, Int.reduceSub, Int.reduceToNat, ↓reduceIte, one_ne_zero_, zero_ne_one_, px_in32L, cd_203, e14, e16, e17]
      refine px_br_intro (fun c4 => ?_) (fun c4 => ?_)
      · exact h0 M2 (Or.inr ⟨b, l, a1, by omega⟩) ⟨f2, fk⟩
      · refine sp_sets ⟨c0, by omega⟩ (by decide) ?_
        simp only [px_go, px_Q0_at, px_sx_0, px_sx_s, px_cl, px_step, ↓px_ll, px_lg, f4_, ↓px_r1, ↓px_r2, ↓px_r4, ↓px_r5, ↓px_p1, ↓px_p2, ↓px_p3, ↓px_pop, px_k_0, px_k_s, px_k3_0, px_stk_, px_cats, px_ent, px_st1, px_st2, px_mask, ↓px_tsw, ↓px_lsw, ct_, mls_0, mls_1, mls_2, mls_3, mls_4, mls_5, kd_0, kd_1, kd_2, kd_3, ln_0, ln_1, ln_2, ln_3, gf_0, gf_1, gf_2, gf_3, gf_4, gf_7, gf_21, gf_63, dy_0, dy_1, dy_2, dy_3, dy_7, dy_21, px_brT, px_brF, true_and, and_true, and_false, false_and, and_self, true_implies, false_implies, or_true, true_or, or_false, false_or, eq_self, ne_eq, not_false_eq_true, not_true_eq_false, if_true, if_false, List.mem_cons, List.not_mem_nil, List.length_cons, List.length_nil, Nat.reduceEqDiff, Nat.reduceAdd, Nat.reduceSub, Nat.reduceLeDiff, Nat.reduceLT, Int.reduceEq, Int.reduceLT, Int.reduceLE, Int.reduceNeg, Int.reduceAdd, Int.reduceSub, Int.reduceToNat, ↓reduceIte, one_ne_zero_, zero_ne_one_, px_in32L, cd_203, px_up_at, e14, e16, e17]
        refine sp_sets ⟨c0, by omega⟩ (by decide) ?_
        simp only [px_go, px_Q0_at, px_sx_0, px_sx_s, px_cl, px_step, ↓px_ll, px_lg, f4_, ↓px_r1, ↓px_r2, ↓px_r4, ↓px_r5, ↓px_p1, ↓px_p2, ↓px_p3, ↓px_pop, px_k_0, px_k_s, px_k3_0, px_stk_, px_cats, px_ent, px_st1, px_st2, px_mask, ↓px_tsw, ↓px_lsw, ct_, mls_0, mls_1, mls_2, mls_3, mls_4, mls_5, kd_0, kd_1, kd_2, kd_3, ln_0, ln_1, ln_2, ln_3, gf_0, gf_1, gf_2, gf_3, gf_4, gf_7, gf_21, gf_63, dy_0, dy_1, dy_2, dy_3, dy_7, dy_21, px_brT, px_brF, true_and, and_true, and_false, false_and, and_self, true_implies, false_implies, or_true, true_or, or_false, false_or, eq_self, ne_eq, not_false_eq_true, not_true_eq_false, if_true, if_false, List.mem_cons, List.not_mem_nil, List.length_cons, List.length_nil, Nat.reduceEqDiff, Nat.reduceAdd, Nat.reduceSub, Nat.reduceLeDiff, Nat.reduceLT, Int.reduceEq, Int.reduceLT, Int.reduceLE, Int.reduceNeg, Int.reduceAdd, Int.reduceSub, Int.reduceToNat, ↓reduceIte, one_ne_zero_, zero_ne_one_, px_in32L, cd_203, px_up_at, e14, e16, e17]
        generalize hN1 : px_up (px_up M2 128 (654 + 6 * c + 0) 1) 128 (654 + 6 * c + 1) (D.length : Int) = N1
        have n137 : N1 137 = M 137 := by rw [← hN1, row_ne (by decide), row_ne (by decide), e137]
        have n127 : N1 127 = M2 127 := by rw [← hN1, row_ne (by decide), row_ne (by decide)]
        refine sp_rmark (v := 137) rfl (Int.le_refl 0) (by omega) (by rw [show px_ln LAY 137 = 40 from rfl]; omega) (by decide) (fun j j0 j1 => ?_) ?_
        · rw [Int.zero_add, n137]
          have q := nth_lst (f := M 137) j0 j1
          rw [hD] at q
          rw [← q]
          exact hby _ (nth_mem j0 j1)
        · have em : mk (fun j => N1 137 (0 + j)) (D.length : Int) = mkl D := by
            rw [mkl_lst (by omega), lst0, n137, hD]
          rw [em]
          have n16 : N1 127 16 = l := by rw [n127, e16]
          have n17 : N1 127 17 = b := by rw [n127, e17]
          simp only [px_go, px_Q0_at, px_sx_0, px_sx_s, px_cl, px_step, ↓px_ll, px_lg, f4_, ↓px_r1, ↓px_r2, ↓px_r4, ↓px_r5, ↓px_p1, ↓px_p2, ↓px_p3, ↓px_pop, px_k_0, px_k_s, px_k3_0, px_stk_, px_cats, px_ent, px_st1, px_st2, px_mask, ↓px_tsw, ↓px_lsw, ct_, mls_0, mls_1, mls_2, mls_3, mls_4, mls_5, kd_0, kd_1, kd_2, kd_3, ln_0, ln_1, ln_2, ln_3, gf_0, gf_1, gf_2, gf_3, gf_4, gf_7, gf_21, gf_63, dy_0, dy_1, dy_2, dy_3, dy_7, dy_21, px_brT, px_brF, true_and, and_true, and_false, false_and, and_self, true_implies, false_implies, or_true, true_or, or_false, false_or, eq_self, ne_eq, not_false_eq_true, not_true_eq_false, if_true, if_false, List.mem_cons, List.not_mem_nil, List.length_cons, List.length_nil, Nat.reduceEqDiff, Nat.reduceAdd, Nat.reduceSub, Nat.reduceLeDiff, Nat.reduceLT, Int.reduceEq, Int.reduceLT, Int.reduceLE, Int.reduceNeg, Int.reduceAdd, Int.reduceSub, Int.reduceToNat, ↓reduceIte, one_ne_zero_, zero_ne_one_, px_in32L, cd_203, px_up_at, n16, n17]
          refine sp_sets ⟨c0, by omega⟩ (by decide) ?_
          simp only [px_go, px_Q0_at, px_sx_0, px_sx_s, px_cl, px_step, ↓px_ll, px_lg, f4_, ↓px_r1, ↓px_r2, ↓px_r4, ↓px_r5, ↓px_p1, ↓px_p2, ↓px_p3, ↓px_pop, px_k_0, px_k_s, px_k3_0, px_stk_, px_cats, px_ent, px_st1, px_st2, px_mask, ↓px_tsw, ↓px_lsw, ct_, mls_0, mls_1, mls_2, mls_3, mls_4, mls_5, kd_0, kd_1, kd_2, kd_3, ln_0, ln_1, ln_2, ln_3, gf_0, gf_1, gf_2, gf_3, gf_4, gf_7, gf_21, gf_63, dy_0, dy_1, dy_2, dy_3, dy_7, dy_21, px_brT, px_brF, true_and, and_true, and_false, false_and, and_self, true_implies, false_implies, or_true, true_or, or_false, false_or, eq_self, ne_eq, not_false_eq_true, not_true_eq_false, if_true, if_false, List.mem_cons, List.not_mem_nil, List.length_cons, List.length_nil, Nat.reduceEqDiff, Nat.reduceAdd, Nat.reduceSub, Nat.reduceLeDiff, Nat.reduceLT, Int.reduceEq, Int.reduceLT, Int.reduceLE, Int.reduceNeg, Int.reduceAdd, Int.reduceSub, Int.reduceToNat, ↓reduceIte, one_ne_zero_, zero_ne_one_, px_in32L, cd_203, px_up_at, n16, n17]
          refine sp_sets ⟨c0, by omega⟩ (by decide) ?_
          simp only [px_go, px_Q0_at, px_sx_0, px_sx_s, px_cl, px_step, ↓px_ll, px_lg, f4_, ↓px_r1, ↓px_r2, ↓px_r4, ↓px_r5, ↓px_p1, ↓px_p2, ↓px_p3, ↓px_pop, px_k_0, px_k_s, px_k3_0, px_stk_, px_cats, px_ent, px_st1, px_st2, px_mask, ↓px_tsw, ↓px_lsw, ct_, mls_0, mls_1, mls_2, mls_3, mls_4, mls_5, kd_0, kd_1, kd_2, kd_3, ln_0, ln_1, ln_2, ln_3, gf_0, gf_1, gf_2, gf_3, gf_4, gf_7, gf_21, gf_63, dy_0, dy_1, dy_2, dy_3, dy_7, dy_21, px_brT, px_brF, true_and, and_true, and_false, false_and, and_self, true_implies, false_implies, or_true, true_or, or_false, false_or, eq_self, ne_eq, not_false_eq_true, not_true_eq_false, if_true, if_false, List.mem_cons, List.not_mem_nil, List.length_cons, List.length_nil, Nat.reduceEqDiff, Nat.reduceAdd, Nat.reduceSub, Nat.reduceLeDiff, Nat.reduceLT, Int.reduceEq, Int.reduceLT, Int.reduceLE, Int.reduceNeg, Int.reduceAdd, Int.reduceSub, Int.reduceToNat, ↓reduceIte, one_ne_zero_, zero_ne_one_, px_in32L, cd_203, px_up_at, n16, n17]
          refine sp_sets ⟨c0, by omega⟩ (by decide) ?_
          simp only [px_go, px_Q0_at, px_sx_0, px_sx_s, px_cl, px_step, ↓px_ll, px_lg, f4_, ↓px_r1, ↓px_r2, ↓px_r4, ↓px_r5, ↓px_p1, ↓px_p2, ↓px_p3, ↓px_pop, px_k_0, px_k_s, px_k3_0, px_stk_, px_cats, px_ent, px_st1, px_st2, px_mask, ↓px_tsw, ↓px_lsw, ct_, mls_0, mls_1, mls_2, mls_3, mls_4, mls_5, kd_0, kd_1, kd_2, kd_3, ln_0, ln_1, ln_2, ln_3, gf_0, gf_1, gf_2, gf_3, gf_4, gf_7, gf_21, gf_63, dy_0, dy_1, dy_2, dy_3, dy_7, dy_21, px_brT, px_brF, true_and, and_true, and_false, false_and, and_self, true_implies, false_implies, or_true, true_or, or_false, false_or, eq_self, ne_eq, not_false_eq_true, not_true_eq_false, if_true, if_false, List.mem_cons, List.not_mem_nil, List.length_cons, List.length_nil, Nat.reduceEqDiff, Nat.reduceAdd, Nat.reduceSub, Nat.reduceLeDiff, Nat.reduceLT, Int.reduceEq, Int.reduceLT, Int.reduceLE, Int.reduceNeg, Int.reduceAdd, Int.reduceSub, Int.reduceToNat, ↓reduceIte, one_ne_zero_, zero_ne_one_, px_in32L, cd_203, px_up_at, n16, n17]
          refine sp_sets ⟨c0, by omega⟩ (by decide) ?_
          simp only [px_go, px_Q0_at, px_sx_0, px_sx_s, px_cl, px_step, ↓px_ll, px_lg, f4_, ↓px_r1, ↓px_r2, ↓px_r4, ↓px_r5, ↓px_p1, ↓px_p2, ↓px_p3, ↓px_pop, px_k_0, px_k_s, px_k3_0, px_stk_, px_cats, px_ent, px_st1, px_st2, px_mask, ↓px_tsw, ↓px_lsw, ct_, mls_0, mls_1, mls_2, mls_3, mls_4, mls_5, kd_0, kd_1, kd_2, kd_3, ln_0, ln_1, ln_2, ln_3, gf_0, gf_1, gf_2, gf_3, gf_4, gf_7, gf_21, gf_63, dy_0, dy_1, dy_2, dy_3, dy_7, dy_21, px_brT, px_brF, true_and, and_true, and_false, false_and, and_self, true_implies, false_implies, or_true, true_or, or_false, false_or, eq_self, ne_eq, not_false_eq_true, not_true_eq_false, if_true, if_false, List.mem_cons, List.not_mem_nil, List.length_cons, List.length_nil, Nat.reduceEqDiff, Nat.reduceAdd, Nat.reduceSub, Nat.reduceLeDiff, Nat.reduceLT, Int.reduceEq, Int.reduceLT, Int.reduceLE, Int.reduceNeg, Int.reduceAdd, Int.reduceSub, Int.reduceToNat, ↓reduceIte, one_ne_zero_, zero_ne_one_, px_in32L, cd_203, px_up_at, n16, n17]
          generalize hN2 : px_up (px_up (px_up (px_up N1 128 (654 + 6 * c + 2) (mkl D)) 128 (654 + 6 * c + 3) p) 128 (654 + 6 * c + 4) l) 128 (654 + 6 * c + 5) b = N2
          have m16 : N2 127 16 = l := by rw [← hN2, row_ne (by decide), row_ne (by decide), row_ne (by decide), row_ne (by decide), n16]
          have mne : ∀ x, x ≠ 128 → N2 x = M2 x := fun x x0 => by rw [← hN2, row_ne x0, row_ne x0, row_ne x0, row_ne x0, ← hN1, row_ne x0, row_ne x0]
          have m128 : ∀ x, N2 128 x = if x = 654 + 6 * c + 5 then b else if x = 654 + 6 * c + 4 then l else if x = 654 + 6 * c + 3 then p else if x = 654 + 6 * c + 2 then mkl D else if x = 654 + 6 * c + 1 then (D.length : Int) else if x = 654 + 6 * c + 0 then 1 else M 128 x := fun x => by
            rw [← hN2, ← hN1]
            simp only [px_up_at, true_and, f2]
          refine lp_kd2 (M0 := N2) (p := p) (l := l) m16 hl40.2 (by omega) (fun M3 k1 k2 => ?_) 0 hl40.1 N2 (Int.le_refl 0) (fun x => by rw [if_neg (by omega)]) (fun _ _ => rfl)
          refine h1 M3 c b l p (M1 139) (fnd_hit c0 (by omega) (by omega) hj) c0 (by omega) a1 hp (by omega) a4 ⟨fun x q x0 x1 q0 q1 => ?_, fun x x0 x1 => ?_, fun y y0 => ?_⟩ ⟨fun j j0 j1 j2 j3 => ?_, fun x x0 x1 x2 x3 x4 x5 x6 x7 => ?_⟩
          · show M3 128 (654 + 6 * x + q) = _
            rw [k1, if_neg (by omega), m128]
            by_cases e : x = c
            · subst e
              rw [if_pos rfl]
              rcases (by omega : q = 0 ∨ q = 1 ∨ q = 2 ∨ q = 3 ∨ q = 4 ∨ q = 5) with e | e | e | e | e | e <;> subst e <;> (repeat (first | rw [if_pos (by omega)] | rw [if_neg (by omega)]))
            · rw [if_neg e, if_neg (by omega), if_neg (by omega), if_neg (by omega), if_neg (by omega), if_neg (by omega), if_neg (by omega)]
              rfl
          · rw [k1]
            by_cases e : p ≤ x ∧ x < p + l
            · rw [if_pos (by omega), if_pos e, mne 139 (by decide), e139, show 894 + x - (894 + p) = x - p by omega]
            · rw [if_neg (by omega), if_neg e, m128, if_neg (by omega), if_neg (by omega), if_neg (by omega), if_neg (by omega), if_neg (by omega), if_neg (by omega)]
          · rw [k1, if_neg (by omega), m128, if_neg (by omega), if_neg (by omega), if_neg (by omega), if_neg (by omega), if_neg (by omega), if_neg (by omega)]
          · rw [k2 127 (by decide), mne 127 (by decide), fk.1 j j0 j1 j2 j3]
          · rw [k2 x x1, mne x x1, fk.2 x x0 x1 x2 x3 x4 x5 x6 x7]
set_option maxHeartbeats 600000 in
set_option maxRecDepth 100000 in
theorem sp_keepsDue {dd : Int → Int} {D : List Int} (hr : rok (M 128) dd) (hu : rus (M 128) dd) (hD : lst (M 137) (D.length : Int) = D) (h14 : M 127 14 = (D.length : Int)) (hn : D.length ≤ 40) (hby : ∀ b ∈ D, 0 ≤ b ∧ b < 256) (h0 : ∀ M', (fnd 40 (fun c => dd c < 0) = -1 ∨ ∃ b l, isBB (cndR (M 128) dd) (szR (M 128) D) (D.length : Int) 40 b l ∧ rmF (fun x => ¬ occ (M 128) dd x) l = -1) → frk0 M' M → Q (some (0, -1)) M') (h1 : ∀ M' c b l p P, fnd 40 (fun c => dd c < 0) = c → 0 ≤ c → c < 40 → isBB (cndR (M 128) dd) (szR (M 128) D) (D.length : Int) 40 b l → rmF (fun x => ¬ occ (M 128) dd x) l = p → 0 ≤ p → lst P l = bstR (M 128) D b → keptR (M 128) (M' 128) c (D.length : Int) (mkl D) b l p P → frk M' M → Q (some (0, c)) M') : px_Ok 203 [(2, 127)] LAY M Q := by
  refine px_ok_go (inl := []) (ls0 := [(2, 127), (9, 0), (9, 0), (9, 0)]) 60 (by decide) (Nat.le_of_ble_eq_true rfl) rfl ?_
  simp only [px_go, px_Q0_at, px_sx_0, px_sx_s, px_cl, px_step, ↓px_ll, px_lg, f4_, ↓px_r1, ↓px_r2, ↓px_r4, ↓px_r5, ↓px_p1, ↓px_p2, ↓px_p3, ↓px_pop, px_k_0, px_k_s, px_k3_0, px_stk_, px_cats, px_ent, px_st1, px_st2, px_mask, ↓px_tsw, ↓px_lsw, ct_, mls_0, mls_1, mls_2, mls_3, mls_4, mls_5, kd_0, kd_1, kd_2, kd_3, ln_0, ln_1, ln_2, ln_3, gf_0, gf_1, gf_2, gf_3, gf_4, gf_7, gf_21, gf_63, dy_0, dy_1, dy_2, dy_3, dy_7, dy_21, px_brT, px_brF, true_and, and_true, and_false, false_and, and_self, true_implies, false_implies, or_true, true_or, or_false, false_or, eq_self, ne_eq, not_false_eq_true, not_true_eq_false, if_true, if_false, List.mem_cons, List.not_mem_nil, List.length_cons, List.length_nil, Nat.reduceEqDiff, Nat.reduceAdd, Nat.reduceSub, Nat.reduceLeDiff, Nat.reduceLT, Int.reduceEq, Int.reduceLT, Int.reduceLE, Int.reduceNeg, Int.reduceAdd, Int.reduceSub, Int.reduceToNat, ↓reduceIte, one_ne_zero_, zero_ne_one_, px_in32L, cd_203]
  repeat' (first | (with_reducible apply And.intro) | (with_reducible refine px_br_intro (fun _ => ?_) (fun _ => ?_)))
  all_goals (try (first | (unfold px_in32; omega) | omega))
  exact lp_keepsDue hr hu hD h14 hn hby h0 h1 0 (by decide) (Int.le_refl 0) (fun j j0 j1 => by omega)
/-- depths with one more -/
def ddN (dd : Int → Int) (c b : Int) : Int → Int := fun x => if x = c then (if b < 0 then 0 else dd b + 1) else dd x
theorem keptR_ok {F F' dd P : Int → Int} {D : List Int} {c b l p : Int} (hr : rok F dd) (hu : rus F dd) (hn : D.length ≤ 40) (hby : ∀ b ∈ D, 0 ≤ b ∧ b < 256) (hc : 0 ≤ c ∧ c < 40 ∧ dd c < 0) (hb : isBB (cndR F dd) (szR F D) (D.length : Int) 40 b l) (hp : rmF (fun x => ¬ occ F dd x) l = p) (hp0 : 0 ≤ p) (hP : lst P l = bstR F D b) (hk : keptR F F' c (D.length : Int) (mkl D) b l p P) : rok F' (ddN dd c b) ∧ rus F' (ddN dd c b) := by
  obtain ⟨k1, k2, _⟩ := hk
  have hl40 : 0 ≤ l ∧ l ≤ (D.length : Int) := by
    rcases hb with z | z
    · omega
    · have : 0 ≤ szR F D b := Int.natCast_nonneg _
      omega
  have hsp := rmF_spec (p := fun x => ¬ occ F dd x) (n := l) hl40.1
  rw [hp] at hsp
  have hb2 : (b = -2 ∧ l = (D.length : Int)) ∨ (0 ≤ b ∧ b < 40 ∧ 0 ≤ dd b ∧ dd b < 3 ∧ l < (D.length : Int)) := by
    rcases hb with z | z
    · exact Or.inl ⟨z.1, z.2.1⟩
    · exact Or.inr ⟨z.1, z.2.1, z.2.2.1.1, z.2.2.1.2.1, z.2.2.2.2.1⟩
  have hbr : ∀ y ∈ bstR F D b, 0 ≤ y ∧ y < 256 := by
    unfold bstR
    by_cases e : b < 0
    · rw [if_pos e]; exact hby
    · rw [if_neg e]
      rcases hb with z | z
      · omega
      · obtain ⟨B, w1, w2⟩ := z.2.2.1.2.2
        have hB := rB_len hr z.1 z.2.1 z.2.2.1.1 w1
        have e2 : rBl F b = B := by unfold rBl; rw [w1]; rfl
        rw [e2]
        exact pcl_rng hn (by omega) hby
  have hm := mk_rng (nth D) (D.length : Int)
  refine ⟨⟨fun x x0 x1 x2 => ?_, fun k k0 k1' => ?_⟩, fun x x0 x1 => ?_⟩
  · unfold cok
    rw [k1 x 1 x0 x1 (by decide) (by decide), k1 x 2 x0 x1 (by decide) (by decide), k1 x 3 x0 x1 (by decide) (by decide), k1 x 4 x0 x1 (by decide) (by decide), k1 x 5 x0 x1 (by decide) (by decide)]
    unfold ddN at x2 ⊢
    by_cases e : x = c
    · subst e
      simp only [if_true, Int.reduceEq, if_false] at x2 ⊢
      unfold mkl
      rcases hb2 with z | z
      · rw [if_pos (show b < 0 by omega)]
        refine ⟨by omega, by omega, by omega, by omega, by omega, by omega, by omega, by omega, by omega, Or.inl ⟨by omega, rfl, by omega⟩⟩
      · rw [if_neg (show ¬ b < 0 by omega), if_neg (show ¬ b = x by intro q; rw [q] at z; omega)]
        refine ⟨by omega, by omega, by omega, by omega, by omega, by omega, by omega, by omega, by omega, Or.inr ⟨by omega, by omega, by omega, rfl⟩⟩
    · simp only [if_neg e] at x2 ⊢
      have h := hr.1 x x0 x1 x2
      unfold cok at h
      rcases h with ⟨a1, a2, a3, a4, a5, a6, a7, a8, a9, a10⟩
      refine ⟨a1, a2, a3, a4, a5, a6, a7, a8, a9, a10.imp id (fun z => ⟨z.1, z.2.1, ?_, ?_⟩)⟩
      · rw [if_neg (by intro q; rw [q] at z; omega)]; exact z.2.2.1
      · rw [if_neg (by intro q; rw [q] at z; omega)]; exact z.2.2.2
  · show 0 ≤ F' (894 + k) ∧ F' (894 + k) < 256
    rw [k2 k k0 k1']
    by_cases e : p ≤ k ∧ k < p + l
    · rw [if_pos e]
      have q := nth_lst (f := P) (n := l) (k := k - p) (by omega) (by omega)
      rw [hP] at q
      rw [← q]
      have hlen : ((bstR F D b).length : Int) = l := by rw [← hP, lst_len hl40.1]
      exact hbr _ (nth_mem (by omega) (by omega))
    · rw [if_neg e]; exact hr.2 k k0 k1'
  · rw [k1 x 0 x0 x1 (by decide) (by decide)]
    unfold ddN
    by_cases e : x = c
    · rw [if_pos e, if_pos e, if_pos rfl]
      left
      refine ⟨?_, rfl⟩
      rcases hb2 with z | z
      · rw [if_pos (by omega)]; exact Int.le_refl 0
      · rw [if_neg (by omega)]; omega
    · rw [if_neg e, if_neg e]; exact hu x x0 x1
end PA
