set_option maxRecDepth 100000 in
/-- X12_areDue -/
theorem cd_198 : px_at 198 0 = some (1, [], .aload_n 0, []) ∧ px_at 198 1 = some (4, [], .getfield 115, [11, 9, 0, 0, 134]) ∧ px_at 198 4 = some (5, [], .aload_n 0, []) ∧ px_at 198 5 = some (8, [], .getfield 129, [11, 14, 0, 0, 139]) ∧ px_at 198 8 = some (11, [], .if_icmp .eq 5, [13]) ∧ px_at 198 11 = some (12, [], .iconst 0, []) ∧ px_at 198 12 = some (13, [], .ireturn, [4]) ∧ px_at 198 13 = some (14, [], .iconst 0, []) ∧ px_at 198 14 = some (15, [], .istore_n 1, []) ∧ px_at 198 15 = some (16, [1, 1], .iload_n 1, []) ∧ px_at 198 16 = some (17, [], .aload_n 0, []) ∧ px_at 198 17 = some (20, [], .getfield 115, [11, 9, 0, 0, 134]) ∧ px_at 198 20 = some (23, [], .if_icmp .ge 26, [46]) ∧ px_at 198 23 = some (24, [], .aload_n 0, []) ∧ px_at 198 24 = some (27, [], .getfield 29, [11, 7, 2, 1, 132]) ∧ px_at 198 27 = some (28, [], .iload_n 1, []) ∧ px_at 198 28 = some (29, [], .iaload, []) ∧ px_at 198 29 = some (30, [], .aload_n 0, []) ∧ px_at 198 30 = some (33, [], .getfield 38, [11, 11, 2, 1, 136]) ∧ px_at 198 33 = some (34, [], .iload_n 1, []) ∧ px_at 198 34 = some (35, [], .iaload, []) ∧ px_at 198 35 = some (38, [], .if_icmp .eq 5, [40]) ∧ px_at 198 38 = some (39, [], .iconst 0, []) ∧ px_at 198 39 = some (40, [], .ireturn, [4]) ∧ px_at 198 40 = some (43, [], .iinc 1 1, []) ∧ px_at 198 43 = some (46, [], .goto (-28), [15]) ∧ px_at 198 46 = some (47, [], .iconst 1, []) ∧ px_at 198 47 = some (48, [], .ireturn, [4]) := ⟨rfl, rfl, rfl, rfl, rfl, rfl, rfl, rfl, rfl, rfl, rfl, rfl, rfl, rfl, rfl, rfl, rfl, rfl, rfl, rfl, rfl, rfl, rfl, rfl, rfl, rfl, rfl, rfl⟩
set_option maxRecDepth 100000 in
/-- X12_foundDue -/
theorem cd_199 : px_at 199 0 = some (1, [], .iconst 0, []) ∧ px_at 199 1 = some (2, [], .istore_n 1, []) ∧ px_at 199 2 = some (3, [1, 1], .iload_n 1, []) ∧ px_at 199 3 = some (5, [], .bipush 40, []) ∧ px_at 199 5 = some (8, [], .if_icmp .ge 36, [41]) ∧ px_at 199 8 = some (9, [], .aload_n 0, []) ∧ px_at 199 9 = some (10, [], .iload_n 1, []) ∧ px_at 199 10 = some (11, [], .iconst 0, []) ∧ px_at 199 11 = some (14, [], .invokevirtual 109, [187, 2, 11, 259]) ∧ px_at 199 14 = some (15, [], .iconst 1, []) ∧ px_at 199 15 = some (18, [], .if_icmp .ne 20, [35]) ∧ px_at 199 18 = some (19, [], .aload_n 0, []) ∧ px_at 199 19 = some (20, [], .iload_n 1, []) ∧ px_at 199 20 = some (23, [], .invokevirtual 141, [194, 1, 11, 257]) ∧ px_at 199 23 = some (26, [], .ifCond .eq 12, [35]) ∧ px_at 199 26 = some (27, [], .aload_n 0, []) ∧ px_at 199 27 = some (30, [], .invokevirtual 144, [198, 0, 11, 263]) ∧ px_at 199 30 = some (33, [], .ifCond .eq 5, [35]) ∧ px_at 199 33 = some (34, [], .iload_n 1, []) ∧ px_at 199 34 = some (35, [], .ireturn, [0]) ∧ px_at 199 35 = some (38, [], .iinc 1 1, []) ∧ px_at 199 38 = some (41, [], .goto (-36), [2]) ∧ px_at 199 41 = some (42, [], .iconst (-1), []) ∧ px_at 199 42 = some (43, [], .ireturn, [0]) := ⟨rfl, rfl, rfl, rfl, rfl, rfl, rfl, rfl, rfl, rfl, rfl, rfl, rfl, rfl, rfl, rfl, rfl, rfl, rfl, rfl, rfl, rfl, rfl, rfl⟩
set_option maxRecDepth 100000 in
/-- X12_chooses -/
theorem cd_200 : px_at 200 0 = some (1, [], .aload_n 0, []) ∧ px_at 200 1 = some (3, [], .bipush (-2), []) ∧ px_at 200 3 = some (6, [], .putfield 148, [11, 17, 0, 0, 142]) ∧ px_at 200 6 = some (7, [], .aload_n 0, []) ∧ px_at 200 7 = some (8, [], .aload_n 0, []) ∧ px_at 200 8 = some (11, [], .getfield 129, [11, 14, 0, 0, 139]) ∧ px_at 200 11 = some (14, [], .putfield 151, [11, 16, 0, 0, 141]) ∧ px_at 200 14 = some (15, [], .iconst 0, []) ∧ px_at 200 15 = some (16, [], .istore_n 1, []) ∧ px_at 200 16 = some (17, [1, 1, 0], .iload_n 1, []) ∧ px_at 200 17 = some (18, [], .aload_n 0, []) ∧ px_at 200 18 = some (21, [], .getfield 129, [11, 14, 0, 0, 139]) ∧ px_at 200 21 = some (24, [], .if_icmp .ge 21, [42]) ∧ px_at 200 24 = some (25, [], .aload_n 0, []) ∧ px_at 200 25 = some (28, [], .getfield 44, [11, 13, 2, 1, 138]) ∧ px_at 200 28 = some (29, [], .iload_n 1, []) ∧ px_at 200 29 = some (30, [], .aload_n 0, []) ∧ px_at 200 30 = some (33, [], .getfield 38, [11, 11, 2, 1, 136]) ∧ px_at 200 33 = some (34, [], .iload_n 1, []) ∧ px_at 200 34 = some (35, [], .iaload, []) ∧ px_at 200 35 = some (36, [], .iastore, []) ∧ px_at 200 36 = some (39, [], .iinc 1 1, []) ∧ px_at 200 39 = some (42, [], .goto (-23), [16]) ∧ px_at 200 42 = some (43, [], .iconst 0, []) ∧ px_at 200 43 = some (44, [], .istore_n 1, []) ∧ px_at 200 44 = some (45, [1, 1, 0], .iload_n 1, []) ∧ px_at 200 45 = some (47, [], .bipush 40, []) ∧ px_at 200 47 = some (50, [], .if_icmp .ge 97, [144]) ∧ px_at 200 50 = some (51, [], .aload_n 0, []) ∧ px_at 200 51 = some (52, [], .iload_n 1, []) ∧ px_at 200 52 = some (53, [], .iconst 0, []) ∧ px_at 200 53 = some (56, [], .invokevirtual 109, [187, 2, 11, 259]) ∧ px_at 200 56 = some (59, [], .ifCond .eq 82, [138]) ∧ px_at 200 59 = some (60, [], .aload_n 0, []) ∧ px_at 200 60 = some (61, [], .iload_n 1, []) ∧ px_at 200 61 = some (64, [], .invokevirtual 154, [190, 1, 11, 268]) ∧ px_at 200 64 = some (65, [], .iconst 3, []) ∧ px_at 200 65 = some (68, [], .if_icmp .ge 73, [138]) ∧ px_at 200 68 = some (69, [], .aload_n 0, []) ∧ px_at 200 69 = some (70, [], .iload_n 1, []) ∧ px_at 200 70 = some (73, [], .invokevirtual 141, [194, 1, 11, 257]) ∧ px_at 200 73 = some (76, [], .ifCond .ne 6, [79]) ∧ px_at 200 76 = some (79, [], .goto 62, [138]) ∧ px_at 200 79 = some (80, [], .aload_n 0, []) ∧ px_at 200 80 = some (83, [], .invokevirtual 158, [196, 0, 11, 269]) ∧ px_at 200 83 = some (84, [], .aload_n 0, []) ∧ px_at 200 84 = some (87, [], .getfield 132, [11, 15, 0, 0, 140]) ∧ px_at 200 87 = some (88, [], .aload_n 0, []) ∧ px_at 200 88 = some (91, [], .getfield 151, [11, 16, 0, 0, 141]) ∧ px_at 200 91 = some (94, [], .if_icmp .lt 6, [97]) ∧ px_at 200 94 = some (97, [], .goto 44, [138]) ∧ px_at 200 97 = some (98, [], .aload_n 0, []) ∧ px_at 200 98 = some (99, [], .iload_n 1, []) ∧ px_at 200 99 = some (102, [], .putfield 148, [11, 17, 0, 0, 142]) ∧ px_at 200 102 = some (103, [], .aload_n 0, []) ∧ px_at 200 103 = some (104, [], .aload_n 0, []) ∧ px_at 200 104 = some (107, [], .getfield 132, [11, 15, 0, 0, 140]) ∧ px_at 200 107 = some (110, [], .putfield 151, [11, 16, 0, 0, 141]) ∧ px_at 200 110 = some (111, [], .iconst 0, []) ∧ px_at 200 111 = some (112, [], .istore_n 2, []) ∧ px_at 200 112 = some (113, [1, 1, 1], .iload_n 2, []) ∧ px_at 200 113 = some (114, [], .aload_n 0, []) ∧ px_at 200 114 = some (117, [], .getfield 132, [11, 15, 0, 0, 140]) ∧ px_at 200 117 = some (120, [], .if_icmp .ge 21, [138]) ∧ px_at 200 120 = some (121, [], .aload_n 0, []) ∧ px_at 200 121 = some (124, [], .getfield 44, [11, 13, 2, 1, 138]) ∧ px_at 200 124 = some (125, [], .iload_n 2, []) ∧ px_at 200 125 = some (126, [], .aload_n 0, []) ∧ px_at 200 126 = some (129, [], .getfield 41, [11, 12, 2, 1, 137]) ∧ px_at 200 129 = some (130, [], .iload_n 2, []) ∧ px_at 200 130 = some (131, [], .iaload, []) ∧ px_at 200 131 = some (132, [], .iastore, []) ∧ px_at 200 132 = some (135, [], .iinc 2 1, []) ∧ px_at 200 135 = some (138, [], .goto (-23), [112]) ∧ px_at 200 138 = some (141, [], .iinc 1 1, []) ∧ px_at 200 141 = some (144, [], .goto (-97), [44]) ∧ px_at 200 144 = some (145, [], .return_, []) := ⟨rfl, rfl, rfl, rfl, rfl, rfl, rfl, rfl, rfl, rfl, rfl, rfl, rfl, rfl, rfl, rfl, rfl, rfl, rfl, rfl, rfl, rfl, rfl, rfl, rfl, rfl, rfl, rfl, rfl, rfl, rfl, rfl, rfl, rfl, rfl, rfl, rfl, rfl, rfl, rfl, rfl, rfl, rfl, rfl, rfl, rfl, rfl, rfl, rfl, rfl, rfl, rfl, rfl, rfl, rfl, rfl, rfl, rfl, rfl, rfl, rfl, rfl, rfl, rfl, rfl, rfl, rfl, rfl, rfl, rfl, rfl, rfl, rfl, rfl, rfl, rfl, rfl⟩
/-! the reference: what is kept -/
theorem pcl_rng {D B : List Int} (hD : D.length ≤ 40) (hB : B.length ≤ 40) (hb : ∀ b ∈ D, 0 ≤ b ∧ b < 256) : ∀ b ∈ pcl D B, 0 ≤ b ∧ b < 256 :=
  gN_rng (by omega) (by omega) (by omega) (fun j j0 j1 => hb _ (nth_mem j0 j1)) 41 0 [] [] (Int.le_refl 0) (by omega) (by decide) (fun _ h => by simp at h) (fun _ h => by simp at h)
/-- which contents are there -/
def rus (F dd : Int → Int) : Prop := ∀ c, 0 ≤ c → c < 40 → (0 ≤ dd c ∧ rC F c 0 = 1) ∨ (dd c < 0 ∧ rC F c 0 = 0)
def isFR (F : Int → Int) (D : List Int) (c : Int) : Prop := rC F c 0 = 1 ∧ rB F c = some D ∧ mkl D = rC F c 2
section PA
variable {M : px_mem} {Q : Option pv → px_mem → Prop}
set_option maxHeartbeats 600000 in
set_option maxRecDepth 100000 in
theorem lp_areDue {n : Int} (h9 : M 127 9 = n) (hn : n ≤ 40) (h1 : (∀ j, 0 ≤ j → j < n → M 134 j = M 137 j) → Q (some (0, 1)) M) (h0 : ¬ (∀ j, 0 ≤ j → j < n → M 134 j = M 137 j) → Q (some (0, 0)) M) (k : Int) (hk_k : k ≤ n) : 0 ≤ k → (∀ j, 0 ≤ j → j < k → M 134 j = M 137 j) → px_WP 198 0 0 (px_Q0 LAY Q) 15 [(2, 127), (0, k)] [] LAY M 0 0 := by
  refine up_ind (P := fun k => 0 ≤ k → (∀ j, 0 ≤ j → j < k → M 134 j = M 137 j) → px_WP 198 0 0 (px_Q0 LAY Q) 15 [(2, 127), (0, k)] [] LAY M 0 0) (n) (fun k hk_k ih => ?_) k hk_k
  intro k0 hj
  refine px_go_ok (inl := []) 60 ?_
  simp only [px_go, px_Q0_at, px_sx_0, px_sx_s, px_cl, px_step, ↓px_ll, px_lg, f4_, ↓px_r1, ↓px_r2, ↓px_r4, ↓px_r5, ↓px_p1, ↓px_p2, ↓px_p3, ↓px_pop, px_k_0, px_k_s, px_k3_0, px_stk_, px_cats, px_ent, px_st1, px_st2, px_mask, ↓px_tsw, ↓px_lsw, ct_, mls_0, mls_1, mls_2, mls_3, mls_4, mls_5, kd_0, kd_1, kd_2, kd_3, ln_0, ln_1, ln_2, ln_3, gf_0, gf_1, gf_2, gf_3, gf_4, gf_7, gf_21, gf_63, dy_0, dy_1, dy_2, dy_3, dy_7, dy_21, px_brT, px_brF, true_and, and_true, and_false, false_and, and_self, true_implies, false_implies, or_true, true_or, or_false, false_or, eq_self, ne_eq, not_false_eq_true, not_true_eq_false, if_true, if_false, List.mem_cons, List.not_mem_nil, List.length_cons, List.length_nil, Nat.reduceEqDiff, Nat.reduceAdd, Nat.reduceSub, Nat.reduceLeDiff, Nat.reduceLT, Int.reduceEq, Int.reduceLT, Int.reduceLE, Int.reduceNeg, Int.reduceAdd, Int.reduceSub, Int.reduceToNat, ↓reduceIte, one_ne_zero_, zero_ne_one_, px_in32L, cd_198, h9]
  repeat' (first | (with_reducible apply And.intro) | (with_reducible refine px_br_intro (fun _ => ?_) (fun _ => ?_)))
  all_goals (try (first | (unfold px_in32; omega) | omega))
  · exact h1 (fun j j0 j1 => hj j j0 (by omega))
  · rename_i c1 c2
    refine ih (by omega) (by omega) (fun j j0 j1 => ?_)
    by_cases q : j = k
    · rw [q]; exact c2
    · exact hj j j0 (by omega)
  · rename_i c1 c2
    exact h0 (fun z => c2 (z k k0 (by omega)))
set_option maxHeartbeats 600000 in
set_option maxRecDepth 100000 in
theorem sp_areDue {D B : List Int} (hD : lst (M 137) (D.length : Int) = D) (h14 : M 127 14 = (D.length : Int)) (hB : lst (M 134) (B.length : Int) = B) (h9 : M 127 9 = (B.length : Int)) (hm : B.length ≤ 40) (h1 : B = D → Q (some (0, 1)) M) (h0 : B ≠ D → Q (some (0, 0)) M) : px_Ok 198 [(2, 127)] LAY M Q := by
  refine px_ok_go (inl := []) (ls0 := [(2, 127), (9, 0)]) 60 (by decide) (Nat.le_of_ble_eq_true rfl) rfl ?_
  simp only [px_go, px_Q0_at, px_sx_0, px_sx_s, px_cl, px_step, ↓px_ll, px_lg, f4_, ↓px_r1, ↓px_r2, ↓px_r4, ↓px_r5, ↓px_p1, ↓px_p2, ↓px_p3, ↓px_pop, px_k_0, px_k_s, px_k3_0, px_stk_, px_cats, px_ent, px_st1, px_st2, px_mask, ↓px_tsw, ↓px_lsw, ct_, mls_0, mls_1, mls_2, mls_3, mls_4, mls_5, kd_0, kd_1, kd_2, kd_3, ln_0, ln_1, ln_2, ln_3, gf_0, gf_1, gf_2, gf_3, gf_4, gf_7, gf_21, gf_63, dy_0, dy_1, dy_2, dy_3, dy_7, dy_21, px_brT, px_brF, true_and, and_true, and_false, false_and, and_self, true_implies, false_implies, or_true, true_or, or_false, false_or, eq_self, ne_eq, not_false_eq_true, not_true_eq_false, if_true, if_false, List.mem_cons, List.not_mem_nil, List.length_cons, List.length_nil, Nat.reduceEqDiff, Nat.reduceAdd, Nat.reduceSub, Nat.reduceLeDiff, Nat.reduceLT, Int.reduceEq, Int.reduceLT, Int.reduceLE, Int.reduceNeg, Int.reduceAdd, Int.reduceSub, Int.reduceToNat, ↓reduceIte, one_ne_zero_, zero_ne_one_, px_in32L, cd_198, h14, h9]
  repeat' (first | (with_reducible apply And.intro) | (with_reducible refine px_br_intro (fun _ => ?_) (fun _ => ?_)))
  all_goals (try (first | (unfold px_in32; omega) | omega))
  · rename_i c1
    have key : (∀ j, 0 ≤ j → j < (B.length : Int) → M 134 j = M 137 j) ↔ B = D := by
      rw [← hB, ← hD, lst_len (by omega), lst_inj (by omega) (by omega)]
      exact ⟨fun z => ⟨c1, fun j j0 j1 => z j j0 (by omega)⟩, fun z j j0 j1 => z.2 j j0 (by omega)⟩
    exact lp_areDue h9 (by omega) (fun z => h1 (key.mp z)) (fun z => h0 (fun y => z (key.mpr y))) 0 (by omega) (Int.le_refl 0) (fun j j0 j1 => by omega)
  · rename_i c1
    exact h0 (fun z => c1 (by rw [z]))
set_option maxHeartbeats 600000 in
set_option maxRecDepth 100000 in
theorem lp_foundDue {M0 : px_mem} {dd : Int → Int} {D : List Int} (hr : rok (M0 128) dd) (hu : rus (M0 128) dd) (hD : lst (M0 137) (D.length : Int) = D) (h14 : M0 127 14 = (D.length : Int)) (h : ∀ M', frd M' M0 → Q (some (0, fnd 40 (isFR (M0 128) D))) M') (k : Int) (hk_k : k ≤ 40) : ∀ (M : px_mem), 0 ≤ k → (∀ j, 0 ≤ j → j < k → ¬ isFR (M0 128) D j) → frd M M0 → px_WP 199 0 0 (px_Q0 LAY Q) 2 [(2, 127), (0, k)] [] LAY M 0 0 := by
  refine up_ind (P := fun k => ∀ (M : px_mem), 0 ≤ k → (∀ j, 0 ≤ j → j < k → ¬ isFR (M0 128) D j) → frd M M0 → px_WP 199 0 0 (px_Q0 LAY Q) 2 [(2, 127), (0, k)] [] LAY M 0 0) (40) (fun k hk_k ih => ?_) k hk_k
  intro M k0 hj hf
  have e128 := frd_128 hf
  have hnx : k < 40 → ∀ M', ¬ isFR (M0 128) D k → frd M' M0 → px_WP 199 0 0 (px_Q0 LAY Q) 2 [(2, 127), (0, k + 1)] [] LAY M' 0 0 := fun q M' z hf' => ih q M' (by omega) (fun j j0 j1 => by
    by_cases y : j = k
    · rw [y]; exact z
    · exact hj j j0 (by omega)) hf'
  refine px_go_ok (inl := []) 60 ?_
  simp only [px_go, px_Q0_at, px_sx_0, px_sx_s, px_cl, px_step, ↓px_ll, px_lg, f4_, ↓px_r1, ↓px_r2, ↓px_r4, ↓px_r5, ↓px_p1, ↓px_p2, ↓px_p3, ↓px_pop, px_k_0, px_k_s, px_k3_0, px_stk_, px_cats, px_ent, px_st1, px_st2, px_mask, ↓px_tsw, ↓px_lsw, ct_, mls_0, mls_1, mls_2, mls_3, mls_4, mls_5, kd_0, kd_1, kd_2, kd_3, ln_0, ln_1, ln_2, ln_3, gf_0, gf_1, gf_2, gf_3, gf_4, gf_7, gf_21, gf_63, dy_0, dy_1, dy_2, dy_3, dy_7, dy_21, px_brT, px_brF, true_and, and_true, and_false, false_and, and_self, true_implies, false_implies, or_true, true_or, or_false, false_or, eq_self, ne_eq, not_false_eq_true, not_true_eq_false, if_true, if_false, List.mem_cons, List.not_mem_nil, List.length_cons, List.length_nil, Nat.reduceEqDiff, Nat.reduceAdd, Nat.reduceSub, Nat.reduceLeDiff, Nat.reduceLT, Int.reduceEq, Int.reduceLT, Int.reduceLE, Int.reduceNeg, Int.reduceAdd, Int.reduceSub, Int.reduceToNat, ↓reduceIte, one_ne_zero_, zero_ne_one_, px_in32L, cd_199]
  repeat' (first | (with_reducible apply And.intro) | (with_reducible refine px_br_intro (fun _ => ?_) (fun _ => ?_)))
  all_goals (try (first | (unfold px_in32; omega) | omega))
  · rename_i c1
    have := h M hf
    rw [fnd_miss (fun j j0 j1 => hj j j0 (by omega))] at this
    exact this
  · rename_i c1
    refine sp_partOf ⟨k0, by omega⟩ (by decide) ?_
    rw [e128]
    simp only [px_go, px_Q0_at, px_sx_0, px_sx_s, px_cl, px_step, ↓px_ll, px_lg, f4_, ↓px_r1, ↓px_r2, ↓px_r4, ↓px_r5, ↓px_p1, ↓px_p2, ↓px_p3, ↓px_pop, px_k_0, px_k_s, px_k3_0, px_stk_, px_cats, px_ent, px_st1, px_st2, px_mask, ↓px_tsw, ↓px_lsw, ct_, mls_0, mls_1, mls_2, mls_3, mls_4, mls_5, kd_0, kd_1, kd_2, kd_3, ln_0, ln_1, ln_2, ln_3, gf_0, gf_1, gf_2, gf_3, gf_4, gf_7, gf_21, gf_63, dy_0, dy_1, dy_2, dy_3, dy_7, dy_21, px_brT, px_brF, true_and, and_true, and_false, false_and, and_self, true_implies, false_implies, or_true, true_or, or_false, false_or, eq_self, ne_eq, not_false_eq_true, not_true_eq_false, if_true, if_false, List.mem_cons, List.not_mem_nil, List.length_cons, List.length_nil, Nat.reduceEqDiff, Nat.reduceAdd, Nat.reduceSub, Nat.reduceLeDiff, Nat.reduceLT, Int.reduceEq, Int.reduceLT, Int.reduceLE, Int.reduceNeg, Int.reduceAdd, Int.reduceSub, Int.reduceToNat, ↓reduceIte, one_ne_zero_, zero_ne_one_, px_in32L, cd_199]
    repeat' (first | (with_reducible apply And.intro) | (with_reducible refine px_br_intro (fun _ => ?_) (fun _ => ?_)))
    all_goals (try (first | (unfold px_in32; omega) | omega))
    · rename_i c2
      have hd : 0 ≤ dd k := by have := hu k k0 (by omega); omega
      refine sp_isWhole (by rw [e128]; exact hr) ⟨k0, by omega, hd⟩ (fun M1 l a1 a2 a3 a4 a5 => ?_) (fun M1 a1 a5 => ?_)
      · rw [e128] at a1 a2
        have f1 := frd_trans a5 hf
        have hl := rB_len hr k0 (by omega) hd a1
        simp only [px_go, px_Q0_at, px_sx_0, px_sx_s, px_cl, px_step, ↓px_ll, px_lg, f4_, ↓px_r1, ↓px_r2, ↓px_r4, ↓px_r5, ↓px_p1, ↓px_p2, ↓px_p3, ↓px_pop, px_k_0, px_k_s, px_k3_0, px_stk_, px_cats, px_ent, px_st1, px_st2, px_mask, ↓px_tsw, ↓px_lsw, ct_, mls_0, mls_1, mls_2, mls_3, mls_4, mls_5, kd_0, kd_1, kd_2, kd_3, ln_0, ln_1, ln_2, ln_3, gf_0, gf_1, gf_2, gf_3, gf_4, gf_7, gf_21, gf_63, dy_0, dy_1, dy_2, dy_3, dy_7, dy_21, px_brT, px_brF, true_and, and_true, and_false, false_and, and_self, true_implies, false_implies, or_true, true_or, or_false, false_or, eq_self, ne_eq, not_false_eq_true, not_true_eq_false, if_true, if_false, List.mem_cons, List.not_mem_nil, List.length_cons, List.length_nil, Nat.reduceEqDiff, Nat.reduceAdd, Nat.reduceSub, Nat.reduceLeDiff, Nat.reduceLT, Int.reduceEq, Int.reduceLT, Int.reduceLE, Int.reduceNeg, Int.reduceAdd, Int.reduceSub, Int.reduceToNat, ↓reduceIte, one_ne_zero_, zero_ne_one_, px_in32L, cd_199]
        refine sp_areDue (D := D) (B := l) (by rw [f1.2 137 (by decide) (by decide) (by decide) (by decide)]; exact hD) (by rw [f1.1 14 (by decide)]; exact h14) a3 a4 (by omega) (fun w => ?_) (fun w => ?_)
        · simp only [px_go, px_Q0_at, px_sx_0, px_sx_s, px_cl, px_step, ↓px_ll, px_lg, f4_, ↓px_r1, ↓px_r2, ↓px_r4, ↓px_r5, ↓px_p1, ↓px_p2, ↓px_p3, ↓px_pop, px_k_0, px_k_s, px_k3_0, px_stk_, px_cats, px_ent, px_st1, px_st2, px_mask, ↓px_tsw, ↓px_lsw, ct_, mls_0, mls_1, mls_2, mls_3, mls_4, mls_5, kd_0, kd_1, kd_2, kd_3, ln_0, ln_1, ln_2, ln_3, gf_0, gf_1, gf_2, gf_3, gf_4, gf_7, gf_21, gf_63, dy_0, dy_1, dy_2, dy_3, dy_7, dy_21, px_brT, px_brF, true_and, and_true, and_false, false_and, and_self, true_implies, false_implies, or_true, true_or, or_false, false_or, eq_self, ne_eq, not_false_eq_true, not_true_eq_false, if_true, if_false, List.mem_cons, List.not_mem_nil, List.length_cons, List.length_nil, Nat.reduceEqDiff, Nat.reduceAdd, Nat.reduceSub, Nat.reduceLeDiff, Nat.reduceLT, Int.reduceEq, Int.reduceLT, Int.reduceLE, Int.reduceNeg, Int.reduceAdd, Int.reduceSub, Int.reduceToNat, ↓reduceIte, one_ne_zero_, zero_ne_one_, px_in32L, cd_199]
          have := h M1 f1
          rw [fnd_hit (i := k) k0 (by omega) ⟨c2, by rw [← w]; exact a1, by rw [← w]; exact a2⟩ hj] at this
          exact this
        · simp only [px_go, px_Q0_at, px_sx_0, px_sx_s, px_cl, px_step, ↓px_ll, px_lg, f4_, ↓px_r1, ↓px_r2, ↓px_r4, ↓px_r5, ↓px_p1, ↓px_p2, ↓px_p3, ↓px_pop, px_k_0, px_k_s, px_k3_0, px_stk_, px_cats, px_ent, px_st1, px_st2, px_mask, ↓px_tsw, ↓px_lsw, ct_, mls_0, mls_1, mls_2, mls_3, mls_4, mls_5, kd_0, kd_1, kd_2, kd_3, ln_0, ln_1, ln_2, ln_3, gf_0, gf_1, gf_2, gf_3, gf_4, gf_7, gf_21, gf_63, dy_0, dy_1, dy_2, dy_3, dy_7, dy_21, px_brT, px_brF, true_and, and_true, and_false, false_and, and_self, true_implies, false_implies, or_true, true_or, or_false, false_or, eq_self, ne_eq, not_false_eq_true, not_true_eq_false, if_true, if_false, List.mem_cons, List.not_mem_nil, List.length_cons, List.length_nil, Nat.reduceEqDiff, Nat.reduceAdd, Nat.reduceSub, Nat.reduceLeDiff, Nat.reduceLT, Int.reduceEq, Int.reduceLT, Int.reduceLE, Int.reduceNeg, Int.reduceAdd, Int.reduceSub, Int.reduceToNat, ↓reduceIte, one_ne_zero_, zero_ne_one_, px_in32L, cd_199]
          repeat' (first | (with_reducible apply And.intro) | (with_reducible refine px_br_intro (fun _ => ?_) (fun _ => ?_)))
          all_goals (try (first | (unfold px_in32; omega) | omega))
          refine hnx (by omega) M1 (fun z => w ?_) f1
          have := z.2.1
          rw [a1] at this
          exact Option.some.inj this
      · rw [e128] at a1
        simp only [px_go, px_Q0_at, px_sx_0, px_sx_s, px_cl, px_step, ↓px_ll, px_lg, f4_, ↓px_r1, ↓px_r2, ↓px_r4, ↓px_r5, ↓px_p1, ↓px_p2, ↓px_p3, ↓px_pop, px_k_0, px_k_s, px_k3_0, px_stk_, px_cats, px_ent, px_st1, px_st2, px_mask, ↓px_tsw, ↓px_lsw, ct_, mls_0, mls_1, mls_2, mls_3, mls_4, mls_5, kd_0, kd_1, kd_2, kd_3, ln_0, ln_1, ln_2, ln_3, gf_0, gf_1, gf_2, gf_3, gf_4, gf_7, gf_21, gf_63, dy_0, dy_1, dy_2, dy_3, dy_7, dy_21, px_brT, px_brF, true_and, and_true, and_false, false_and, and_self, true_implies, false_implies, or_true, true_or, or_false, false_or, eq_self, ne_eq, not_false_eq_true, not_true_eq_false, if_true, if_false, List.mem_cons, List.not_mem_nil, List.length_cons, List.length_nil, Nat.reduceEqDiff, Nat.reduceAdd, Nat.reduceSub, Nat.reduceLeDiff, Nat.reduceLT, Int.reduceEq, Int.reduceLT, Int.reduceLE, Int.reduceNeg, Int.reduceAdd, Int.reduceSub, Int.reduceToNat, ↓reduceIte, one_ne_zero_, zero_ne_one_, px_in32L, cd_199]
        repeat' (first | (with_reducible apply And.intro) | (with_reducible refine px_br_intro (fun _ => ?_) (fun _ => ?_)))
        all_goals (try (first | (unfold px_in32; omega) | omega))
        exact hnx (by omega) M1 (fun z => a1 ⟨D, z.2⟩) (frd_trans a5 hf)
    · rename_i c2
      exact hnx (by omega) M (fun z => c2 z.1) hf
set_option maxHeartbeats 600000 in
set_option maxRecDepth 100000 in
theorem sp_foundDue {dd : Int → Int} {D : List Int} (hr : rok (M 128) dd) (hu : rus (M 128) dd) (hD : lst (M 137) (D.length : Int) = D) (h14 : M 127 14 = (D.length : Int)) (h : ∀ M', frd M' M → Q (some (0, fnd 40 (isFR (M 128) D))) M') : px_Ok 199 [(2, 127)] LAY M Q := by
  refine px_ok_go (inl := []) (ls0 := [(2, 127), (9, 0)]) 60 (by decide) (Nat.le_of_ble_eq_true rfl) rfl ?_
  simp only [px_go, px_Q0_at, px_sx_0, px_sx_s, px_cl, px_step, ↓px_ll, px_lg, f4_, ↓px_r1, ↓px_r2, ↓px_r4, ↓px_r5, ↓px_p1, ↓px_p2, ↓px_p3, ↓px_pop, px_k_0, px_k_s, px_k3_0, px_stk_, px_cats, px_ent, px_st1, px_st2, px_mask, ↓px_tsw, ↓px_lsw, ct_, mls_0, mls_1, mls_2, mls_3, mls_4, mls_5, kd_0, kd_1, kd_2, kd_3, ln_0, ln_1, ln_2, ln_3, gf_0, gf_1, gf_2, gf_3, gf_4, gf_7, gf_21, gf_63, dy_0, dy_1, dy_2, dy_3, dy_7, dy_21, px_brT, px_brF, true_and, and_true, and_false, false_and, and_self, true_implies, false_implies, or_true, true_or, or_false, false_or, eq_self, ne_eq, not_false_eq_true, not_true_eq_false, if_true, if_false, List.mem_cons, List.not_mem_nil, List.length_cons, List.length_nil, Nat.reduceEqDiff, Nat.reduceAdd, Nat.reduceSub, Nat.reduceLeDiff, Nat.reduceLT, Int.reduceEq, Int.reduceLT, Int.reduceLE, Int.reduceNeg, Int.reduceAdd, Int.reduceSub, Int.reduceToNat, ↓reduceIte, one_ne_zero_, zero_ne_one_, px_in32L, cd_199]
  repeat' (first | (with_reducible apply And.intro) | (with_reducible refine px_br_intro (fun _ => ?_) (fun _ => ?_)))
  all_goals (try (first | (unfold px_in32; omega) | omega))
  exact lp_foundDue (M0 := M) hr hu hD h14 h 0 (by decide) M (Int.le_refl 0) (fun j j0 j1 => by omega) (frd_refl M)
/-- the bytes at hand, none if it can't be read -/
def rBl (F : Int → Int) (c : Int) : List Int := (rB F c).getD []
def cndR (F dd : Int → Int) (c : Int) : Prop := 0 ≤ dd c ∧ dd c < 3 ∧ whR F c
noncomputable def szR (F : Int → Int) (D : List Int) (c : Int) : Int := ((pcl D (rBl F c)).length : Int)
noncomputable def bstR (F : Int → Int) (D : List Int) (b : Int) : List Int := if b < 0 then D else pcl D (rBl F b)
def frc (M' M : px_mem) : Prop := (∀ j, j ≠ 9 → j ≠ 15 → j ≠ 16 → j ≠ 17 → M' 127 j = M 127 j) ∧ ∀ b, b ≠ 127 → b ≠ 134 → b ≠ 135 → b ≠ 136 → b ≠ 138 → b ≠ 139 → M' b = M b
theorem frc_trans {A B C : px_mem} (h : frc A B) (h2 : frc B C) : frc A C := ⟨fun j j0 j1 j2 j3 => by rw [h.1 j j0 j1 j2 j3, h2.1 j j0 j1 j2 j3], fun b b0 b1 b2 b3 b4 b5 => by rw [h.2 b b0 b1 b2 b3 b4 b5, h2.2 b b0 b1 b2 b3 b4 b5]⟩
theorem frd_frc {A B : px_mem} (h : frd A B) : frc A B := ⟨fun j j0 _ _ _ => h.1 j j0, fun b b0 b1 b2 b3 _ _ => h.2 b b0 b1 b2 b3⟩
theorem frc_128 {A B : px_mem} (h : frc A B) : A 128 = B 128 := h.2 128 (by decide) (by decide) (by decide) (by decide) (by decide) (by decide)
theorem frc_137 {A B : px_mem} (h : frc A B) : A 137 = B 137 := h.2 137 (by decide) (by decide) (by decide) (by decide) (by decide) (by decide)
theorem frc_14 {A B : px_mem} (h : frc A B) : A 127 14 = B 127 14 := h.1 14 (by decide) (by decide) (by decide) (by decide)
set_option maxHeartbeats 600000 in
set_option maxRecDepth 100000 in
theorem lp_ch1 {M0 : px_mem} {n : Int} (h14 : M0 127 14 = n) (hn : n ≤ 40) (hx : ∀ M', lst (M' 139) n = lst (M0 137) n → (∀ b, b ≠ 139 → M' b = M0 b) → px_WP 200 0 0 (px_Q0 LAY Q) 44 [(2, 127), (0, 0), (9, 0)] [] LAY M' 0 0) (k : Int) (hk_k : k ≤ n) : ∀ (M : px_mem), 0 ≤ k → lst (M 139) k = lst (M0 137) k → (∀ b, b ≠ 139 → M b = M0 b) → px_WP 200 0 0 (px_Q0 LAY Q) 16 [(2, 127), (0, k), (9, 0)] [] LAY M 0 0 := by
  refine up_ind (P := fun k => ∀ (M : px_mem), 0 ≤ k → lst (M 139) k = lst (M0 137) k → (∀ b, b ≠ 139 → M b = M0 b) → px_WP 200 0 0 (px_Q0 LAY Q) 16 [(2, 127), (0, k), (9, 0)] [] LAY M 0 0) (n) (fun k hk_k ih => ?_) k hk_k
  intro M k0 ha hf
  have h127 := hf 127 (by decide)
  have h137 := hf 137 (by decide)
  refine px_go_ok (inl := []) 60 ?_
  simp only [px_go, px_Q0_at, px_sx_0, px_sx_s, px_cl, px_step, ↓px_ll, px_lg, f4_, ↓px_r1, ↓px_r2, ↓px_r4, ↓px_r5, ↓px_p1, ↓px_p2, ↓px_p3, ↓px_pop, px_k_0, px_k_s, px_k3_0, px_stk_, px_cats, px_ent, px_st1, px_st2, px_mask, ↓px_tsw, ↓px_lsw, ct_, mls_0, mls_1, mls_2, mls_3, mls_4, mls_5, kd_0, kd_1, kd_2, kd_3, ln_0, ln_1, ln_2, ln_3, gf_0, gf_1, gf_2, gf_3, gf_4, gf_7, gf_21, gf_63, dy_0, dy_1, dy_2, dy_3, dy_7, dy_21, px_brT, px_brF, true_and, and_true, and_false, false_and, and_self, true_implies, false_implies, or_true, true_or, or_false, false_or, eq_self, ne_eq, not_false_eq_true, not_true_eq_false, if_true, if_false, List.mem_cons, List.not_mem_nil, List.length_cons, List.length_nil, Nat.reduceEqDiff, Nat.reduceAdd, Nat.reduceSub, Nat.reduceLeDiff, Nat.reduceLT, Int.reduceEq, Int.reduceLT, Int.reduceLE, Int.reduceNeg, Int.reduceAdd, Int.reduceSub, Int.reduceToNat, ↓reduceIte, one_ne_zero_, zero_ne_one_, px_in32L, cd_200, h127, h137, h14]
  repeat' (first | (with_reducible apply And.intro) | (with_reducible refine px_br_intro (fun _ => ?_) (fun _ => ?_)))
  all_goals (try (first | (unfold px_in32; omega) | omega))
  · rename_i c1
    rw [show k = n by omega] at ha
    exact hx M ha hf
  · refine ih (by omega) _ (by omega) ?_ (fun b b0 => by rw [row_ne b0]; exact hf b b0)
    rw [lst_up M 139 _ k0, ha, lst_snoc k0]
set_option maxHeartbeats 600000 in
set_option maxRecDepth 100000 in
theorem lp_ch2 {M0 : px_mem} {n c : Int} (h15 : M0 127 15 = n) (hn : n ≤ 40) (hc : 0 ≤ c ∧ c < 40) (hx : ∀ M', lst (M' 139) n = lst (M0 138) n → (∀ b, b ≠ 139 → M' b = M0 b) → px_WP 200 0 0 (px_Q0 LAY Q) 44 [(2, 127), (0, c + 1), (9, 0)] [] LAY M' 0 0) (k : Int) (hk_k : k ≤ n) : ∀ (M : px_mem), 0 ≤ k → lst (M 139) k = lst (M0 138) k → (∀ b, b ≠ 139 → M b = M0 b) → px_WP 200 0 0 (px_Q0 LAY Q) 112 [(2, 127), (0, c), (0, k)] [] LAY M 0 0 := by
  refine up_ind (P := fun k => ∀ (M : px_mem), 0 ≤ k → lst (M 139) k = lst (M0 138) k → (∀ b, b ≠ 139 → M b = M0 b) → px_WP 200 0 0 (px_Q0 LAY Q) 112 [(2, 127), (0, c), (0, k)] [] LAY M 0 0) (n) (fun k hk_k ih => ?_) k hk_k
  intro M k0 ha hf
  have h127 := hf 127 (by decide)
  have h138 := hf 138 (by decide)
  refine px_go_ok (inl := []) 60 ?_
  simp only [px_go, px_Q0_at, px_sx_0, px_sx_s, px_cl, px_step, ↓px_ll, px_lg, f4_, ↓px_r1, ↓px_r2, ↓px_r4, ↓px_r5, ↓px_p1, ↓px_p2, ↓px_p3, ↓px_pop, px_k_0, px_k_s, px_k3_0, px_stk_, px_cats, px_ent, px_st1, px_st2, px_mask, ↓px_tsw, ↓px_lsw, ct_, mls_0, mls_1, mls_2, mls_3, mls_4, mls_5, kd_0, kd_1, kd_2, kd_3, ln_0, ln_1, ln_2, ln_3, gf_0, gf_1, gf_2, gf_3, gf_4, gf_7, gf_21, gf_63, dy_0, dy_1, dy_2, dy_3, dy_7, dy_21, px_brT, px_brF, true_and, and_true, and_false, false_and, and_self, true_implies, false_implies, or_true, true_or, or_false, false_or, eq_self, ne_eq, not_false_eq_true, not_true_eq_false, if_true, if_false, List.mem_cons, List.not_mem_nil, List.length_cons, List.length_nil, Nat.reduceEqDiff, Nat.reduceAdd, Nat.reduceSub, Nat.reduceLeDiff, Nat.reduceLT, Int.reduceEq, Int.reduceLT, Int.reduceLE, Int.reduceNeg, Int.reduceAdd, Int.reduceSub, Int.reduceToNat, ↓reduceIte, one_ne_zero_, zero_ne_one_, px_in32L, cd_200, h127, h138, h15]
  repeat' (first | (with_reducible apply And.intro) | (with_reducible refine px_br_intro (fun _ => ?_) (fun _ => ?_)))
  all_goals (try (first | (unfold px_in32; omega) | omega))
  · rename_i c1
    rw [show k = n by omega] at ha
    exact hx M ha hf
  · refine ih (by omega) _ (by omega) ?_ (fun b b0 => by rw [row_ne b0]; exact hf b b0)
    rw [lst_up M 139 _ k0, ha, lst_snoc k0]
set_option maxHeartbeats 600000 in
set_option maxRecDepth 100000 in
theorem lp_ch3 {M0 : px_mem} {dd : Int → Int} {D : List Int} (hr : rok (M0 128) dd) (hu : rus (M0 128) dd) (hD : lst (M0 137) (D.length : Int) = D) (h14 : M0 127 14 = (D.length : Int)) (hn : D.length ≤ 40) (hby : ∀ b ∈ D, 0 ≤ b ∧ b < 256) (h : ∀ M' b l, isBB (cndR (M0 128) dd) (szR (M0 128) D) (D.length : Int) 40 b l → M' 127 17 = b → M' 127 16 = l → lst (M' 139) l = bstR (M0 128) D b → frc M' M0 → Q none M') (c : Int) (hk_c : c ≤ 40) : ∀ (M : px_mem) (b l : Int), 0 ≤ c → isBB (cndR (M0 128) dd) (szR (M0 128) D) (D.length : Int) c b l → M 127 17 = b → M 127 16 = l → lst (M 139) l = bstR (M0 128) D b → frc M M0 → px_WP 200 0 0 (px_Q0 LAY Q) 44 [(2, 127), (0, c), (9, 0)] [] LAY M 0 0 := by
  refine up_ind (P := fun c => ∀ (M : px_mem) (b l : Int), 0 ≤ c → isBB (cndR (M0 128) dd) (szR (M0 128) D) (D.length : Int) c b l → M 127 17 = b → M 127 16 = l → lst (M 139) l = bstR (M0 128) D b → frc M M0 → px_WP 200 0 0 (px_Q0 LAY Q) 44 [(2, 127), (0, c), (9, 0)] [] LAY M 0 0) (40) (fun c hk_c ih => ?_) c hk_c
  intro M b l c0 hb h17 h16 hl hf
  have e128 := frc_128 hf
  have e137 := frc_137 hf
  have e14 := frc_14 hf
  have hl40 : 0 ≤ l ∧ l ≤ 40 := by
    rcases hb with z | z
    · omega
    · have : 0 ≤ szR (M0 128) D b := Int.natCast_nonneg _
      omega
  have hno : c < 40 → ∀ M', (cndR (M0 128) dd c → l ≤ szR (M0 128) D c) → M' 127 17 = b → M' 127 16 = l → M' 139 = M 139 → frc M' M0 → px_WP 200 0 0 (px_Q0 LAY Q) 44 [(2, 127), (0, c + 1), (9, 0)] [] LAY M' 0 0 := fun q M' z y17 y16 y139 hf' => ih q M' b l (by omega) (isBB_no hb z) y17 y16 (by rw [y139]; exact hl) hf'
  refine px_go_ok (inl := []) 60 ?_
  simp only [px_go, px_Q0_at, px_sx_0, px_sx_s, px_cl, px_step, ↓px_ll, px_lg, f4_, ↓px_r1, ↓px_r2, ↓px_r4, ↓px_r5, ↓px_p1, ↓px_p2, ↓px_p3, ↓px_pop, px_k_0, px_k_s, px_k3_0, px_stk_, px_cats, px_ent, px_st1, px_st2, px_mask, ↓px_tsw, ↓px_lsw, ct_, mls_0, mls_1, mls_2, mls_3, mls_4, mls_5, kd_0, kd_1, kd_2, kd_3, ln_0, ln_1, ln_2, ln_3, gf_0, gf_1, gf_2, gf_3, gf_4, gf_7, gf_21, gf_63, dy_0, dy_1, dy_2, dy_3, dy_7, dy_21, px_brT, px_brF, true_and, and_true, and_false, false_and, and_self, true_implies, false_implies, or_true, true_or, or_false, false_or, eq_self, ne_eq, not_false_eq_true, not_true_eq_false, if_true, if_false, List.mem_cons, List.not_mem_nil, List.length_cons, List.length_nil, Nat.reduceEqDiff, Nat.reduceAdd, Nat.reduceSub, Nat.reduceLeDiff, Nat.reduceLT, Int.reduceEq, Int.reduceLT, Int.reduceLE, Int.reduceNeg, Int.reduceAdd, Int.reduceSub, Int.reduceToNat, ↓reduceIte, one_ne_zero_, zero_ne_one_, px_in32L, cd_200]
  repeat' (first | (with_reducible apply And.intro) | (with_reducible refine px_br_intro (fun _ => ?_) (fun _ => ?_)))
  all_goals (try (first | (unfold px_in32; omega) | omega))
  · rename_i c1
    rw [show c = 40 by omega] at hb
    exact h M b l hb h17 h16 hl hf
  · rename_i c1
    have hc := hu c c0 (by omega)
    refine sp_partOf ⟨c0, by omega⟩ (by decide) ?_
    rw [e128]
    simp only [px_go, px_Q0_at, px_sx_0, px_sx_s, px_cl, px_step, ↓px_ll, px_lg, f4_, ↓px_r1, ↓px_r2, ↓px_r4, ↓px_r5, ↓px_p1, ↓px_p2, ↓px_p3, ↓px_pop, px_k_0, px_k_s, px_k3_0, px_stk_, px_cats, px_ent, px_st1, px_st2, px_mask, ↓px_tsw, ↓px_lsw, ct_, mls_0, mls_1, mls_2, mls_3, mls_4, mls_5, kd_0, kd_1, kd_2, kd_3, ln_0, ln_1, ln_2, ln_3, gf_0, gf_1, gf_2, gf_3, gf_4, gf_7, gf_21, gf_63, dy_0, dy_1, dy_2, dy_3, dy_7, dy_21, px_brT, px_brF, true_and, and_true, and_false, false_and, and_self, true_implies, false_implies, or_true, true_or, or_false, false_or, eq_self, ne_eq, not_false_eq_true, not_true_eq_false, if_true, if_false, List.mem_cons, List.not_mem_nil, List.length_cons, List.length_nil, Nat.reduceEqDiff, Nat.reduceAdd, Nat.reduceSub, Nat.reduceLeDiff, Nat.reduceLT, Int.reduceEq, Int.reduceLT, Int.reduceLE, Int.reduceNeg, Int.reduceAdd, Int.reduceSub, Int.reduceToNat, ↓reduceIte, one_ne_zero_, zero_ne_one_, px_in32L, cd_200]
    repeat' (first | (with_reducible apply And.intro) | (with_reducible refine px_br_intro (fun _ => ?_) (fun _ => ?_)))
    all_goals (try (first | (unfold px_in32; omega) | omega))
    · rename_i c2
      exact hno (by omega) M (fun z => absurd z.1 (by omega)) h17 h16 rfl hf
    · rename_i c2
      have hd : 0 ≤ dd c := by omega
      refine sp_depthOf (dd := dd) (by rw [e128]; exact hr.1) ⟨c0, by omega, hd⟩ ?_
      simp only [px_go, px_Q0_at, px_sx_0, px_sx_s, px_cl, px_step, ↓px_ll, px_lg, f4_, ↓px_r1, ↓px_r2, ↓px_r4, ↓px_r5, ↓px_p1, ↓px_p2, ↓px_p3, ↓px_pop, px_k_0, px_k_s, px_k3_0, px_stk_, px_cats, px_ent, px_st1, px_st2, px_mask, ↓px_tsw, ↓px_lsw, ct_, mls_0, mls_1, mls_2, mls_3, mls_4, mls_5, kd_0, kd_1, kd_2, kd_3, ln_0, ln_1, ln_2, ln_3, gf_0, gf_1, gf_2, gf_3, gf_4, gf_7, gf_21, gf_63, dy_0, dy_1, dy_2, dy_3, dy_7, dy_21, px_brT, px_brF, true_and, and_true, and_false, false_and, and_self, true_implies, false_implies, or_true, true_or, or_false, false_or, eq_self, ne_eq, not_false_eq_true, not_true_eq_false, if_true, if_false, List.mem_cons, List.not_mem_nil, List.length_cons, List.length_nil, Nat.reduceEqDiff, Nat.reduceAdd, Nat.reduceSub, Nat.reduceLeDiff, Nat.reduceLT, Int.reduceEq, Int.reduceLT, Int.reduceLE, Int.reduceNeg, Int.reduceAdd, Int.reduceSub, Int.reduceToNat, ↓reduceIte, one_ne_zero_, zero_ne_one_, px_in32L, cd_200]
      repeat' (first | (with_reducible apply And.intro) | (with_reducible refine px_br_intro (fun _ => ?_) (fun _ => ?_)))
      all_goals (try (first | (unfold px_in32; omega) | omega))
      · rename_i c3
        exact hno (by omega) M (fun z => absurd z.2.1 (by omega)) h17 h16 rfl hf
      · rename_i c3
        refine sp_isWhole (dd := dd) (by rw [e128]; exact hr) ⟨c0, by omega, hd⟩ (fun M1 B a1 a2 a3 a4 a5 => ?_) (fun M1 a1 a5 => ?_)
        · rw [e128] at a1 a2
          have f1 := frc_trans (frd_frc a5) hf
          have hB := rB_len hr c0 (by omega) hd a1
          have hBl : rBl (M0 128) c = B := by unfold rBl; rw [a1]; rfl
          simp only [px_go, px_Q0_at, px_sx_0, px_sx_s, px_cl, px_step, ↓px_ll, px_lg, f4_, ↓px_r1, ↓px_r2, ↓px_r4, ↓px_r5, ↓px_p1, ↓px_p2, ↓px_p3, ↓px_pop, px_k_0, px_k_s, px_k3_0, px_stk_, px_cats, px_ent, px_st1, px_st2, px_mask, ↓px_tsw, ↓px_lsw, ct_, mls_0, mls_1, mls_2, mls_3, mls_4, mls_5, kd_0, kd_1, kd_2, kd_3, ln_0, ln_1, ln_2, ln_3, gf_0, gf_1, gf_2, gf_3, gf_4, gf_7, gf_21, gf_63, dy_0, dy_1, dy_2, dy_3, dy_7, dy_21, px_brT, px_brF, true_and, and_true, and_false, false_and, and_self, true_implies, false_implies, or_true, true_or, or_false, false_or, eq_self, ne_eq, not_false_eq_true, not_true_eq_false, if_true, if_false, List.mem_cons, List.not_mem_nil, List.length_cons, List.length_nil, Nat.reduceEqDiff, Nat.reduceAdd, Nat.reduceSub, Nat.reduceLeDiff, Nat.reduceLT, Int.reduceEq, Int.reduceLT, Int.reduceLE, Int.reduceNeg, Int.reduceAdd, Int.reduceSub, Int.reduceToNat, ↓reduceIte, one_ne_zero_, zero_ne_one_, px_in32L, cd_200]
          refine sp_makes (D := D) (B := B) (by rw [frc_137 f1]; exact hD) (by rw [frc_14 f1]; exact h14) hn a3 a4 (by omega) hby (fun M2 d1 d2 d3 d4 => ?_)
          have f2 : frc M2 M0 := frc_trans ⟨fun j j0 j1 _ _ => d3 j j1, fun b b0 _ _ _ b4 _ => d4 b b0 b4⟩ f1
          have e16 : M2 127 16 = l := by rw [d3 16 (by decide), a5.1 16 (by decide)]; exact h16
          have e17 : M2 127 17 = b := by rw [d3 17 (by decide), a5.1 17 (by decide)]; exact h17
          have hcnd : cndR (M0 128) dd c := ⟨hd, by omega, ⟨B, a1, a2⟩⟩
          have hsz : szR (M0 128) D c = ((pcl D B).length : Int) := by unfold szR; rw [hBl]
          simp only [px_go, px_Q0_at, px_sx_0, px_sx_s, px_cl, px_step, ↓px_ll, px_lg, f4_, ↓px_r1, ↓px_r2, ↓px_r4, ↓px_r5, ↓px_p1, ↓px_p2, ↓px_p3, ↓px_pop, px_k_0, px_k_s, px_k3_0, px_stk_, px_cats, px_ent, px_st1, px_st2, px_mask, ↓px_tsw, ↓px_lsw, ct_, mls_0, mls_1, mls_2, mls_3, mls_4, mls_5, kd_0, kd_1, kd_2, kd_3, ln_0, ln_1, ln_2, ln_3, gf_0, gf_1, gf_2, gf_3, gf_4, gf_7, gf_21, gf_63, dy_0, dy_1, dy_2, dy_3, dy_7, dy_21, px_brT, px_brF, true_and, and_true, and_false, false_and, and_self, true_implies, false_implies, or_true, true_or, or_false, false_or, eq_self, ne_eq, not_false_eq_true, not_true_eq_false, if_true, if_false, List.mem_cons, List.not_mem_nil, List.length_cons, List.length_nil, Nat.reduceEqDiff, Nat.reduceAdd, Nat.reduceSub, Nat.reduceLeDiff, Nat.reduceLT, Int.reduceEq, Int.reduceLT, Int.reduceLE, Int.reduceNeg, Int.reduceAdd, Int.reduceSub, Int.reduceToNat, ↓reduceIte, one_ne_zero_, zero_ne_one_, px_in32L, cd_200, px_up_at, d1, e16]
          repeat' (first | (with_reducible apply And.intro) | (with_reducible refine px_br_intro (fun _ => ?_) (fun _ => ?_)))
          all_goals (try (first | (unfold px_in32; omega) | omega))
          · rename_i c4
            have hyes := isBB_yes c0 hb hcnd (by rw [hsz]; exact c4)
            rw [hsz] at hyes
            refine lp_ch2 (M0 := px_up (px_up M2 127 17 c) 127 16 ((pcl D B).length : Int)) (n := ((pcl D B).length : Int)) (by rw [px_up_at, if_neg (by decide), px_up_at, if_neg (by decide)]; exact d1) (by omega) ⟨c0, by omega⟩ (fun M3 g1 g2 => ?_) 0 (by omega) _ (Int.le_refl 0) rfl (fun _ _ => rfl)
            rw [row_ne (by decide), row_ne (by decide), d2] at g1
            refine ih (by omega) M3 c ((pcl D B).length : Int) (by omega) hyes ?_ ?_ ?_ (frc_trans ⟨fun j _ j1 j2 j3 => ?_, fun b b0 _ _ _ _ b5 => ?_⟩ f2)
            · rw [g2 127 (by decide), px_up_at, if_neg (by decide), px_up_at, if_pos ⟨rfl, rfl⟩]
            · rw [g2 127 (by decide), px_up_at, if_pos ⟨rfl, rfl⟩]
            · rw [g1]; unfold bstR; rw [if_neg (by omega), hBl]
            · rw [g2 127 (by decide), px_up_at, if_neg (fun z => j2 z.2), px_up_at, if_neg (fun z => j3 z.2)]
            · rw [g2 b b5, row_ne b0, row_ne b0]
          · rename_i c4
            exact hno (by omega) M2 (fun _ => by rw [hsz]; omega) e17 e16 (by rw [d4 139 (by decide) (by decide), a5.2 139 (by decide) (by decide) (by decide) (by decide)]) f2
        · rw [e128] at a1
          simp only [px_go, px_Q0_at, px_sx_0, px_sx_s, px_cl, px_step, ↓px_ll, px_lg, f4_, ↓px_r1, ↓px_r2, ↓px_r4, ↓px_r5, ↓px_p1, ↓px_p2, ↓px_p3, ↓px_pop, px_k_0, px_k_s, px_k3_0, px_stk_, px_cats, px_ent, px_st1, px_st2, px_mask, ↓px_tsw, ↓px_lsw, ct_, mls_0, mls_1, mls_2, mls_3, mls_4, mls_5, kd_0, kd_1, kd_2, kd_3, ln_0, ln_1, ln_2, ln_3, gf_0, gf_1, gf_2, gf_3, gf_4, gf_7, gf_21, gf_63, dy_0, dy_1, dy_2, dy_3, dy_7, dy_21, px_brT, px_brF, true_and, and_true, and_false, false_and, and_self, true_implies, false_implies, or_true, true_or, or_false, false_or, eq_self, ne_eq, not_false_eq_true, not_true_eq_false, if_true, if_false, List.mem_cons, List.not_mem_nil, List.length_cons, List.length_nil, Nat.reduceEqDiff, Nat.reduceAdd, Nat.reduceSub, Nat.reduceLeDiff, Nat.reduceLT, Int.reduceEq, Int.reduceLT, Int.reduceLE, Int.reduceNeg, Int.reduceAdd, Int.reduceSub, Int.reduceToNat, ↓reduceIte, one_ne_zero_, zero_ne_one_, px_in32L, cd_200]
          repeat' (first | (with_reducible apply And.intro) | (with_reducible refine px_br_intro (fun _ => ?_) (fun _ => ?_)))
          all_goals (try (first | (unfold px_in32; omega) | omega))
          exact hno (by omega) M1 (fun z => absurd z.2.2 a1) (by rw [a5.1 17 (by decide)]; exact h17) (by rw [a5.1 16 (by decide)]; exact h16) (a5.2 139 (by decide) (by decide) (by decide) (by decide)) (frc_trans (frd_frc a5) hf)
set_option maxHeartbeats 600000 in
set_option maxRecDepth 100000 in
theorem sp_chooses {dd : Int → Int} {D : List Int} (hr : rok (M 128) dd) (hu : rus (M 128) dd) (hD : lst (M 137) (D.length : Int) = D) (h14 : M 127 14 = (D.length : Int)) (hn : D.length ≤ 40) (hby : ∀ b ∈ D, 0 ≤ b ∧ b < 256) (h : ∀ M' b l, isBB (cndR (M 128) dd) (szR (M 128) D) (D.length : Int) 40 b l → M' 127 17 = b → M' 127 16 = l → lst (M' 139) l = bstR (M 128) D b → frc M' M → Q none M') : px_Ok 200 [(2, 127)] LAY M Q := by
  refine px_ok_go (inl := []) (ls0 := [(2, 127), (9, 0), (9, 0)]) 60 (by decide) (Nat.le_of_ble_eq_true rfl) rfl ?_
  simp only [px_go, px_Q0_at, px_sx_0, px_sx_s, px_cl, px_step, ↓px_ll, px_lg, f4_, ↓px_r1, ↓px_r2, ↓px_r4, ↓px_r5, ↓px_p1, ↓px_p2, ↓px_p3, ↓px_pop, px_k_0, px_k_s, px_k3_0, px_stk_, px_cats, px_ent, px_st1, px_st2, px_mask, ↓px_tsw, ↓px_lsw, ct_, mls_0, mls_1, mls_2, mls_3, mls_4, mls_5, kd_0, kd_1, kd_2, kd_3, ln_0, ln_1, ln_2, ln_3, gf_0, gf_1, gf_2, gf_3, gf_4, gf_7, gf_21, gf_63, dy_0, dy_1, dy_2, dy_3, dy_7, dy_21, px_brT, px_brF, true_and, and_true, and_false, false_and, and_self, true_implies, false_implies, or_true, true_or, or_false, false_or, eq_self, ne_eq, not_false_eq_true, not_true_eq_false, if_true, if_false, List.mem_cons, List.not_mem_nil, List.length_cons, List.length_nil, Nat.reduceEqDiff, Nat.reduceAdd, Nat.reduceSub, Nat.reduceLeDiff, Nat.reduceLT, Int.reduceEq, Int.reduceLT, Int.reduceLE, Int.reduceNeg, Int.reduceAdd, Int.reduceSub, Int.reduceToNat, ↓reduceIte, one_ne_zero_, zero_ne_one_, px_in32L, cd_200, px_up_at, h14]
  repeat' (first | (with_reducible apply And.intro) | (with_reducible refine px_br_intro (fun _ => ?_) (fun _ => ?_)))
  all_goals (try (first | (unfold px_in32; omega) | omega))
  refine lp_ch1 (M0 := px_up (px_up M 127 17 (-2)) 127 16 (D.length : Int)) (n := (D.length : Int)) (by rw [px_up_at, if_neg (by decide), px_up_at, if_neg (by decide)]; exact h14) (by omega) (fun M1 g1 g2 => ?_) 0 (by omega) _ (Int.le_refl 0) rfl (fun _ _ => rfl)
  rw [row_ne (by decide), row_ne (by decide), hD] at g1
  refine lp_ch3 (M0 := M) hr hu hD h14 hn hby h 0 (by decide) M1 (-2) (D.length : Int) (Int.le_refl 0) (Or.inl ⟨rfl, rfl, fun x x0 x1 => by omega⟩) ?_ ?_ ?_ ⟨fun j _ _ j2 j3 => ?_, fun b b0 _ _ _ _ b5 => ?_⟩
  · rw [g2 127 (by decide), px_up_at, if_neg (by decide), px_up_at, if_pos ⟨rfl, rfl⟩]
  · rw [g2 127 (by decide), px_up_at, if_pos ⟨rfl, rfl⟩]
  · rw [g1]; unfold bstR; rw [if_pos (by decide)]
  · rw [g2 127 (by decide), px_up_at, if_neg (fun z => j2 z.2), px_up_at, if_neg (fun z => j3 z.2)]
  · rw [g2 b b5, row_ne b0, row_ne b0]
end PA
