set_option maxRecDepth 100000 in
/-- X12_at -/
theorem cd_294 : px_at 294 0 = some (1, [], .aload_n 0, []) ∧ px_at 294 1 = some (2, [], .iload_n 1, []) ∧ px_at 294 2 = some (3, [], .iload_n 2, []) ∧ px_at 294 3 = some (4, [], .iload_n 3, []) ∧ px_at 294 4 = some (7, [], .ifCond .eq 7, [11]) ∧ px_at 294 7 = some (8, [], .iconst 1, []) ∧ px_at 294 8 = some (11, [], .goto 4, [12]) ∧ px_at 294 11 = some (12, [], .iconst 0, []) ∧ px_at 294 12 = some (15, [], .invokevirtual 411, [293, 3, 11, 348]) ∧ px_at 294 15 = some (17, [], .istore 5, []) ∧ px_at 294 17 = some (19, [], .iload 5, []) ∧ px_at 294 19 = some (20, [], .iconst (-1), []) ∧ px_at 294 20 = some (23, [], .if_icmp .eq 8, [28]) ∧ px_at 294 23 = some (25, [], .iload 4, []) ∧ px_at 294 25 = some (28, [], .ifCond .ge 5, [30]) ∧ px_at 294 28 = some (29, [], .iconst (-1), []) ∧ px_at 294 29 = some (30, [], .ireturn, [0]) ∧ px_at 294 30 = some (32, [], .iload 4, []) ∧ px_at 294 32 = some (34, [], .iload 5, []) ∧ px_at 294 34 = some (37, [], .if_icmp .lt 6, [40]) ∧ px_at 294 37 = some (39, [], .bipush (-2), []) ∧ px_at 294 39 = some (40, [], .ireturn, [0]) ∧ px_at 294 40 = some (41, [], .aload_n 0, []) ∧ px_at 294 41 = some (42, [], .iload_n 1, []) ∧ px_at 294 42 = some (45, [], .invokevirtual 267, [208, 1, 11, 250]) ∧ px_at 294 45 = some (47, [], .istore 6, []) ∧ px_at 294 47 = some (48, [], .iload_n 1, []) ∧ px_at 294 48 = some (49, [], .iconst (-1), []) ∧ px_at 294 49 = some (52, [], .if_icmp .ne 11, [60]) ∧ px_at 294 52 = some (53, [], .aload_n 0, []) ∧ px_at 294 53 = some (54, [], .iload_n 2, []) ∧ px_at 294 54 = some (57, [], .invokevirtual 196, [214, 1, 11, 229]) ∧ px_at 294 57 = some (60, [], .goto 10, [67]) ∧ px_at 294 60 = some (61, [], .aload_n 0, []) ∧ px_at 294 61 = some (63, [], .iload 6, []) ∧ px_at 294 63 = some (64, [], .iload_n 2, []) ∧ px_at 294 64 = some (67, [], .invokevirtual 177, [205, 2, 11, 254]) ∧ px_at 294 67 = some (69, [], .istore 7, []) ∧ px_at 294 69 = some (70, [], .iload_n 3, []) ∧ px_at 294 70 = some (73, [], .ifCond .ne 16, [86]) ∧ px_at 294 73 = some (74, [], .aload_n 0, []) ∧ px_at 294 74 = some (77, [], .getfield 7, [11, 0, 2, 1, 125]) ∧ px_at 294 77 = some (79, [], .iload 7, []) ∧ px_at 294 79 = some (80, [], .iconst 1, []) ∧ px_at 294 80 = some (81, [], .iadd, []) ∧ px_at 294 81 = some (83, [], .iload 4, []) ∧ px_at 294 83 = some (84, [], .iadd, []) ∧ px_at 294 84 = some (85, [], .iaload, []) ∧ px_at 294 85 = some (86, [], .ireturn, [0]) ∧ px_at 294 86 = some (87, [], .iload_n 1, []) ∧ px_at 294 87 = some (88, [], .iconst (-1), []) ∧ px_at 294 88 = some (91, [], .if_icmp .ne 17, [105]) ∧ px_at 294 91 = some (92, [], .aload_n 0, []) ∧ px_at 294 92 = some (95, [], .getfield 7, [11, 0, 2, 1, 125]) ∧ px_at 294 95 = some (97, [], .iload 7, []) ∧ px_at 294 97 = some (99, [], .bipush 14, []) ∧ px_at 294 99 = some (100, [], .iadd, []) ∧ px_at 294 100 = some (102, [], .iload 4, []) ∧ px_at 294 102 = some (103, [], .iadd, []) ∧ px_at 294 103 = some (104, [], .iaload, []) ∧ px_at 294 104 = some (105, [], .ireturn, [0]) ∧ px_at 294 105 = some (106, [], .aload_n 0, []) ∧ px_at 294 106 = some (107, [], .aload_n 0, []) ∧ px_at 294 107 = some (109, [], .iload 6, []) ∧ px_at 294 109 = some (110, [], .iload_n 2, []) ∧ px_at 294 110 = some (113, [], .invokevirtual 187, [207, 2, 11, 256]) ∧ px_at 294 113 = some (116, [], .invokevirtual 122, [193, 1, 11, 258]) ∧ px_at 294 116 = some (119, [], .ifCond .eq 13, [129]) ∧ px_at 294 119 = some (120, [], .aload_n 0, []) ∧ px_at 294 120 = some (123, [], .getfield 29, [11, 7, 2, 1, 132]) ∧ px_at 294 123 = some (125, [], .iload 4, []) ∧ px_at 294 125 = some (126, [], .iaload, []) ∧ px_at 294 126 = some (129, [], .goto 5, [131]) ∧ px_at 294 129 = some (131, [], .bipush (-3), []) ∧ px_at 294 131 = some (132, [], .ireturn, [0]) := ⟨rfl, rfl, rfl, rfl, rfl, rfl, rfl, rfl, rfl, rfl, rfl, rfl, rfl, rfl, rfl, rfl, rfl, rfl, rfl, rfl, rfl, rfl, rfl, rfl, rfl, rfl, rfl, rfl, rfl, rfl, rfl, rfl, rfl, rfl, rfl, rfl, rfl, rfl, rfl, rfl, rfl, rfl, rfl, rfl, rfl, rfl, rfl, rfl, rfl, rfl, rfl, rfl, rfl, rfl, rfl, rfl, rfl, rfl, rfl, rfl, rfl, rfl, rfl, rfl, rfl, rfl, rfl, rfl, rfl, rfl, rfl, rfl, rfl, rfl, rfl⟩
/-! the reference: at -/
theorem usg_at {l : List Int} {k : Int} (h : okl l) (k0 : 0 ≤ k) : usg (sgA l k) = if (l.length : Int) ≤ k then -2 else nth l k := by
  by_cases q : (l.length : Int) ≤ k
  · rw [if_pos q, sgA_none q]; rfl
  · rw [if_neg q]
    have hg : l[k.toNat]? = some (nth l k) := by
      unfold nth
      rw [List.getD_eq_getElem?_getD, List.getElem?_eq_getElem (by omega)]; rfl
    have h1 := sgA_at hg
    rw [Int.toNat_of_nonneg k0] at h1
    rw [h1, usg_sg (h _ (List.mem_of_getElem? hg))]
section PS
variable {M : px_mem} {Q : Option pv → px_mem → Prop}
set_option maxHeartbeats 600000 in
set_option maxRecDepth 100000 in
theorem sp_rat_s0 {Mc : px_mem} {i k N : Int} {pl : Int → Int → List Int} {nm : Int → List Int} {g : Int → fe} (hT : TE Mc pl nm (M 128)) (hst : sR (M 128) N g) (h0 : (k < 0 ∨ ¬ (0 ≤ i ∧ i < N)) → ∀ M', M' 128 = M 128 → out M' M → Q (some (0, -1)) M') (hs : ∀ M', 0 ≤ k → (0 ≤ i ∧ i < N) → M' 128 = M 128 → out M' M → Q (some (0, usg (sgA (g i).1 k))) M') : px_Ok 294 [(2, 127), (0, -1), (0, i), (0, 0), (0, k)] LAY M Q := by
  refine px_ok_go (inl := [204, 205, 207, 214]) (ls0 := [(2, 127), (0, -1), (0, i), (0, 0), (0, k), (9, 0), (9, 0), (9, 0)]) 60 (by decide) (Nat.le_of_ble_eq_true rfl) rfl ?_
  simp only [px_go, px_Q0_at, px_sx_0, px_sx_s, px_cl, px_step, ↓px_ll, px_lg, f4_, ↓px_r1, ↓px_r2, ↓px_r4, ↓px_r5, ↓px_p1, ↓px_p2, ↓px_p3, ↓px_pop, px_k_0, px_k_s, px_k3_0, px_stk_, px_cats, px_ent, px_st1, px_st2, px_mask, ↓px_tsw, ↓px_lsw, ct_, mls_0, mls_1, mls_2, mls_3, mls_4, mls_5, kd_0, kd_1, kd_2, kd_3, ln_0, ln_1, ln_2, ln_3, gf_0, gf_1, gf_2, gf_3, gf_4, gf_7, gf_21, gf_63, dy_0, dy_1, dy_2, dy_3, dy_7, dy_21, px_brT, px_brF, true_and, and_true, and_false, false_and, and_self, true_implies, false_implies, or_true, true_or, or_false, false_or, eq_self, ne_eq, not_false_eq_true, not_true_eq_false, if_true, if_false, List.mem_cons, List.not_mem_nil, List.length_cons, List.length_nil, Nat.reduceEqDiff, Nat.reduceAdd, Nat.reduceSub, Nat.reduceLeDiff, Nat.reduceLT, Int.reduceEq, Int.reduceLT, Int.reduceLE, Int.reduceNeg, Int.reduceAdd, Int.reduceSub, Int.reduceToNat, ↓reduceIte, one_ne_zero_, zero_ne_one_, px_in32L, cd_294, cd_204, cd_205, cd_207, cd_214]
  repeat' (first | (with_reducible apply And.intro) | (with_reducible refine px_br_intro (fun _ => ?_) (fun _ => ?_)))
  all_goals (try (first | (unfold px_in32; omega) | omega))
  have hn3 := hst.2.2.1
  refine sp_rfile hT hst (fun z => ?_) (fun M1 z1 z2 z3 z4 z5 => ?_) (fun z1 z2 => absurd rfl z2)
  · simp only [px_go, px_Q0_at, px_sx_0, px_sx_s, px_cl, px_step, ↓px_ll, px_lg, f4_, ↓px_r1, ↓px_r2, ↓px_r4, ↓px_r5, ↓px_p1, ↓px_p2, ↓px_p3, ↓px_pop, px_k_0, px_k_s, px_k3_0, px_stk_, px_cats, px_ent, px_st1, px_st2, px_mask, ↓px_tsw, ↓px_lsw, ct_, mls_0, mls_1, mls_2, mls_3, mls_4, mls_5, kd_0, kd_1, kd_2, kd_3, ln_0, ln_1, ln_2, ln_3, gf_0, gf_1, gf_2, gf_3, gf_4, gf_7, gf_21, gf_63, dy_0, dy_1, dy_2, dy_3, dy_7, dy_21, px_brT, px_brF, true_and, and_true, and_false, false_and, and_self, true_implies, false_implies, or_true, true_or, or_false, false_or, eq_self, ne_eq, not_false_eq_true, not_true_eq_false, if_true, if_false, List.mem_cons, List.not_mem_nil, List.length_cons, List.length_nil, Nat.reduceEqDiff, Nat.reduceAdd, Nat.reduceSub, Nat.reduceLeDiff, Nat.reduceLT, Int.reduceEq, Int.reduceLT, Int.reduceLE, Int.reduceNeg, Int.reduceAdd, Int.reduceSub, Int.reduceToNat, ↓reduceIte, one_ne_zero_, zero_ne_one_, px_in32L, cd_294, cd_204, cd_205, cd_207, cd_214]
    exact h0 (by omega) M rfl (out_refl M)
  · have f := hst.2.2.2 i z3.1 z3.2
    have hu := fun q => usg_at (k := k) f.1.1 q
    have hl := fp_len f.2.2.1.2.1
    rw [f.2.2.2.1] at hl
    have hl12 := f.2.2.1.2.2.1
    have hl0 := f.2.2.1.2.1
    have ek : 0 ≤ k → k < ((g i).1.length : Int) → M1 128 (6 + 54 * i + 1 + k) = nth (g i).1 k := fun q1 q2 => by
      rw [z4, ← f.2.2.2.1]
      exact (nth_lst (f := fun k => M 128 (6 + 54 * i + 1 + k)) (n := M 128 (6 + 54 * i)) q1 (by omega)).symm
    have hs := hs M1
    generalize ((g i).1.length : Int) = n at *
    simp only [px_go, px_Q0_at, px_sx_0, px_sx_s, px_cl, px_step, ↓px_ll, px_lg, f4_, ↓px_r1, ↓px_r2, ↓px_r4, ↓px_r5, ↓px_p1, ↓px_p2, ↓px_p3, ↓px_pop, px_k_0, px_k_s, px_k3_0, px_stk_, px_cats, px_ent, px_st1, px_st2, px_mask, ↓px_tsw, ↓px_lsw, ct_, mls_0, mls_1, mls_2, mls_3, mls_4, mls_5, kd_0, kd_1, kd_2, kd_3, ln_0, ln_1, ln_2, ln_3, gf_0, gf_1, gf_2, gf_3, gf_4, gf_7, gf_21, gf_63, dy_0, dy_1, dy_2, dy_3, dy_7, dy_21, px_brT, px_brF, true_and, and_true, and_false, false_and, and_self, true_implies, false_implies, or_true, true_or, or_false, false_or, eq_self, ne_eq, not_false_eq_true, not_true_eq_false, if_true, if_false, List.mem_cons, List.not_mem_nil, List.length_cons, List.length_nil, Nat.reduceEqDiff, Nat.reduceAdd, Nat.reduceSub, Nat.reduceLeDiff, Nat.reduceLT, Int.reduceEq, Int.reduceLT, Int.reduceLE, Int.reduceNeg, Int.reduceAdd, Int.reduceSub, Int.reduceToNat, ↓reduceIte, one_ne_zero_, zero_ne_one_, px_in32L, cd_294, cd_204, cd_205, cd_207, cd_214]
    refine px_br_intro (fun c => absurd c (by omega)) (fun _ => px_br_intro (fun c1 => px_br_intro (fun c2 => ?_) (fun c2 => ?_)) (fun c1 => ?_))
    · refine sp_slotT (by rw [z4]; exact hT) ?_
      simp only [px_go, px_Q0_at, px_sx_0, px_sx_s, px_cl, px_step, ↓px_ll, px_lg, f4_, ↓px_r1, ↓px_r2, ↓px_r4, ↓px_r5, ↓px_p1, ↓px_p2, ↓px_p3, ↓px_pop, px_k_0, px_k_s, px_k3_0, px_stk_, px_cats, px_ent, px_st1, px_st2, px_mask, ↓px_tsw, ↓px_lsw, ct_, mls_0, mls_1, mls_2, mls_3, mls_4, mls_5, kd_0, kd_1, kd_2, kd_3, ln_0, ln_1, ln_2, ln_3, gf_0, gf_1, gf_2, gf_3, gf_4, gf_7, gf_21, gf_63, dy_0, dy_1, dy_2, dy_3, dy_7, dy_21, px_brT, px_brF, true_and, and_true, and_false, false_and, and_self, true_implies, false_implies, or_true, true_or, or_false, false_or, eq_self, ne_eq, not_false_eq_true, not_true_eq_false, if_true, if_false, List.mem_cons, List.not_mem_nil, List.length_cons, List.length_nil, Nat.reduceEqDiff, Nat.reduceAdd, Nat.reduceSub, Nat.reduceLeDiff, Nat.reduceLT, Int.reduceEq, Int.reduceLT, Int.reduceLE, Int.reduceNeg, Int.reduceAdd, Int.reduceSub, Int.reduceToNat, ↓reduceIte, one_ne_zero_, zero_ne_one_, px_in32L, cd_294, cd_204, cd_205, cd_207, cd_214]
      repeat' (first | (with_reducible apply And.intro) | (with_reducible refine px_br_intro (fun _ => ?_) (fun _ => ?_)))
      all_goals (try (first | (unfold px_in32; omega) | omega))
      have h := hs c1 z3 z4 z5
      rw [hu c1, if_neg (by omega), ← ek c1 c2] at h
      exact h
    · have h := hs c1 z3 z4 z5
      rw [hu c1, if_pos (by omega)] at h
      exact h
    · exact h0 (Or.inl (by omega)) M1 z4 z5
set_option maxHeartbeats 600000 in
set_option maxRecDepth 100000 in
theorem sp_rat_s1 {Mc : px_mem} {i k N : Int} {pl : Int → Int → List Int} {nm : Int → List Int} {g : Int → fe} (hT : TE Mc pl nm (M 128)) (hst : sR (M 128) N g) (h0 : (k < 0 ∨ ¬ (0 ≤ i ∧ i < N)) → ∀ M', M' 128 = M 128 → out M' M → Q (some (0, -1)) M') (hs : ∀ M', 0 ≤ k → (0 ≤ i ∧ i < N) → M' 128 = M 128 → out M' M → Q (some (0, if k < ((g i).2.length : Int) then nth (g i).2 k else -2)) M') : px_Ok 294 [(2, 127), (0, -1), (0, i), (0, 1), (0, k)] LAY M Q := by
  refine px_ok_go (inl := [204, 205, 207, 214]) (ls0 := [(2, 127), (0, -1), (0, i), (0, 1), (0, k), (9, 0), (9, 0), (9, 0)]) 60 (by decide) (Nat.le_of_ble_eq_true rfl) rfl ?_
  simp only [px_go, px_Q0_at, px_sx_0, px_sx_s, px_cl, px_step, ↓px_ll, px_lg, f4_, ↓px_r1, ↓px_r2, ↓px_r4, ↓px_r5, ↓px_p1, ↓px_p2, ↓px_p3, ↓px_pop, px_k_0, px_k_s, px_k3_0, px_stk_, px_cats, px_ent, px_st1, px_st2, px_mask, ↓px_tsw, ↓px_lsw, ct_, mls_0, mls_1, mls_2, mls_3, mls_4, mls_5, kd_0, kd_1, kd_2, kd_3, ln_0, ln_1, ln_2, ln_3, gf_0, gf_1, gf_2, gf_3, gf_4, gf_7, gf_21, gf_63, dy_0, dy_1, dy_2, dy_3, dy_7, dy_21, px_brT, px_brF, true_and, and_true, and_false, false_and, and_self, true_implies, false_implies, or_true, true_or, or_false, false_or, eq_self, ne_eq, not_false_eq_true, not_true_eq_false, if_true, if_false, List.mem_cons, List.not_mem_nil, List.length_cons, List.length_nil, Nat.reduceEqDiff, Nat.reduceAdd, Nat.reduceSub, Nat.reduceLeDiff, Nat.reduceLT, Int.reduceEq, Int.reduceLT, Int.reduceLE, Int.reduceNeg, Int.reduceAdd, Int.reduceSub, Int.reduceToNat, ↓reduceIte, one_ne_zero_, zero_ne_one_, px_in32L, cd_294, cd_204, cd_205, cd_207, cd_214]
  repeat' (first | (with_reducible apply And.intro) | (with_reducible refine px_br_intro (fun _ => ?_) (fun _ => ?_)))
  all_goals (try (first | (unfold px_in32; omega) | omega))
  have hn3 := hst.2.2.1
  refine sp_rfile hT hst (fun z => ?_) (fun M1 z1 z2 z3 z4 z5 => ?_) (fun z1 z2 => absurd rfl z2)
  · simp only [px_go, px_Q0_at, px_sx_0, px_sx_s, px_cl, px_step, ↓px_ll, px_lg, f4_, ↓px_r1, ↓px_r2, ↓px_r4, ↓px_r5, ↓px_p1, ↓px_p2, ↓px_p3, ↓px_pop, px_k_0, px_k_s, px_k3_0, px_stk_, px_cats, px_ent, px_st1, px_st2, px_mask, ↓px_tsw, ↓px_lsw, ct_, mls_0, mls_1, mls_2, mls_3, mls_4, mls_5, kd_0, kd_1, kd_2, kd_3, ln_0, ln_1, ln_2, ln_3, gf_0, gf_1, gf_2, gf_3, gf_4, gf_7, gf_21, gf_63, dy_0, dy_1, dy_2, dy_3, dy_7, dy_21, px_brT, px_brF, true_and, and_true, and_false, false_and, and_self, true_implies, false_implies, or_true, true_or, or_false, false_or, eq_self, ne_eq, not_false_eq_true, not_true_eq_false, if_true, if_false, List.mem_cons, List.not_mem_nil, List.length_cons, List.length_nil, Nat.reduceEqDiff, Nat.reduceAdd, Nat.reduceSub, Nat.reduceLeDiff, Nat.reduceLT, Int.reduceEq, Int.reduceLT, Int.reduceLE, Int.reduceNeg, Int.reduceAdd, Int.reduceSub, Int.reduceToNat, ↓reduceIte, one_ne_zero_, zero_ne_one_, px_in32L, cd_294, cd_204, cd_205, cd_207, cd_214]
    exact h0 (by omega) M rfl (out_refl M)
  · have f := hst.2.2.2 i z3.1 z3.2
    have hl12 := f.2.2.2.2.2.1
    have ek : 0 ≤ k → k < ((g i).2.length : Int) → M1 128 (6 + 54 * i + 14 + k) = nth (g i).2 k := fun q1 q2 => by
      have e := f.2.2.2.2.2.2.1
      have e2 : nth (lst (fun k => M 128 (6 + 54 * i + 14 + k)) ((g i).2.length : Int)) k = M 128 (6 + 54 * i + 14 + k) := nth_lst q1 q2
      rw [e] at e2
      rw [z4]; exact e2.symm
    have hs := hs M1
    have hnn : (0 : Int) ≤ ((g i).2.length : Int) ∧ ((g i).2.length : Int) ≤ 40 := by omega
    generalize ((g i).2.length : Int) = n at *
    simp only [px_go, px_Q0_at, px_sx_0, px_sx_s, px_cl, px_step, ↓px_ll, px_lg, f4_, ↓px_r1, ↓px_r2, ↓px_r4, ↓px_r5, ↓px_p1, ↓px_p2, ↓px_p3, ↓px_pop, px_k_0, px_k_s, px_k3_0, px_stk_, px_cats, px_ent, px_st1, px_st2, px_mask, ↓px_tsw, ↓px_lsw, ct_, mls_0, mls_1, mls_2, mls_3, mls_4, mls_5, kd_0, kd_1, kd_2, kd_3, ln_0, ln_1, ln_2, ln_3, gf_0, gf_1, gf_2, gf_3, gf_4, gf_7, gf_21, gf_63, dy_0, dy_1, dy_2, dy_3, dy_7, dy_21, px_brT, px_brF, true_and, and_true, and_false, false_and, and_self, true_implies, false_implies, or_true, true_or, or_false, false_or, eq_self, ne_eq, not_false_eq_true, not_true_eq_false, if_true, if_false, List.mem_cons, List.not_mem_nil, List.length_cons, List.length_nil, Nat.reduceEqDiff, Nat.reduceAdd, Nat.reduceSub, Nat.reduceLeDiff, Nat.reduceLT, Int.reduceEq, Int.reduceLT, Int.reduceLE, Int.reduceNeg, Int.reduceAdd, Int.reduceSub, Int.reduceToNat, ↓reduceIte, one_ne_zero_, zero_ne_one_, px_in32L, cd_294, cd_204, cd_205, cd_207, cd_214]
    refine px_br_intro (fun c => absurd c (by omega)) (fun _ => px_br_intro (fun c1 => px_br_intro (fun c2 => ?_) (fun c2 => ?_)) (fun c1 => ?_))
    · refine sp_slotT (by rw [z4]; exact hT) ?_
      simp only [px_go, px_Q0_at, px_sx_0, px_sx_s, px_cl, px_step, ↓px_ll, px_lg, f4_, ↓px_r1, ↓px_r2, ↓px_r4, ↓px_r5, ↓px_p1, ↓px_p2, ↓px_p3, ↓px_pop, px_k_0, px_k_s, px_k3_0, px_stk_, px_cats, px_ent, px_st1, px_st2, px_mask, ↓px_tsw, ↓px_lsw, ct_, mls_0, mls_1, mls_2, mls_3, mls_4, mls_5, kd_0, kd_1, kd_2, kd_3, ln_0, ln_1, ln_2, ln_3, gf_0, gf_1, gf_2, gf_3, gf_4, gf_7, gf_21, gf_63, dy_0, dy_1, dy_2, dy_3, dy_7, dy_21, px_brT, px_brF, true_and, and_true, and_false, false_and, and_self, true_implies, false_implies, or_true, true_or, or_false, false_or, eq_self, ne_eq, not_false_eq_true, not_true_eq_false, if_true, if_false, List.mem_cons, List.not_mem_nil, List.length_cons, List.length_nil, Nat.reduceEqDiff, Nat.reduceAdd, Nat.reduceSub, Nat.reduceLeDiff, Nat.reduceLT, Int.reduceEq, Int.reduceLT, Int.reduceLE, Int.reduceNeg, Int.reduceAdd, Int.reduceSub, Int.reduceToNat, ↓reduceIte, one_ne_zero_, zero_ne_one_, px_in32L, cd_294, cd_204, cd_205, cd_207, cd_214]
      repeat' (first | (with_reducible apply And.intro) | (with_reducible refine px_br_intro (fun _ => ?_) (fun _ => ?_)))
      all_goals (try (first | (unfold px_in32; omega) | omega))
      have h := hs c1 z3 z4 z5
      rw [if_pos c2, ← ek c1 c2] at h
      exact h
    · have h := hs c1 z3 z4 z5
      rw [if_neg c2] at h
      exact h
    · exact h0 (Or.inl (by omega)) M1 z4 z5
set_option maxHeartbeats 600000 in
set_option maxRecDepth 100000 in
theorem sp_rat_e0 {Mc : px_mem} {num i k N : Int} {pl : Int → Int → List Int} {nm : Int → List Int} {g : Int → fe} (hT : TE Mc pl nm (M 128)) (hst : sR (M 128) N g) (hne : num ≠ -1) (h0 : (k < 0 ∨ (slot Mc num < 0 ∨ ¬ (0 ≤ i ∧ i < Mc (Mc 21 (slot Mc num)) 2))) → Q (some (0, -1)) M) (he : 0 ≤ k → 0 ≤ slot Mc num → slot Mc num < Mc 20 1 → (0 ≤ i ∧ i < Mc (Mc 21 (slot Mc num)) 2) → Q (some (0, usg (sgA (pl (slot Mc num) i) k))) M) : px_Ok 294 [(2, 127), (0, num), (0, i), (0, 0), (0, k)] LAY M Q := by
  have hnf : (num = -1) = False := eq_false hne
  refine px_ok_go (inl := [204, 205, 207, 214]) (ls0 := [(2, 127), (0, num), (0, i), (0, 0), (0, k), (9, 0), (9, 0), (9, 0)]) 60 (by decide) (Nat.le_of_ble_eq_true rfl) rfl ?_
  simp only [px_go, px_Q0_at, px_sx_0, px_sx_s, px_cl, px_step, ↓px_ll, px_lg, f4_, ↓px_r1, ↓px_r2, ↓px_r4, ↓px_r5, ↓px_p1, ↓px_p2, ↓px_p3, ↓px_pop, px_k_0, px_k_s, px_k3_0, px_stk_, px_cats, px_ent, px_st1, px_st2, px_mask, ↓px_tsw, ↓px_lsw, ct_, mls_0, mls_1, mls_2, mls_3, mls_4, mls_5, kd_0, kd_1, kd_2, kd_3, ln_0, ln_1, ln_2, ln_3, gf_0, gf_1, gf_2, gf_3, gf_4, gf_7, gf_21, gf_63, dy_0, dy_1, dy_2, dy_3, dy_7, dy_21, px_brT, px_brF, true_and, and_true, and_false, false_and, and_self, true_implies, false_implies, or_true, true_or, or_false, false_or, eq_self, ne_eq, not_false_eq_true, not_true_eq_false, if_true, if_false, List.mem_cons, List.not_mem_nil, List.length_cons, List.length_nil, Nat.reduceEqDiff, Nat.reduceAdd, Nat.reduceSub, Nat.reduceLeDiff, Nat.reduceLT, Int.reduceEq, Int.reduceLT, Int.reduceLE, Int.reduceNeg, Int.reduceAdd, Int.reduceSub, Int.reduceToNat, ↓reduceIte, one_ne_zero_, zero_ne_one_, px_in32L, cd_294, cd_204, cd_205, cd_207, cd_214, hnf]
  repeat' (first | (with_reducible apply And.intro) | (with_reducible refine px_br_intro (fun _ => ?_) (fun _ => ?_)))
  all_goals (try (first | (unfold px_in32; omega) | omega))
  have hTn := TE_n hT
  refine sp_rfile hT hst (fun z => ?_) (fun M1 z1 z2 => absurd z2 hne) (fun z1 z2 z3 z4 z5 => ?_)
  · simp only [px_go, px_Q0_at, px_sx_0, px_sx_s, px_cl, px_step, ↓px_ll, px_lg, f4_, ↓px_r1, ↓px_r2, ↓px_r4, ↓px_r5, ↓px_p1, ↓px_p2, ↓px_p3, ↓px_pop, px_k_0, px_k_s, px_k3_0, px_stk_, px_cats, px_ent, px_st1, px_st2, px_mask, ↓px_tsw, ↓px_lsw, ct_, mls_0, mls_1, mls_2, mls_3, mls_4, mls_5, kd_0, kd_1, kd_2, kd_3, ln_0, ln_1, ln_2, ln_3, gf_0, gf_1, gf_2, gf_3, gf_4, gf_7, gf_21, gf_63, dy_0, dy_1, dy_2, dy_3, dy_7, dy_21, px_brT, px_brF, true_and, and_true, and_false, false_and, and_self, true_implies, false_implies, or_true, true_or, or_false, false_or, eq_self, ne_eq, not_false_eq_true, not_true_eq_false, if_true, if_false, List.mem_cons, List.not_mem_nil, List.length_cons, List.length_nil, Nat.reduceEqDiff, Nat.reduceAdd, Nat.reduceSub, Nat.reduceLeDiff, Nat.reduceLT, Int.reduceEq, Int.reduceLT, Int.reduceLE, Int.reduceNeg, Int.reduceAdd, Int.reduceSub, Int.reduceToNat, ↓reduceIte, one_ne_zero_, zero_ne_one_, px_in32L, cd_294, cd_204, cd_205, cd_207, cd_214]
    exact h0 (by omega)
  · have en := TE_ent hT z3 z4 z5.1 z5.2
    have hn12 := (TE_e hT z3 z4).2.2.2.2.2
    have hu := fun q => usg_at (k := k) en.2.1.1 q
    have hl := fp_len en.1.1.2.1
    rw [en.1.2.1] at hl
    have hl12 := en.1.1.2.2.1
    have hl0 := en.1.1.2.1
    have ek : 0 ≤ k → k < ((pl (slot Mc num) i).length : Int) → M 128 (1294 + 186 * slot Mc num + 18 + 14 * i + 1 + k) = nth (pl (slot Mc num) i) k := fun q1 q2 => by
      rw [← en.1.2.1]
      exact (nth_lst (f := fun k => M 128 (1294 + 186 * slot Mc num + 18 + 14 * i + 1 + k)) (n := M 128 (1294 + 186 * slot Mc num + 18 + 14 * i)) q1 (by omega)).symm
    generalize ((pl (slot Mc num) i).length : Int) = n at *
    simp only [px_go, px_Q0_at, px_sx_0, px_sx_s, px_cl, px_step, ↓px_ll, px_lg, f4_, ↓px_r1, ↓px_r2, ↓px_r4, ↓px_r5, ↓px_p1, ↓px_p2, ↓px_p3, ↓px_pop, px_k_0, px_k_s, px_k3_0, px_stk_, px_cats, px_ent, px_st1, px_st2, px_mask, ↓px_tsw, ↓px_lsw, ct_, mls_0, mls_1, mls_2, mls_3, mls_4, mls_5, kd_0, kd_1, kd_2, kd_3, ln_0, ln_1, ln_2, ln_3, gf_0, gf_1, gf_2, gf_3, gf_4, gf_7, gf_21, gf_63, dy_0, dy_1, dy_2, dy_3, dy_7, dy_21, px_brT, px_brF, true_and, and_true, and_false, false_and, and_self, true_implies, false_implies, or_true, true_or, or_false, false_or, eq_self, ne_eq, not_false_eq_true, not_true_eq_false, if_true, if_false, List.mem_cons, List.not_mem_nil, List.length_cons, List.length_nil, Nat.reduceEqDiff, Nat.reduceAdd, Nat.reduceSub, Nat.reduceLeDiff, Nat.reduceLT, Int.reduceEq, Int.reduceLT, Int.reduceLE, Int.reduceNeg, Int.reduceAdd, Int.reduceSub, Int.reduceToNat, ↓reduceIte, one_ne_zero_, zero_ne_one_, px_in32L, cd_294, cd_204, cd_205, cd_207, cd_214]
    refine px_br_intro (fun c => absurd c (by omega)) (fun _ => px_br_intro (fun c1 => px_br_intro (fun c2 => ?_) (fun c2 => ?_)) (fun c1 => ?_))
    · refine sp_slotT hT ?_
      simp only [px_go, px_Q0_at, px_sx_0, px_sx_s, px_cl, px_step, ↓px_ll, px_lg, f4_, ↓px_r1, ↓px_r2, ↓px_r4, ↓px_r5, ↓px_p1, ↓px_p2, ↓px_p3, ↓px_pop, px_k_0, px_k_s, px_k3_0, px_stk_, px_cats, px_ent, px_st1, px_st2, px_mask, ↓px_tsw, ↓px_lsw, ct_, mls_0, mls_1, mls_2, mls_3, mls_4, mls_5, kd_0, kd_1, kd_2, kd_3, ln_0, ln_1, ln_2, ln_3, gf_0, gf_1, gf_2, gf_3, gf_4, gf_7, gf_21, gf_63, dy_0, dy_1, dy_2, dy_3, dy_7, dy_21, px_brT, px_brF, true_and, and_true, and_false, false_and, and_self, true_implies, false_implies, or_true, true_or, or_false, false_or, eq_self, ne_eq, not_false_eq_true, not_true_eq_false, if_true, if_false, List.mem_cons, List.not_mem_nil, List.length_cons, List.length_nil, Nat.reduceEqDiff, Nat.reduceAdd, Nat.reduceSub, Nat.reduceLeDiff, Nat.reduceLT, Int.reduceEq, Int.reduceLT, Int.reduceLE, Int.reduceNeg, Int.reduceAdd, Int.reduceSub, Int.reduceToNat, ↓reduceIte, one_ne_zero_, zero_ne_one_, px_in32L, cd_294, cd_204, cd_205, cd_207, cd_214, hnf]
      repeat' (first | (with_reducible apply And.intro) | (with_reducible refine px_br_intro (fun _ => ?_) (fun _ => ?_)))
      all_goals (try (first | (unfold px_in32; omega) | omega))
      have h := he c1 z3 z4 z5
      rw [hu c1, if_neg (by omega), ← ek c1 c2] at h
      exact h
    · have h := he c1 z3 z4 z5
      rw [hu c1, if_pos (by omega)] at h
      exact h
    · exact h0 (Or.inl (by omega))
set_option maxHeartbeats 600000 in
set_option maxRecDepth 100000 in
theorem sp_rat_e1 {Mc : px_mem} {num i k N : Int} {pl : Int → Int → List Int} {nm : Int → List Int} {g : Int → fe} (hT : TE Mc pl nm (M 128)) (hst : sR (M 128) N g) (hne : num ≠ -1) (h0 : (k < 0 ∨ (slot Mc num < 0 ∨ ¬ (0 ≤ i ∧ i < Mc (Mc 21 (slot Mc num)) 2))) → Q (some (0, -1)) M) (he : ∀ M', 0 ≤ k → 0 ≤ slot Mc num → slot Mc num < Mc 20 1 → (0 ≤ i ∧ i < Mc (Mc 21 (slot Mc num)) 2) → M' 128 = M 128 → out M' M → Q (some (0, if k < Mc 57 (Mc (Mc 21 (slot Mc num) + 2) i) then (if Mc 104 (Mc (Mc 21 (slot Mc num) + 2) i) = 0 then -3 else Mc (64 + Mc (Mc 21 (slot Mc num) + 2) i) k) else -2)) M') : px_Ok 294 [(2, 127), (0, num), (0, i), (0, 1), (0, k)] LAY M Q := by
  have hnf : (num = -1) = False := eq_false hne
  refine px_ok_go (inl := [204, 205, 207, 214]) (ls0 := [(2, 127), (0, num), (0, i), (0, 1), (0, k), (9, 0), (9, 0), (9, 0)]) 60 (by decide) (Nat.le_of_ble_eq_true rfl) rfl ?_
  simp only [px_go, px_Q0_at, px_sx_0, px_sx_s, px_cl, px_step, ↓px_ll, px_lg, f4_, ↓px_r1, ↓px_r2, ↓px_r4, ↓px_r5, ↓px_p1, ↓px_p2, ↓px_p3, ↓px_pop, px_k_0, px_k_s, px_k3_0, px_stk_, px_cats, px_ent, px_st1, px_st2, px_mask, ↓px_tsw, ↓px_lsw, ct_, mls_0, mls_1, mls_2, mls_3, mls_4, mls_5, kd_0, kd_1, kd_2, kd_3, ln_0, ln_1, ln_2, ln_3, gf_0, gf_1, gf_2, gf_3, gf_4, gf_7, gf_21, gf_63, dy_0, dy_1, dy_2, dy_3, dy_7, dy_21, px_brT, px_brF, true_and, and_true, and_false, false_and, and_self, true_implies, false_implies, or_true, true_or, or_false, false_or, eq_self, ne_eq, not_false_eq_true, not_true_eq_false, if_true, if_false, List.mem_cons, List.not_mem_nil, List.length_cons, List.length_nil, Nat.reduceEqDiff, Nat.reduceAdd, Nat.reduceSub, Nat.reduceLeDiff, Nat.reduceLT, Int.reduceEq, Int.reduceLT, Int.reduceLE, Int.reduceNeg, Int.reduceAdd, Int.reduceSub, Int.reduceToNat, ↓reduceIte, one_ne_zero_, zero_ne_one_, px_in32L, cd_294, cd_204, cd_205, cd_207, cd_214, hnf]
  repeat' (first | (with_reducible apply And.intro) | (with_reducible refine px_br_intro (fun _ => ?_) (fun _ => ?_)))
  all_goals (try (first | (unfold px_in32; omega) | omega))
  have hTn := TE_n hT
  refine sp_rfile hT hst (fun z => ?_) (fun M1 z1 z2 => absurd z2 hne) (fun z1 z2 z3 z4 z5 => ?_)
  · simp only [px_go, px_Q0_at, px_sx_0, px_sx_s, px_cl, px_step, ↓px_ll, px_lg, f4_, ↓px_r1, ↓px_r2, ↓px_r4, ↓px_r5, ↓px_p1, ↓px_p2, ↓px_p3, ↓px_pop, px_k_0, px_k_s, px_k3_0, px_stk_, px_cats, px_ent, px_st1, px_st2, px_mask, ↓px_tsw, ↓px_lsw, ct_, mls_0, mls_1, mls_2, mls_3, mls_4, mls_5, kd_0, kd_1, kd_2, kd_3, ln_0, ln_1, ln_2, ln_3, gf_0, gf_1, gf_2, gf_3, gf_4, gf_7, gf_21, gf_63, dy_0, dy_1, dy_2, dy_3, dy_7, dy_21, px_brT, px_brF, true_and, and_true, and_false, false_and, and_self, true_implies, false_implies, or_true, true_or, or_false, false_or, eq_self, ne_eq, not_false_eq_true, not_true_eq_false, if_true, if_false, List.mem_cons, List.not_mem_nil, List.length_cons, List.length_nil, Nat.reduceEqDiff, Nat.reduceAdd, Nat.reduceSub, Nat.reduceLeDiff, Nat.reduceLT, Int.reduceEq, Int.reduceLT, Int.reduceLE, Int.reduceNeg, Int.reduceAdd, Int.reduceSub, Int.reduceToNat, ↓reduceIte, one_ne_zero_, zero_ne_one_, px_in32L, cd_294, cd_204, cd_205, cd_207, cd_214]
    exact h0 (by omega)
  · have en := TE_ent hT z3 z4 z5.1 z5.2
    have hn12 := (TE_e hT z3 z4).2.2.2.2.2
    have ec : M 128 (1294 + 186 * slot Mc num + 18 + 14 * i + 13) = Mc (Mc 21 (slot Mc num) + 2) i := en.1.2.2
    have hrl := rdC_len hT.1.1 en.2.2.2.1 en.2.2.2.2.1 en.2.2.2.2.2
    generalize hcc : Mc (Mc 21 (slot Mc num) + 2) i = c at *
    simp only [px_go, px_Q0_at, px_sx_0, px_sx_s, px_cl, px_step, ↓px_ll, px_lg, f4_, ↓px_r1, ↓px_r2, ↓px_r4, ↓px_r5, ↓px_p1, ↓px_p2, ↓px_p3, ↓px_pop, px_k_0, px_k_s, px_k3_0, px_stk_, px_cats, px_ent, px_st1, px_st2, px_mask, ↓px_tsw, ↓px_lsw, ct_, mls_0, mls_1, mls_2, mls_3, mls_4, mls_5, kd_0, kd_1, kd_2, kd_3, ln_0, ln_1, ln_2, ln_3, gf_0, gf_1, gf_2, gf_3, gf_4, gf_7, gf_21, gf_63, dy_0, dy_1, dy_2, dy_3, dy_7, dy_21, px_brT, px_brF, true_and, and_true, and_false, false_and, and_self, true_implies, false_implies, or_true, true_or, or_false, false_or, eq_self, ne_eq, not_false_eq_true, not_true_eq_false, if_true, if_false, List.mem_cons, List.not_mem_nil, List.length_cons, List.length_nil, Nat.reduceEqDiff, Nat.reduceAdd, Nat.reduceSub, Nat.reduceLeDiff, Nat.reduceLT, Int.reduceEq, Int.reduceLT, Int.reduceLE, Int.reduceNeg, Int.reduceAdd, Int.reduceSub, Int.reduceToNat, ↓reduceIte, one_ne_zero_, zero_ne_one_, px_in32L, cd_294, cd_204, cd_205, cd_207, cd_214]
    refine px_br_intro (fun q => absurd q (by omega)) (fun _ => px_br_intro (fun c1 => px_br_intro (fun c2 => ?_) (fun c2 => ?_)) (fun c1 => ?_))
    · refine sp_slotT hT ?_
      simp only [px_go, px_Q0_at, px_sx_0, px_sx_s, px_cl, px_step, ↓px_ll, px_lg, f4_, ↓px_r1, ↓px_r2, ↓px_r4, ↓px_r5, ↓px_p1, ↓px_p2, ↓px_p3, ↓px_pop, px_k_0, px_k_s, px_k3_0, px_stk_, px_cats, px_ent, px_st1, px_st2, px_mask, ↓px_tsw, ↓px_lsw, ct_, mls_0, mls_1, mls_2, mls_3, mls_4, mls_5, kd_0, kd_1, kd_2, kd_3, ln_0, ln_1, ln_2, ln_3, gf_0, gf_1, gf_2, gf_3, gf_4, gf_7, gf_21, gf_63, dy_0, dy_1, dy_2, dy_3, dy_7, dy_21, px_brT, px_brF, true_and, and_true, and_false, false_and, and_self, true_implies, false_implies, or_true, true_or, or_false, false_or, eq_self, ne_eq, not_false_eq_true, not_true_eq_false, if_true, if_false, List.mem_cons, List.not_mem_nil, List.length_cons, List.length_nil, Nat.reduceEqDiff, Nat.reduceAdd, Nat.reduceSub, Nat.reduceLeDiff, Nat.reduceLT, Int.reduceEq, Int.reduceLT, Int.reduceLE, Int.reduceNeg, Int.reduceAdd, Int.reduceSub, Int.reduceToNat, ↓reduceIte, one_ne_zero_, zero_ne_one_, px_in32L, cd_294, cd_204, cd_205, cd_207, cd_214, hnf, ec]
      repeat' (first | (with_reducible apply And.intro) | (with_reducible refine px_br_intro (fun _ => ?_) (fun _ => ?_)))
      all_goals (try (first | (unfold px_in32; omega) | omega))
      refine sp_readsT hT.1 en.2.2.2 (fun M1 a1 a2 a3 a4 => ?_) (fun M1 a1 a4 => ?_)
      · have h := he M1 c1 z3 z4 z5 (frE_128 (frd_E a4)) (frE_out (frd_E a4))
        rw [if_pos c2, if_neg a1] at h
        have e2 : nth (lst (M1 134) ((rdC Mc c).length : Int)) k = M1 134 k := nth_lst c1 (by omega)
        have e3 : nth (rdC Mc c) k = Mc (64 + c) k := nth_lst c1 c2
        rw [a2, e3] at e2
        simp only [px_go, px_Q0_at, px_sx_0, px_sx_s, px_cl, px_step, ↓px_ll, px_lg, f4_, ↓px_r1, ↓px_r2, ↓px_r4, ↓px_r5, ↓px_p1, ↓px_p2, ↓px_p3, ↓px_pop, px_k_0, px_k_s, px_k3_0, px_stk_, px_cats, px_ent, px_st1, px_st2, px_mask, ↓px_tsw, ↓px_lsw, ct_, mls_0, mls_1, mls_2, mls_3, mls_4, mls_5, kd_0, kd_1, kd_2, kd_3, ln_0, ln_1, ln_2, ln_3, gf_0, gf_1, gf_2, gf_3, gf_4, gf_7, gf_21, gf_63, dy_0, dy_1, dy_2, dy_3, dy_7, dy_21, px_brT, px_brF, true_and, and_true, and_false, false_and, and_self, true_implies, false_implies, or_true, true_or, or_false, false_or, eq_self, ne_eq, not_false_eq_true, not_true_eq_false, if_true, if_false, List.mem_cons, List.not_mem_nil, List.length_cons, List.length_nil, Nat.reduceEqDiff, Nat.reduceAdd, Nat.reduceSub, Nat.reduceLeDiff, Nat.reduceLT, Int.reduceEq, Int.reduceLT, Int.reduceLE, Int.reduceNeg, Int.reduceAdd, Int.reduceSub, Int.reduceToNat, ↓reduceIte, one_ne_zero_, zero_ne_one_, px_in32L, cd_294, cd_204, cd_205, cd_207, cd_214]
        repeat' (first | (with_reducible apply And.intro) | (with_reducible refine px_br_intro (fun _ => ?_) (fun _ => ?_)))
        all_goals (try (first | (unfold px_in32; omega) | omega))
        rw [← e2]
        exact h
      · have h := he M1 c1 z3 z4 z5 (frE_128 (frd_E a4)) (frE_out (frd_E a4))
        rw [if_pos c2, if_pos a1] at h
        simp only [px_go, px_Q0_at, px_sx_0, px_sx_s, px_cl, px_step, ↓px_ll, px_lg, f4_, ↓px_r1, ↓px_r2, ↓px_r4, ↓px_r5, ↓px_p1, ↓px_p2, ↓px_p3, ↓px_pop, px_k_0, px_k_s, px_k3_0, px_stk_, px_cats, px_ent, px_st1, px_st2, px_mask, ↓px_tsw, ↓px_lsw, ct_, mls_0, mls_1, mls_2, mls_3, mls_4, mls_5, kd_0, kd_1, kd_2, kd_3, ln_0, ln_1, ln_2, ln_3, gf_0, gf_1, gf_2, gf_3, gf_4, gf_7, gf_21, gf_63, dy_0, dy_1, dy_2, dy_3, dy_7, dy_21, px_brT, px_brF, true_and, and_true, and_false, false_and, and_self, true_implies, false_implies, or_true, true_or, or_false, false_or, eq_self, ne_eq, not_false_eq_true, not_true_eq_false, if_true, if_false, List.mem_cons, List.not_mem_nil, List.length_cons, List.length_nil, Nat.reduceEqDiff, Nat.reduceAdd, Nat.reduceSub, Nat.reduceLeDiff, Nat.reduceLT, Int.reduceEq, Int.reduceLT, Int.reduceLE, Int.reduceNeg, Int.reduceAdd, Int.reduceSub, Int.reduceToNat, ↓reduceIte, one_ne_zero_, zero_ne_one_, px_in32L, cd_294, cd_204, cd_205, cd_207, cd_214]
        exact h
    · have h := he M c1 z3 z4 z5 rfl (out_refl M)
      rw [if_neg c2] at h
      exact h
    · exact h0 (Or.inl (by omega))
theorem sp_rat {Mc : px_mem} {num i b k N : Int} {pl : Int → Int → List Int} {nm : Int → List Int} {g : Int → fe} (hT : TE Mc pl nm (M 128)) (hst : sR (M 128) N g) (hb : b = 0 ∨ b = 1) (h0 : ∀ M', (k < 0 ∨ (num = -1 ∧ ¬ (0 ≤ i ∧ i < N)) ∨ (num ≠ -1 ∧ (slot Mc num < 0 ∨ ¬ (0 ≤ i ∧ i < Mc (Mc 21 (slot Mc num)) 2)))) → M' 128 = M 128 → out M' M → Q (some (0, -1)) M') (hs : ∀ M', 0 ≤ k → num = -1 → (0 ≤ i ∧ i < N) → M' 128 = M 128 → out M' M → Q (some (0, if b = 0 then usg (sgA (g i).1 k) else if k < ((g i).2.length : Int) then nth (g i).2 k else -2)) M') (he : ∀ M', 0 ≤ k → num ≠ -1 → 0 ≤ slot Mc num → slot Mc num < Mc 20 1 → (0 ≤ i ∧ i < Mc (Mc 21 (slot Mc num)) 2) → M' 128 = M 128 → out M' M → Q (some (0, if b = 0 then usg (sgA (pl (slot Mc num) i) k) else if k < Mc 57 (Mc (Mc 21 (slot Mc num) + 2) i) then (if Mc 104 (Mc (Mc 21 (slot Mc num) + 2) i) = 0 then -3 else Mc (64 + Mc (Mc 21 (slot Mc num) + 2) i) k) else -2)) M') : px_Ok 294 [(2, 127), (0, num), (0, i), (0, b), (0, k)] LAY M Q := by
  by_cases hn : num = -1
  · subst hn
    rcases hb with e | e <;> subst e
    · refine sp_rat_s0 hT hst (fun z M' z1 z2 => h0 M' ?_ z1 z2) (fun M' z1 z2 z3 z4 => ?_)
      · rcases z with y | y
        · exact Or.inl y
        · exact Or.inr (Or.inl ⟨rfl, y⟩)
      · have h := hs M' z1 rfl z2 z3 z4
        rw [if_pos rfl] at h; exact h
    · refine sp_rat_s1 hT hst (fun z M' z1 z2 => h0 M' ?_ z1 z2) (fun M' z1 z2 z3 z4 => ?_)
      · rcases z with y | y
        · exact Or.inl y
        · exact Or.inr (Or.inl ⟨rfl, y⟩)
      · have h := hs M' z1 rfl z2 z3 z4
        rw [if_neg (by decide)] at h; exact h
  · rcases hb with e | e <;> subst e
    · refine sp_rat_e0 hT hst hn (fun z => h0 M ?_ rfl (out_refl M)) (fun z1 z2 z3 z4 => ?_)
      · rcases z with y | y
        · exact Or.inl y
        · exact Or.inr (Or.inr ⟨hn, y⟩)
      · have h := he M z1 hn z2 z3 z4 rfl (out_refl M)
        rw [if_pos rfl] at h; exact h
    · refine sp_rat_e1 hT hst hn (fun z => h0 M ?_ rfl (out_refl M)) (fun M' z1 z2 z3 z4 z5 z6 => ?_)
      · rcases z with y | y
        · exact Or.inl y
        · exact Or.inr (Or.inr ⟨hn, y⟩)
      · have h := he M' z1 hn z2 z3 z4 z5 z6
        rw [if_neg (by decide)] at h; exact h
end PS
