set_option maxRecDepth 100000 in
/-- X12_content -/
theorem cd_295 : px_at 295 0 = some (1, [], .aload_n 0, []) ∧ px_at 295 1 = some (2, [], .iload_n 1, []) ∧ px_at 295 2 = some (5, [], .invokevirtual 328, [189, 1, 11, 300]) ∧ px_at 295 5 = some (8, [], .ifCond .ne 5, [10]) ∧ px_at 295 8 = some (9, [], .iconst (-1), []) ∧ px_at 295 9 = some (10, [], .ireturn, [0]) ∧ px_at 295 10 = some (11, [], .iload_n 2, []) ∧ px_at 295 11 = some (64, [], .tableswitch 134 0 9 #[53, 60, 67, 74, 81, 88, 94, 100, 106, 120], [145, 64, 71, 78, 85, 92, 99, 105, 111, 117, 131]) ∧ px_at 295 64 = some (65, [], .aload_n 0, []) ∧ px_at 295 65 = some (66, [], .iload_n 1, []) ∧ px_at 295 66 = some (67, [], .iconst 1, []) ∧ px_at 295 67 = some (70, [], .invokevirtual 109, [187, 2, 11, 259]) ∧ px_at 295 70 = some (71, [], .ireturn, [0]) ∧ px_at 295 71 = some (72, [], .aload_n 0, []) ∧ px_at 295 72 = some (73, [], .iload_n 1, []) ∧ px_at 295 73 = some (74, [], .iconst 2, []) ∧ px_at 295 74 = some (77, [], .invokevirtual 109, [187, 2, 11, 259]) ∧ px_at 295 77 = some (78, [], .ireturn, [0]) ∧ px_at 295 78 = some (79, [], .aload_n 0, []) ∧ px_at 295 79 = some (80, [], .iload_n 1, []) ∧ px_at 295 80 = some (81, [], .iconst 3, []) ∧ px_at 295 81 = some (84, [], .invokevirtual 109, [187, 2, 11, 259]) ∧ px_at 295 84 = some (85, [], .ireturn, [0]) ∧ px_at 295 85 = some (86, [], .aload_n 0, []) ∧ px_at 295 86 = some (87, [], .iload_n 1, []) ∧ px_at 295 87 = some (88, [], .iconst 4, []) ∧ px_at 295 88 = some (91, [], .invokevirtual 109, [187, 2, 11, 259]) ∧ px_at 295 91 = some (92, [], .ireturn, [0]) ∧ px_at 295 92 = some (93, [], .aload_n 0, []) ∧ px_at 295 93 = some (94, [], .iload_n 1, []) ∧ px_at 295 94 = some (95, [], .iconst 5, []) ∧ px_at 295 95 = some (98, [], .invokevirtual 109, [187, 2, 11, 259]) ∧ px_at 295 98 = some (99, [], .ireturn, [0]) ∧ px_at 295 99 = some (100, [], .aload_n 0, []) ∧ px_at 295 100 = some (101, [], .iload_n 1, []) ∧ px_at 295 101 = some (104, [], .invokevirtual 154, [190, 1, 11, 268]) ∧ px_at 295 104 = some (105, [], .ireturn, [0]) ∧ px_at 295 105 = some (106, [], .aload_n 0, []) ∧ px_at 295 106 = some (107, [], .iload_n 1, []) ∧ px_at 295 107 = some (110, [], .invokevirtual 340, [260, 1, 11, 307]) ∧ px_at 295 110 = some (111, [], .ireturn, [0]) ∧ px_at 295 111 = some (112, [], .aload_n 0, []) ∧ px_at 295 112 = some (113, [], .iload_n 1, []) ∧ px_at 295 113 = some (116, [], .invokevirtual 193, [211, 1, 11, 292]) ∧ px_at 295 116 = some (117, [], .ireturn, [0]) ∧ px_at 295 117 = some (118, [], .aload_n 0, []) ∧ px_at 295 118 = some (119, [], .iload_n 1, []) ∧ px_at 295 119 = some (122, [], .invokevirtual 122, [193, 1, 11, 258]) ∧ px_at 295 122 = some (125, [], .ifCond .eq 7, [129]) ∧ px_at 295 125 = some (126, [], .iconst 1, []) ∧ px_at 295 126 = some (129, [], .goto 4, [130]) ∧ px_at 295 129 = some (130, [], .iconst 0, []) ∧ px_at 295 130 = some (131, [], .ireturn, [0]) ∧ px_at 295 131 = some (132, [], .aload_n 0, []) ∧ px_at 295 132 = some (133, [], .iload_n 1, []) ∧ px_at 295 133 = some (136, [], .invokevirtual 141, [194, 1, 11, 257]) ∧ px_at 295 136 = some (139, [], .ifCond .eq 7, [143]) ∧ px_at 295 139 = some (140, [], .iconst 1, []) ∧ px_at 295 140 = some (143, [], .goto 4, [144]) ∧ px_at 295 143 = some (144, [], .iconst 0, []) ∧ px_at 295 144 = some (145, [], .ireturn, [0]) ∧ px_at 295 145 = some (146, [], .iconst (-1), []) ∧ px_at 295 146 = some (147, [], .ireturn, [0]) := ⟨rfl, rfl, rfl, rfl, rfl, rfl, rfl, rfl, rfl, rfl, rfl, rfl, rfl, rfl, rfl, rfl, rfl, rfl, rfl, rfl, rfl, rfl, rfl, rfl, rfl, rfl, rfl, rfl, rfl, rfl, rfl, rfl, rfl, rfl, rfl, rfl, rfl, rfl, rfl, rfl, rfl, rfl, rfl, rfl, rfl, rfl, rfl, rfl, rfl, rfl, rfl, rfl, rfl, rfl, rfl, rfl, rfl, rfl, rfl, rfl, rfl, rfl, rfl⟩
/-! the reference: facts of a content -/
noncomputable def facR (Mc : px_mem) (c w : Int) : Int := if w = 0 then Mc 57 c else if w = 1 then Mc 58 c else if w = 2 then Mc 59 c else if w = 3 then Mc 60 c else if w = 4 then Mc 61 c else if w = 5 then Mc 62 c else if w = 6 then lsN (Mc 20 1) (nfC Mc) (cfC Mc) c else if w = 7 then sm 40 (fun d => b1 (0 ≤ Mc 62 d ∧ Mc 61 d = c)) else if w = 8 then b1 (Mc 104 c ≠ 0) else if w = 9 then b1 (Mc 105 c ≠ 0) else -1
theorem facR_0 (Mc : px_mem) (c : Int) : facR Mc c 0 = Mc 57 c := by
  unfold facR
  rw [if_pos rfl]
theorem facR_1 (Mc : px_mem) (c : Int) : facR Mc c 1 = Mc 58 c := by
  unfold facR
  rw [if_neg (by decide), if_pos rfl]
theorem facR_2 (Mc : px_mem) (c : Int) : facR Mc c 2 = Mc 59 c := by
  unfold facR
  rw [if_neg (by decide), if_neg (by decide), if_pos rfl]
theorem facR_3 (Mc : px_mem) (c : Int) : facR Mc c 3 = Mc 60 c := by
  unfold facR
  rw [if_neg (by decide), if_neg (by decide), if_neg (by decide), if_pos rfl]
theorem facR_4 (Mc : px_mem) (c : Int) : facR Mc c 4 = Mc 61 c := by
  unfold facR
  rw [if_neg (by decide), if_neg (by decide), if_neg (by decide), if_neg (by decide), if_pos rfl]
theorem facR_5 (Mc : px_mem) (c : Int) : facR Mc c 5 = Mc 62 c := by
  unfold facR
  rw [if_neg (by decide), if_neg (by decide), if_neg (by decide), if_neg (by decide), if_neg (by decide), if_pos rfl]
theorem facR_6 (Mc : px_mem) (c : Int) : facR Mc c 6 = lsN (Mc 20 1) (nfC Mc) (cfC Mc) c := by
  unfold facR
  rw [if_neg (by decide), if_neg (by decide), if_neg (by decide), if_neg (by decide), if_neg (by decide), if_neg (by decide), if_pos rfl]
theorem facR_7 (Mc : px_mem) (c : Int) : facR Mc c 7 = sm 40 (fun d => b1 (0 ≤ Mc 62 d ∧ Mc 61 d = c)) := by
  unfold facR
  rw [if_neg (by decide), if_neg (by decide), if_neg (by decide), if_neg (by decide), if_neg (by decide), if_neg (by decide), if_neg (by decide), if_pos rfl]
theorem facR_8 (Mc : px_mem) (c : Int) : facR Mc c 8 = b1 (Mc 104 c ≠ 0) := by
  unfold facR
  rw [if_neg (by decide), if_neg (by decide), if_neg (by decide), if_neg (by decide), if_neg (by decide), if_neg (by decide), if_neg (by decide), if_neg (by decide), if_pos rfl]
theorem facR_9 (Mc : px_mem) (c : Int) : facR Mc c 9 = b1 (Mc 105 c ≠ 0) := by
  unfold facR
  rw [if_neg (by decide), if_neg (by decide), if_neg (by decide), if_neg (by decide), if_neg (by decide), if_neg (by decide), if_neg (by decide), if_neg (by decide), if_neg (by decide), if_pos rfl]
section PS
variable {M : px_mem} {Q : Option pv → px_mem → Prop}
set_option maxHeartbeats 600000 in
set_option maxRecDepth 100000 in
theorem sp_rcontent {Mc : px_mem} {c w : Int} {pl : Int → Int → List Int} {nm : Int → List Int} (hT : TE Mc pl nm (M 128)) (h0 : ¬ (0 ≤ c ∧ c < 40 ∧ 0 ≤ Mc 62 c) → Q (some (0, -1)) M) (h : ∀ M', (0 ≤ c ∧ c < 40 ∧ 0 ≤ Mc 62 c) → M' 128 = M 128 → out M' M → ∀ v, v = facR Mc c w → Q (some (0, v)) M') : px_Ok 295 [(2, 127), (0, c), (0, w)] LAY M Q := by
  refine px_ok_go (inl := [187]) (ls0 := [(2, 127), (0, c), (0, w)]) 60 (by decide) (Nat.le_of_ble_eq_true rfl) rfl ?_
  simp only [px_go, px_Q0_at, px_sx_0, px_sx_s, px_cl, px_step, ↓px_ll, px_lg, f4_, ↓px_r1, ↓px_r2, ↓px_r4, ↓px_r5, ↓px_p1, ↓px_p2, ↓px_p3, ↓px_pop, px_k_0, px_k_s, px_k3_0, px_stk_, px_cats, px_ent, px_st1, px_st2, px_mask, ↓px_tsw, ↓px_lsw, ct_, mls_0, mls_1, mls_2, mls_3, mls_4, mls_5, kd_0, kd_1, kd_2, kd_3, ln_0, ln_1, ln_2, ln_3, gf_0, gf_1, gf_2, gf_3, gf_4, gf_7, gf_21, gf_63, dy_0, dy_1, dy_2, dy_3, dy_7, dy_21, px_brT, px_brF, true_and, and_true, and_false, false_and, and_self, true_implies, false_implies, or_true, true_or, or_false, false_or, eq_self, ne_eq, not_false_eq_true, not_true_eq_false, if_true, if_false, List.mem_cons, List.not_mem_nil, List.length_cons, List.length_nil, Nat.reduceEqDiff, Nat.reduceAdd, Nat.reduceSub, Nat.reduceLeDiff, Nat.reduceLT, Int.reduceEq, Int.reduceLT, Int.reduceLE, Int.reduceNeg, Int.reduceAdd, Int.reduceSub, Int.reduceToNat, ↓reduceIte, one_ne_zero_, zero_ne_one_, px_in32L, cd_295, cd_187]
  repeat' (first | (with_reducible apply And.intro) | (with_reducible refine px_br_intro (fun _ => ?_) (fun _ => ?_)))
  all_goals (try (first | (unfold px_in32; omega) | omega))
  have hTn := TE_n hT
  refine sp_isContent (fun y => ?_) (fun y => ?_)
  · have hc : 0 ≤ c ∧ c < 40 ∧ 0 ≤ Mc 62 c := by have := hT.1.2.1 c y.1 y.2.1; omega
    have hself := h M hc rfl (out_refl M)
    have hfr : ∀ M', frd M' M → ∀ v, v = facR Mc c w → Q (some (0, v)) M' := fun M' a => h M' hc (frd_128 a) (frd_out a)
    have hp := tieC_p hT.1 hc.1 hc.2.1 hc.2.2
    have p1 : M 128 (654 + 6 * c + 1) = Mc 57 c := hp.1
    have p2 : M 128 (654 + 6 * c + 2) = Mc 58 c := hp.2.1
    have p3 : M 128 (654 + 6 * c + 3) = Mc 59 c := hp.2.2.1
    have p4 : M 128 (654 + 6 * c + 4) = Mc 60 c := hp.2.2.2.1
    have p5 : M 128 (654 + 6 * c + 5) = Mc 61 c := hp.2.2.2.2
    simp only [px_go, px_Q0_at, px_sx_0, px_sx_s, px_cl, px_step, ↓px_ll, px_lg, f4_, ↓px_r1, ↓px_r2, ↓px_r4, ↓px_r5, ↓px_p1, ↓px_p2, ↓px_p3, ↓px_pop, px_k_0, px_k_s, px_k3_0, px_stk_, px_cats, px_ent, px_st1, px_st2, px_mask, ↓px_tsw, ↓px_lsw, ct_, mls_0, mls_1, mls_2, mls_3, mls_4, mls_5, kd_0, kd_1, kd_2, kd_3, ln_0, ln_1, ln_2, ln_3, gf_0, gf_1, gf_2, gf_3, gf_4, gf_7, gf_21, gf_63, dy_0, dy_1, dy_2, dy_3, dy_7, dy_21, px_brT, px_brF, true_and, and_true, and_false, false_and, and_self, true_implies, false_implies, or_true, true_or, or_false, false_or, eq_self, ne_eq, not_false_eq_true, not_true_eq_false, if_true, if_false, List.mem_cons, List.not_mem_nil, List.length_cons, List.length_nil, Nat.reduceEqDiff, Nat.reduceAdd, Nat.reduceSub, Nat.reduceLeDiff, Nat.reduceLT, Int.reduceEq, Int.reduceLT, Int.reduceLE, Int.reduceNeg, Int.reduceAdd, Int.reduceSub, Int.reduceToNat, ↓reduceIte, one_ne_zero_, zero_ne_one_, px_in32L, cd_295, cd_187, p1, p2, p3, p4, p5]
    repeat' (first | (with_reducible apply And.intro) | (with_reducible refine px_br_intro (fun _ => ?_) (fun _ => ?_)))
    all_goals (try (first | (unfold px_in32; omega) | omega))
    all_goals intro hw
    · repeat' (first | (with_reducible apply And.intro) | (with_reducible refine px_br_intro (fun _ => ?_) (fun _ => ?_)))
      all_goals (try (first | (unfold px_in32; omega) | omega))
      exact hself _ (by rw [hw, facR_0])
    · repeat' (first | (with_reducible apply And.intro) | (with_reducible refine px_br_intro (fun _ => ?_) (fun _ => ?_)))
      all_goals (try (first | (unfold px_in32; omega) | omega))
      exact hself _ (by rw [hw, facR_1])
    · repeat' (first | (with_reducible apply And.intro) | (with_reducible refine px_br_intro (fun _ => ?_) (fun _ => ?_)))
      all_goals (try (first | (unfold px_in32; omega) | omega))
      exact hself _ (by rw [hw, facR_2])
    · repeat' (first | (with_reducible apply And.intro) | (with_reducible refine px_br_intro (fun _ => ?_) (fun _ => ?_)))
      all_goals (try (first | (unfold px_in32; omega) | omega))
      exact hself _ (by rw [hw, facR_3])
    · repeat' (first | (with_reducible apply And.intro) | (with_reducible refine px_br_intro (fun _ => ?_) (fun _ => ?_)))
      all_goals (try (first | (unfold px_in32; omega) | omega))
      exact hself _ (by rw [hw, facR_4])
    · refine sp_depthOf (tieC_rok hT.1).1 hc ?_
      simp only [px_go, px_Q0_at, px_sx_0, px_sx_s, px_cl, px_step, ↓px_ll, px_lg, f4_, ↓px_r1, ↓px_r2, ↓px_r4, ↓px_r5, ↓px_p1, ↓px_p2, ↓px_p3, ↓px_pop, px_k_0, px_k_s, px_k3_0, px_stk_, px_cats, px_ent, px_st1, px_st2, px_mask, ↓px_tsw, ↓px_lsw, ct_, mls_0, mls_1, mls_2, mls_3, mls_4, mls_5, kd_0, kd_1, kd_2, kd_3, ln_0, ln_1, ln_2, ln_3, gf_0, gf_1, gf_2, gf_3, gf_4, gf_7, gf_21, gf_63, dy_0, dy_1, dy_2, dy_3, dy_7, dy_21, px_brT, px_brF, true_and, and_true, and_false, false_and, and_self, true_implies, false_implies, or_true, true_or, or_false, false_or, eq_self, ne_eq, not_false_eq_true, not_true_eq_false, if_true, if_false, List.mem_cons, List.not_mem_nil, List.length_cons, List.length_nil, Nat.reduceEqDiff, Nat.reduceAdd, Nat.reduceSub, Nat.reduceLeDiff, Nat.reduceLT, Int.reduceEq, Int.reduceLT, Int.reduceLE, Int.reduceNeg, Int.reduceAdd, Int.reduceSub, Int.reduceToNat, ↓reduceIte, one_ne_zero_, zero_ne_one_, px_in32L, cd_295, cd_187]
      exact hself _ (by rw [hw, facR_5])
    · refine sp_listings hT ?_
      simp only [px_go, px_Q0_at, px_sx_0, px_sx_s, px_cl, px_step, ↓px_ll, px_lg, f4_, ↓px_r1, ↓px_r2, ↓px_r4, ↓px_r5, ↓px_p1, ↓px_p2, ↓px_p3, ↓px_pop, px_k_0, px_k_s, px_k3_0, px_stk_, px_cats, px_ent, px_st1, px_st2, px_mask, ↓px_tsw, ↓px_lsw, ct_, mls_0, mls_1, mls_2, mls_3, mls_4, mls_5, kd_0, kd_1, kd_2, kd_3, ln_0, ln_1, ln_2, ln_3, gf_0, gf_1, gf_2, gf_3, gf_4, gf_7, gf_21, gf_63, dy_0, dy_1, dy_2, dy_3, dy_7, dy_21, px_brT, px_brF, true_and, and_true, and_false, false_and, and_self, true_implies, false_implies, or_true, true_or, or_false, false_or, eq_self, ne_eq, not_false_eq_true, not_true_eq_false, if_true, if_false, List.mem_cons, List.not_mem_nil, List.length_cons, List.length_nil, Nat.reduceEqDiff, Nat.reduceAdd, Nat.reduceSub, Nat.reduceLeDiff, Nat.reduceLT, Int.reduceEq, Int.reduceLT, Int.reduceLE, Int.reduceNeg, Int.reduceAdd, Int.reduceSub, Int.reduceToNat, ↓reduceIte, one_ne_zero_, zero_ne_one_, px_in32L, cd_295, cd_187]
      exact hself _ (by rw [hw, facR_6])
    · refine sp_basedOn ?_
      simp only [px_go, px_Q0_at, px_sx_0, px_sx_s, px_cl, px_step, ↓px_ll, px_lg, f4_, ↓px_r1, ↓px_r2, ↓px_r4, ↓px_r5, ↓px_p1, ↓px_p2, ↓px_p3, ↓px_pop, px_k_0, px_k_s, px_k3_0, px_stk_, px_cats, px_ent, px_st1, px_st2, px_mask, ↓px_tsw, ↓px_lsw, ct_, mls_0, mls_1, mls_2, mls_3, mls_4, mls_5, kd_0, kd_1, kd_2, kd_3, ln_0, ln_1, ln_2, ln_3, gf_0, gf_1, gf_2, gf_3, gf_4, gf_7, gf_21, gf_63, dy_0, dy_1, dy_2, dy_3, dy_7, dy_21, px_brT, px_brF, true_and, and_true, and_false, false_and, and_self, true_implies, false_implies, or_true, true_or, or_false, false_or, eq_self, ne_eq, not_false_eq_true, not_true_eq_false, if_true, if_false, List.mem_cons, List.not_mem_nil, List.length_cons, List.length_nil, Nat.reduceEqDiff, Nat.reduceAdd, Nat.reduceSub, Nat.reduceLeDiff, Nat.reduceLT, Int.reduceEq, Int.reduceLT, Int.reduceLE, Int.reduceNeg, Int.reduceAdd, Int.reduceSub, Int.reduceToNat, ↓reduceIte, one_ne_zero_, zero_ne_one_, px_in32L, cd_295, cd_187]
      refine hself _ ?_
      rw [hw, facR_7]
      refine sm_congr (fun d d0 d1 => b1_congr ?_)
      have hio := hT.1.2.1 d d0 d1
      constructor
      · intro z
        have hd : 0 ≤ Mc 62 d := by omega
        exact ⟨hd, by rw [← (tieC_p hT.1 d0 d1 hd).2.2.2.2]; exact z.2⟩
      · intro z
        exact ⟨by omega, by rw [(tieC_p hT.1 d0 d1 z.1).2.2.2.2]; exact z.2⟩
    · refine sp_readsT hT.1 hc (fun M1 a1 a2 a3 a4 => ?_) (fun M1 a1 a4 => ?_)
      · simp only [px_go, px_Q0_at, px_sx_0, px_sx_s, px_cl, px_step, ↓px_ll, px_lg, f4_, ↓px_r1, ↓px_r2, ↓px_r4, ↓px_r5, ↓px_p1, ↓px_p2, ↓px_p3, ↓px_pop, px_k_0, px_k_s, px_k3_0, px_stk_, px_cats, px_ent, px_st1, px_st2, px_mask, ↓px_tsw, ↓px_lsw, ct_, mls_0, mls_1, mls_2, mls_3, mls_4, mls_5, kd_0, kd_1, kd_2, kd_3, ln_0, ln_1, ln_2, ln_3, gf_0, gf_1, gf_2, gf_3, gf_4, gf_7, gf_21, gf_63, dy_0, dy_1, dy_2, dy_3, dy_7, dy_21, px_brT, px_brF, true_and, and_true, and_false, false_and, and_self, true_implies, false_implies, or_true, true_or, or_false, false_or, eq_self, ne_eq, not_false_eq_true, not_true_eq_false, if_true, if_false, List.mem_cons, List.not_mem_nil, List.length_cons, List.length_nil, Nat.reduceEqDiff, Nat.reduceAdd, Nat.reduceSub, Nat.reduceLeDiff, Nat.reduceLT, Int.reduceEq, Int.reduceLT, Int.reduceLE, Int.reduceNeg, Int.reduceAdd, Int.reduceSub, Int.reduceToNat, ↓reduceIte, one_ne_zero_, zero_ne_one_, px_in32L, cd_295, cd_187]
        exact hfr M1 a4 _ (by rw [hw, facR_8, b1_t a1])
      · simp only [px_go, px_Q0_at, px_sx_0, px_sx_s, px_cl, px_step, ↓px_ll, px_lg, f4_, ↓px_r1, ↓px_r2, ↓px_r4, ↓px_r5, ↓px_p1, ↓px_p2, ↓px_p3, ↓px_pop, px_k_0, px_k_s, px_k3_0, px_stk_, px_cats, px_ent, px_st1, px_st2, px_mask, ↓px_tsw, ↓px_lsw, ct_, mls_0, mls_1, mls_2, mls_3, mls_4, mls_5, kd_0, kd_1, kd_2, kd_3, ln_0, ln_1, ln_2, ln_3, gf_0, gf_1, gf_2, gf_3, gf_4, gf_7, gf_21, gf_63, dy_0, dy_1, dy_2, dy_3, dy_7, dy_21, px_brT, px_brF, true_and, and_true, and_false, false_and, and_self, true_implies, false_implies, or_true, true_or, or_false, false_or, eq_self, ne_eq, not_false_eq_true, not_true_eq_false, if_true, if_false, List.mem_cons, List.not_mem_nil, List.length_cons, List.length_nil, Nat.reduceEqDiff, Nat.reduceAdd, Nat.reduceSub, Nat.reduceLeDiff, Nat.reduceLT, Int.reduceEq, Int.reduceLT, Int.reduceLE, Int.reduceNeg, Int.reduceAdd, Int.reduceSub, Int.reduceToNat, ↓reduceIte, one_ne_zero_, zero_ne_one_, px_in32L, cd_295, cd_187]
        exact hfr M1 a4 _ (by rw [hw, facR_8, b1_f (fun z => z a1)])
    · refine sp_wholeT hT.1 hc (fun M1 a1 a2 a3 a4 => ?_) (fun M1 a1 a4 => ?_)
      · simp only [px_go, px_Q0_at, px_sx_0, px_sx_s, px_cl, px_step, ↓px_ll, px_lg, f4_, ↓px_r1, ↓px_r2, ↓px_r4, ↓px_r5, ↓px_p1, ↓px_p2, ↓px_p3, ↓px_pop, px_k_0, px_k_s, px_k3_0, px_stk_, px_cats, px_ent, px_st1, px_st2, px_mask, ↓px_tsw, ↓px_lsw, ct_, mls_0, mls_1, mls_2, mls_3, mls_4, mls_5, kd_0, kd_1, kd_2, kd_3, ln_0, ln_1, ln_2, ln_3, gf_0, gf_1, gf_2, gf_3, gf_4, gf_7, gf_21, gf_63, dy_0, dy_1, dy_2, dy_3, dy_7, dy_21, px_brT, px_brF, true_and, and_true, and_false, false_and, and_self, true_implies, false_implies, or_true, true_or, or_false, false_or, eq_self, ne_eq, not_false_eq_true, not_true_eq_false, if_true, if_false, List.mem_cons, List.not_mem_nil, List.length_cons, List.length_nil, Nat.reduceEqDiff, Nat.reduceAdd, Nat.reduceSub, Nat.reduceLeDiff, Nat.reduceLT, Int.reduceEq, Int.reduceLT, Int.reduceLE, Int.reduceNeg, Int.reduceAdd, Int.reduceSub, Int.reduceToNat, ↓reduceIte, one_ne_zero_, zero_ne_one_, px_in32L, cd_295, cd_187]
        exact hfr M1 a4 _ (by rw [hw, facR_9, b1_t a1])
      · simp only [px_go, px_Q0_at, px_sx_0, px_sx_s, px_cl, px_step, ↓px_ll, px_lg, f4_, ↓px_r1, ↓px_r2, ↓px_r4, ↓px_r5, ↓px_p1, ↓px_p2, ↓px_p3, ↓px_pop, px_k_0, px_k_s, px_k3_0, px_stk_, px_cats, px_ent, px_st1, px_st2, px_mask, ↓px_tsw, ↓px_lsw, ct_, mls_0, mls_1, mls_2, mls_3, mls_4, mls_5, kd_0, kd_1, kd_2, kd_3, ln_0, ln_1, ln_2, ln_3, gf_0, gf_1, gf_2, gf_3, gf_4, gf_7, gf_21, gf_63, dy_0, dy_1, dy_2, dy_3, dy_7, dy_21, px_brT, px_brF, true_and, and_true, and_false, false_and, and_self, true_implies, false_implies, or_true, true_or, or_false, false_or, eq_self, ne_eq, not_false_eq_true, not_true_eq_false, if_true, if_false, List.mem_cons, List.not_mem_nil, List.length_cons, List.length_nil, Nat.reduceEqDiff, Nat.reduceAdd, Nat.reduceSub, Nat.reduceLeDiff, Nat.reduceLT, Int.reduceEq, Int.reduceLT, Int.reduceLE, Int.reduceNeg, Int.reduceAdd, Int.reduceSub, Int.reduceToNat, ↓reduceIte, one_ne_zero_, zero_ne_one_, px_in32L, cd_295, cd_187]
        exact hfr M1 a4 _ (by rw [hw, facR_9, b1_f (fun z => z a1)])
    · refine hself _ ?_
      unfold facR
      rw [if_neg (by omega), if_neg (by omega), if_neg (by omega), if_neg (by omega), if_neg (by omega), if_neg (by omega), if_neg (by omega), if_neg (by omega), if_neg (by omega), if_neg (by omega)]
  · simp only [px_go, px_Q0_at, px_sx_0, px_sx_s, px_cl, px_step, ↓px_ll, px_lg, f4_, ↓px_r1, ↓px_r2, ↓px_r4, ↓px_r5, ↓px_p1, ↓px_p2, ↓px_p3, ↓px_pop, px_k_0, px_k_s, px_k3_0, px_stk_, px_cats, px_ent, px_st1, px_st2, px_mask, ↓px_tsw, ↓px_lsw, ct_, mls_0, mls_1, mls_2, mls_3, mls_4, mls_5, kd_0, kd_1, kd_2, kd_3, ln_0, ln_1, ln_2, ln_3, gf_0, gf_1, gf_2, gf_3, gf_4, gf_7, gf_21, gf_63, dy_0, dy_1, dy_2, dy_3, dy_7, dy_21, px_brT, px_brF, true_and, and_true, and_false, false_and, and_self, true_implies, false_implies, or_true, true_or, or_false, false_or, eq_self, ne_eq, not_false_eq_true, not_true_eq_false, if_true, if_false, List.mem_cons, List.not_mem_nil, List.length_cons, List.length_nil, Nat.reduceEqDiff, Nat.reduceAdd, Nat.reduceSub, Nat.reduceLeDiff, Nat.reduceLT, Int.reduceEq, Int.reduceLT, Int.reduceLE, Int.reduceNeg, Int.reduceAdd, Int.reduceSub, Int.reduceToNat, ↓reduceIte, one_ne_zero_, zero_ne_one_, px_in32L, cd_295, cd_187]
    refine h0 (fun z => y ?_)
    have := hT.1.2.1 c z.1 z.2.1
    refine ⟨z.1, z.2.1, ?_⟩
    omega
end PS
