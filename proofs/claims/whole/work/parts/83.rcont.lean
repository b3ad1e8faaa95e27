set_option maxRecDepth 100000 in
/-- X12_isContent -/
theorem cd_189 : px_at 189 0 = some (1, [], .iload_n 1, []) ∧ px_at 189 1 = some (2, [], .iconst 0, []) ∧ px_at 189 2 = some (4, [], .bipush 39, []) ∧ px_at 189 4 = some (7, [], .invokestatic 92, [170, 3, 11, 223]) ∧ px_at 189 7 = some (10, [], .ifCond .eq 17, [24]) ∧ px_at 189 10 = some (11, [], .aload_n 0, []) ∧ px_at 189 11 = some (12, [], .iload_n 1, []) ∧ px_at 189 12 = some (13, [], .iconst 0, []) ∧ px_at 189 13 = some (16, [], .invokevirtual 109, [187, 2, 11, 259]) ∧ px_at 189 16 = some (17, [], .iconst 1, []) ∧ px_at 189 17 = some (20, [], .if_icmp .ne 7, [24]) ∧ px_at 189 20 = some (21, [], .iconst 1, []) ∧ px_at 189 21 = some (24, [], .goto 4, [25]) ∧ px_at 189 24 = some (25, [], .iconst 0, []) ∧ px_at 189 25 = some (26, [], .ireturn, [4]) := ⟨rfl, rfl, rfl, rfl, rfl, rfl, rfl, rfl, rfl, rfl, rfl, rfl, rfl, rfl, rfl⟩
set_option maxRecDepth 100000 in
/-- X12_depthOf -/
theorem cd_190 : px_at 190 0 = some (1, [], .iconst 0, []) ∧ px_at 190 1 = some (2, [], .istore_n 2, []) ∧ px_at 190 2 = some (3, [], .iload_n 1, []) ∧ px_at 190 3 = some (4, [], .istore_n 3, []) ∧ px_at 190 4 = some (5, [1, 0, 1, 1], .aload_n 0, []) ∧ px_at 190 5 = some (6, [], .iload_n 3, []) ∧ px_at 190 6 = some (7, [], .iconst 5, []) ∧ px_at 190 7 = some (10, [], .invokevirtual 109, [187, 2, 11, 259]) ∧ px_at 190 10 = some (12, [], .bipush (-2), []) ∧ px_at 190 12 = some (15, [], .if_icmp .eq 17, [29]) ∧ px_at 190 15 = some (16, [], .iload_n 2, []) ∧ px_at 190 16 = some (17, [], .iconst 1, []) ∧ px_at 190 17 = some (18, [], .iadd, []) ∧ px_at 190 18 = some (19, [], .istore_n 2, []) ∧ px_at 190 19 = some (20, [], .aload_n 0, []) ∧ px_at 190 20 = some (21, [], .iload_n 3, []) ∧ px_at 190 21 = some (22, [], .iconst 5, []) ∧ px_at 190 22 = some (25, [], .invokevirtual 109, [187, 2, 11, 259]) ∧ px_at 190 25 = some (26, [], .istore_n 3, []) ∧ px_at 190 26 = some (29, [], .goto (-22), [4]) ∧ px_at 190 29 = some (30, [], .iload_n 2, []) ∧ px_at 190 30 = some (31, [], .ireturn, [0]) := ⟨rfl, rfl, rfl, rfl, rfl, rfl, rfl, rfl, rfl, rfl, rfl, rfl, rfl, rfl, rfl, rfl, rfl, rfl, rfl, rfl, rfl, rfl⟩
set_option maxRecDepth 100000 in
/-- X12_rises -/
theorem cd_191 : px_at 191 0 = some (1, [], .iconst 0, []) ∧ px_at 191 1 = some (2, [], .istore_n 1, []) ∧ px_at 191 2 = some (3, [1, 1], .iload_n 1, []) ∧ px_at 191 3 = some (5, [], .bipush 40, []) ∧ px_at 191 5 = some (8, [], .if_icmp .ge 21, [26]) ∧ px_at 191 8 = some (9, [], .aload_n 0, []) ∧ px_at 191 9 = some (12, [], .getfield 32, [11, 8, 2, 1, 133]) ∧ px_at 191 12 = some (13, [], .iload_n 1, []) ∧ px_at 191 13 = some (14, [], .aload_n 0, []) ∧ px_at 191 14 = some (17, [], .getfield 29, [11, 7, 2, 1, 132]) ∧ px_at 191 17 = some (18, [], .iload_n 1, []) ∧ px_at 191 18 = some (19, [], .iaload, []) ∧ px_at 191 19 = some (20, [], .iastore, []) ∧ px_at 191 20 = some (23, [], .iinc 1 1, []) ∧ px_at 191 23 = some (26, [], .goto (-21), [2]) ∧ px_at 191 26 = some (27, [], .return_, []) := ⟨rfl, rfl, rfl, rfl, rfl, rfl, rfl, rfl, rfl, rfl, rfl, rfl, rfl, rfl, rfl, rfl⟩
/-! the reference: what is read of a content -/
section PT
variable {M : px_mem} {Q : Option pv → px_mem → Prop}
set_option maxHeartbeats 600000 in
set_option maxRecDepth 100000 in
theorem sp_isContent {c : Int} (h1 : 0 ≤ c ∧ c < 40 ∧ rC (M 128) c 0 = 1 → Q (some (0, 1)) M) (h0 : ¬ (0 ≤ c ∧ c < 40 ∧ rC (M 128) c 0 = 1) → Q (some (0, 0)) M) : px_Ok 189 [(2, 127), (0, c)] LAY M Q := by
  refine px_ok_go (inl := [170]) (ls0 := [(2, 127), (0, c)]) 60 (by decide) (Nat.le_of_ble_eq_true rfl) rfl ?_
  simp only [px_go, px_Q0_at, px_sx_0, px_sx_s, px_cl, px_step, ↓px_ll, px_lg, f4_, ↓px_r1, ↓px_r2, ↓px_r4, ↓px_r5, ↓px_p1, ↓px_p2, ↓px_p3, ↓px_pop, px_k_0, px_k_s, px_k3_0, px_stk_, px_cats, px_ent, px_st1, px_st2, px_mask, ↓px_tsw, ↓px_lsw, ct_, mls_0, mls_1, mls_2, mls_3, mls_4, mls_5, kd_0, kd_1, kd_2, kd_3, ln_0, ln_1, ln_2, ln_3, gf_0, gf_1, gf_2, gf_3, gf_4, gf_7, gf_21, gf_63, dy_0, dy_1, dy_2, dy_3, dy_7, dy_21, px_brT, px_brF, true_and, and_true, and_false, false_and, and_self, true_implies, false_implies, or_true, true_or, or_false, false_or, eq_self, ne_eq, not_false_eq_true, not_true_eq_false, if_true, if_false, List.mem_cons, List.not_mem_nil, List.length_cons, List.length_nil, Nat.reduceEqDiff, Nat.reduceAdd, Nat.reduceSub, Nat.reduceLeDiff, Nat.reduceLT, Int.reduceEq, Int.reduceLT, Int.reduceLE, Int.reduceNeg, Int.reduceAdd, Int.reduceSub, Int.reduceToNat, ↓reduceIte, one_ne_zero_, zero_ne_one_, px_in32L, cd_189, cd_170]
  repeat' (first | (with_reducible apply And.intro) | (with_reducible refine px_br_intro (fun _ => ?_) (fun _ => ?_)))
  all_goals (try (first | (unfold px_in32; omega) | omega))
  all_goals first
    | exact h0 (fun z => by omega)
    | (refine sp_partOf ⟨by omega, by omega⟩ (by decide) ?_
       simp only [px_go, px_Q0_at, px_sx_0, px_sx_s, px_cl, px_step, ↓px_ll, px_lg, f4_, ↓px_r1, ↓px_r2, ↓px_r4, ↓px_r5, ↓px_p1, ↓px_p2, ↓px_p3, ↓px_pop, px_k_0, px_k_s, px_k3_0, px_stk_, px_cats, px_ent, px_st1, px_st2, px_mask, ↓px_tsw, ↓px_lsw, ct_, mls_0, mls_1, mls_2, mls_3, mls_4, mls_5, kd_0, kd_1, kd_2, kd_3, ln_0, ln_1, ln_2, ln_3, gf_0, gf_1, gf_2, gf_3, gf_4, gf_7, gf_21, gf_63, dy_0, dy_1, dy_2, dy_3, dy_7, dy_21, px_brT, px_brF, true_and, and_true, and_false, false_and, and_self, true_implies, false_implies, or_true, true_or, or_false, false_or, eq_self, ne_eq, not_false_eq_true, not_true_eq_false, if_true, if_false, List.mem_cons, List.not_mem_nil, List.length_cons, List.length_nil, Nat.reduceEqDiff, Nat.reduceAdd, Nat.reduceSub, Nat.reduceLeDiff, Nat.reduceLT, Int.reduceEq, Int.reduceLT, Int.reduceLE, Int.reduceNeg, Int.reduceAdd, Int.reduceSub, Int.reduceToNat, ↓reduceIte, one_ne_zero_, zero_ne_one_, px_in32L, cd_189]
       repeat' (first | (with_reducible apply And.intro) | (with_reducible refine px_br_intro (fun _ => ?_) (fun _ => ?_)))
       · rename_i q
         exact h1 ⟨by omega, by omega, q⟩
       · rename_i q
         exact h0 (fun z => q z.2.2))
set_option maxHeartbeats 4000000 in
set_option maxRecDepth 100000 in
theorem lp_depthOf {dd : Int → Int} (hw : cw (rC (M 128)) dd) {r : Int} (h : Q (some (0, r)) M) : ∀ (m : Nat) (n c : Int), 0 ≤ c → c < 40 → 0 ≤ dd c → dd c ≤ m → 0 ≤ n → n + dd c = r → r ≤ 3 → px_WP 190 0 0 (px_Q0 LAY Q) 4 [(2, 127), (9, 0), (0, n), (0, c)] [] LAY M 0 0 := by
  intro m
  induction m with
  | zero =>
    intro n c c0 c1 d0 d1 n0 hr hr2
    have hc := hw c c0 c1 d0
    unfold cok at hc
    have e : rC (M 128) c 5 = -2 := by omega
    refine px_go_ok (inl := []) 60 ?_
    simp only [px_go, px_Q0_at, px_sx_0, px_sx_s, px_cl, px_step, ↓px_ll, px_lg, f4_, ↓px_r1, ↓px_r2, ↓px_r4, ↓px_r5, ↓px_p1, ↓px_p2, ↓px_p3, ↓px_pop, px_k_0, px_k_s, px_k3_0, px_stk_, px_cats, px_ent, px_st1, px_st2, px_mask, ↓px_tsw, ↓px_lsw, ct_, mls_0, mls_1, mls_2, mls_3, mls_4, mls_5, kd_0, kd_1, kd_2, kd_3, ln_0, ln_1, ln_2, ln_3, gf_0, gf_1, gf_2, gf_3, gf_4, gf_7, gf_21, gf_63, dy_0, dy_1, dy_2, dy_3, dy_7, dy_21, px_brT, px_brF, true_and, and_true, and_false, false_and, and_self, true_implies, false_implies, or_true, true_or, or_false, false_or, eq_self, ne_eq, not_false_eq_true, not_true_eq_false, if_true, if_false, List.mem_cons, List.not_mem_nil, List.length_cons, List.length_nil, Nat.reduceEqDiff, Nat.reduceAdd, Nat.reduceSub, Nat.reduceLeDiff, Nat.reduceLT, Int.reduceEq, Int.reduceLT, Int.reduceLE, Int.reduceNeg, Int.reduceAdd, Int.reduceSub, Int.reduceToNat, ↓reduceIte, one_ne_zero_, zero_ne_one_, px_in32L, cd_190]
    refine sp_partOf ⟨c0, c1⟩ (by decide) ?_
    simp only [px_go, px_Q0_at, px_sx_0, px_sx_s, px_cl, px_step, ↓px_ll, px_lg, f4_, ↓px_r1, ↓px_r2, ↓px_r4, ↓px_r5, ↓px_p1, ↓px_p2, ↓px_p3, ↓px_pop, px_k_0, px_k_s, px_k3_0, px_stk_, px_cats, px_ent, px_st1, px_st2, px_mask, ↓px_tsw, ↓px_lsw, ct_, mls_0, mls_1, mls_2, mls_3, mls_4, mls_5, kd_0, kd_1, kd_2, kd_3, ln_0, ln_1, ln_2, ln_3, gf_0, gf_1, gf_2, gf_3, gf_4, gf_7, gf_21, gf_63, dy_0, dy_1, dy_2, dy_3, dy_7, dy_21, px_brT, px_brF, true_and, and_true, and_false, false_and, and_self, true_implies, false_implies, or_true, true_or, or_false, false_or, eq_self, ne_eq, not_false_eq_true, not_true_eq_false, if_true, if_false, List.mem_cons, List.not_mem_nil, List.length_cons, List.length_nil, Nat.reduceEqDiff, Nat.reduceAdd, Nat.reduceSub, Nat.reduceLeDiff, Nat.reduceLT, Int.reduceEq, Int.reduceLT, Int.reduceLE, Int.reduceNeg, Int.reduceAdd, Int.reduceSub, Int.reduceToNat, ↓reduceIte, one_ne_zero_, zero_ne_one_, px_in32L, cd_190]
    refine px_br_intro (fun _ => ?_) (fun q => absurd e q)
    rw [show n = r by omega]; exact h
  | succ m ih =>
    intro n c c0 c1 d0 d1 n0 hr hr2
    have hc := hw c c0 c1 d0
    unfold cok at hc
    refine px_go_ok (inl := []) 60 ?_
    simp only [px_go, px_Q0_at, px_sx_0, px_sx_s, px_cl, px_step, ↓px_ll, px_lg, f4_, ↓px_r1, ↓px_r2, ↓px_r4, ↓px_r5, ↓px_p1, ↓px_p2, ↓px_p3, ↓px_pop, px_k_0, px_k_s, px_k3_0, px_stk_, px_cats, px_ent, px_st1, px_st2, px_mask, ↓px_tsw, ↓px_lsw, ct_, mls_0, mls_1, mls_2, mls_3, mls_4, mls_5, kd_0, kd_1, kd_2, kd_3, ln_0, ln_1, ln_2, ln_3, gf_0, gf_1, gf_2, gf_3, gf_4, gf_7, gf_21, gf_63, dy_0, dy_1, dy_2, dy_3, dy_7, dy_21, px_brT, px_brF, true_and, and_true, and_false, false_and, and_self, true_implies, false_implies, or_true, true_or, or_false, false_or, eq_self, ne_eq, not_false_eq_true, not_true_eq_false, if_true, if_false, List.mem_cons, List.not_mem_nil, List.length_cons, List.length_nil, Nat.reduceEqDiff, Nat.reduceAdd, Nat.reduceSub, Nat.reduceLeDiff, Nat.reduceLT, Int.reduceEq, Int.reduceLT, Int.reduceLE, Int.reduceNeg, Int.reduceAdd, Int.reduceSub, Int.reduceToNat, ↓reduceIte, one_ne_zero_, zero_ne_one_, px_in32L, cd_190]
    refine sp_partOf ⟨c0, c1⟩ (by decide) ?_
    simp only [px_go, px_Q0_at, px_sx_0, px_sx_s, px_cl, px_step, ↓px_ll, px_lg, f4_, ↓px_r1, ↓px_r2, ↓px_r4, ↓px_r5, ↓px_p1, ↓px_p2, ↓px_p3, ↓px_pop, px_k_0, px_k_s, px_k3_0, px_stk_, px_cats, px_ent, px_st1, px_st2, px_mask, ↓px_tsw, ↓px_lsw, ct_, mls_0, mls_1, mls_2, mls_3, mls_4, mls_5, kd_0, kd_1, kd_2, kd_3, ln_0, ln_1, ln_2, ln_3, gf_0, gf_1, gf_2, gf_3, gf_4, gf_7, gf_21, gf_63, dy_0, dy_1, dy_2, dy_3, dy_7, dy_21, px_brT, px_brF, true_and, and_true, and_false, false_and, and_self, true_implies, false_implies, or_true, true_or, or_false, false_or, eq_self, ne_eq, not_false_eq_true, not_true_eq_false, if_true, if_false, List.mem_cons, List.not_mem_nil, List.length_cons, List.length_nil, Nat.reduceEqDiff, Nat.reduceAdd, Nat.reduceSub, Nat.reduceLeDiff, Nat.reduceLT, Int.reduceEq, Int.reduceLT, Int.reduceLE, Int.reduceNeg, Int.reduceAdd, Int.reduceSub, Int.reduceToNat, ↓reduceIte, one_ne_zero_, zero_ne_one_, px_in32L, cd_190]
    repeat' (first | (with_reducible apply And.intro) | (with_reducible refine px_br_intro (fun _ => ?_) (fun _ => ?_)))
    all_goals (try (first | (unfold px_in32; omega) | omega))
    · rename_i q
      rw [show n = r by omega]; exact h
    · rename_i q
      refine sp_partOf ⟨c0, c1⟩ (by decide) ?_
      simp only [px_go, px_Q0_at, px_sx_0, px_sx_s, px_cl, px_step, ↓px_ll, px_lg, f4_, ↓px_r1, ↓px_r2, ↓px_r4, ↓px_r5, ↓px_p1, ↓px_p2, ↓px_p3, ↓px_pop, px_k_0, px_k_s, px_k3_0, px_stk_, px_cats, px_ent, px_st1, px_st2, px_mask, ↓px_tsw, ↓px_lsw, ct_, mls_0, mls_1, mls_2, mls_3, mls_4, mls_5, kd_0, kd_1, kd_2, kd_3, ln_0, ln_1, ln_2, ln_3, gf_0, gf_1, gf_2, gf_3, gf_4, gf_7, gf_21, gf_63, dy_0, dy_1, dy_2, dy_3, dy_7, dy_21, px_brT, px_brF, true_and, and_true, and_false, false_and, and_self, true_implies, false_implies, or_true, true_or, or_false, false_or, eq_self, ne_eq, not_false_eq_true, not_true_eq_false, if_true, if_false, List.mem_cons, List.not_mem_nil, List.length_cons, List.length_nil, Nat.reduceEqDiff, Nat.reduceAdd, Nat.reduceSub, Nat.reduceLeDiff, Nat.reduceLT, Int.reduceEq, Int.reduceLT, Int.reduceLE, Int.reduceNeg, Int.reduceAdd, Int.reduceSub, Int.reduceToNat, ↓reduceIte, one_ne_zero_, zero_ne_one_, px_in32L, cd_190]
      exact ih _ _ (by omega) (by omega) (by omega) (by omega) (by omega) (by omega) hr2
set_option maxHeartbeats 600000 in
set_option maxRecDepth 100000 in
theorem sp_depthOf {dd : Int → Int} (hw : cw (rC (M 128)) dd) {c : Int} (hc : 0 ≤ c ∧ c < 40 ∧ 0 ≤ dd c) (h : Q (some (0, dd c)) M) : px_Ok 190 [(2, 127), (0, c)] LAY M Q := by
  refine px_ok_go (inl := []) (ls0 := [(2, 127), (0, c), (9, 0), (9, 0)]) 60 (by decide) (Nat.le_of_ble_eq_true rfl) rfl ?_
  simp only [px_go, px_Q0_at, px_sx_0, px_sx_s, px_cl, px_step, ↓px_ll, px_lg, f4_, ↓px_r1, ↓px_r2, ↓px_r4, ↓px_r5, ↓px_p1, ↓px_p2, ↓px_p3, ↓px_pop, px_k_0, px_k_s, px_k3_0, px_stk_, px_cats, px_ent, px_st1, px_st2, px_mask, ↓px_tsw, ↓px_lsw, ct_, mls_0, mls_1, mls_2, mls_3, mls_4, mls_5, kd_0, kd_1, kd_2, kd_3, ln_0, ln_1, ln_2, ln_3, gf_0, gf_1, gf_2, gf_3, gf_4, gf_7, gf_21, gf_63, dy_0, dy_1, dy_2, dy_3, dy_7, dy_21, px_brT, px_brF, true_and, and_true, and_false, false_and, and_self, true_implies, false_implies, or_true, true_or, or_false, false_or, eq_self, ne_eq, not_false_eq_true, not_true_eq_false, if_true, if_false, List.mem_cons, List.not_mem_nil, List.length_cons, List.length_nil, Nat.reduceEqDiff, Nat.reduceAdd, Nat.reduceSub, Nat.reduceLeDiff, Nat.reduceLT, Int.reduceEq, Int.reduceLT, Int.reduceLE, Int.reduceNeg, Int.reduceAdd, Int.reduceSub, Int.reduceToNat, ↓reduceIte, one_ne_zero_, zero_ne_one_, px_in32L, cd_190]
  repeat' (first | (with_reducible apply And.intro) | (with_reducible refine px_br_intro (fun _ => ?_) (fun _ => ?_)))
  all_goals (try (first | (unfold px_in32; omega) | omega))
  have h3 := (hw c hc.1 hc.2.1 hc.2.2).1
  exact lp_depthOf hw h (dd c).toNat 0 c hc.1 hc.2.1 hc.2.2 (by omega) (Int.le_refl 0) (by omega) h3
set_option maxHeartbeats 600000 in
set_option maxRecDepth 100000 in
theorem lp_rises {M0 : px_mem} (h : ∀ M', (∀ x, M' 135 x = if 0 ≤ x ∧ x < 40 then M0 134 x else M0 135 x) → (∀ b, b ≠ 135 → M' b = M0 b) → Q none M') (k : Int) (hk_k : k ≤ 40) : ∀ (M : px_mem), 0 ≤ k → (∀ x, M 135 x = if 0 ≤ x ∧ x < k then M0 134 x else M0 135 x) → (∀ b, b ≠ 135 → M b = M0 b) → px_WP 191 0 0 (px_Q0 LAY Q) 2 [(2, 127), (0, k)] [] LAY M 0 0 := by
  refine up_ind (P := fun k => ∀ (M : px_mem), 0 ≤ k → (∀ x, M 135 x = if 0 ≤ x ∧ x < k then M0 134 x else M0 135 x) → (∀ b, b ≠ 135 → M b = M0 b) → px_WP 191 0 0 (px_Q0 LAY Q) 2 [(2, 127), (0, k)] [] LAY M 0 0) (40) (fun k hk_k ih => ?_) k hk_k
  intro M k0 ht hf
  have h134 := hf 134 (by decide)
  refine px_go_ok (inl := []) 60 ?_
  simp only [px_go, px_Q0_at, px_sx_0, px_sx_s, px_cl, px_step, ↓px_ll, px_lg, f4_, ↓px_r1, ↓px_r2, ↓px_r4, ↓px_r5, ↓px_p1, ↓px_p2, ↓px_p3, ↓px_pop, px_k_0, px_k_s, px_k3_0, px_stk_, px_cats, px_ent, px_st1, px_st2, px_mask, ↓px_tsw, ↓px_lsw, ct_, mls_0, mls_1, mls_2, mls_3, mls_4, mls_5, kd_0, kd_1, kd_2, kd_3, ln_0, ln_1, ln_2, ln_3, gf_0, gf_1, gf_2, gf_3, gf_4, gf_7, gf_21, gf_63, dy_0, dy_1, dy_2, dy_3, dy_7, dy_21, px_brT, px_brF, true_and, and_true, and_false, false_and, and_self, true_implies, false_implies, or_true, true_or, or_false, false_or, eq_self, ne_eq, not_false_eq_true, not_true_eq_false, if_true, if_false, List.mem_cons, List.not_mem_nil, List.length_cons, List.length_nil, Nat.reduceEqDiff, Nat.reduceAdd, Nat.reduceSub, Nat.reduceLeDiff, Nat.reduceLT, Int.reduceEq, Int.reduceLT, Int.reduceLE, Int.reduceNeg, Int.reduceAdd, Int.reduceSub, Int.reduceToNat, ↓reduceIte, one_ne_zero_, zero_ne_one_, px_in32L, cd_191]
  repeat' (first | (with_reducible apply And.intro) | (with_reducible refine px_br_intro (fun _ => ?_) (fun _ => ?_)))
  all_goals (try (first | (unfold px_in32; omega) | omega))
  · have e : k = 40 := by omega
    subst e
    exact h M ht hf
  · refine ih (by omega) _ (by omega) (fun x => ?_) (fun b b0 => by rw [row_ne b0]; exact hf b b0)
    rw [px_up_at, ht x, h134]
    by_cases q : x = k
    · rw [if_pos ⟨rfl, q⟩, if_pos (by omega), q]
    · rw [if_neg (fun z => q z.2)]
      by_cases r : 0 ≤ x ∧ x < k
      · rw [if_pos r, if_pos (by omega)]
      · rw [if_neg r, if_neg (by omega)]
set_option maxHeartbeats 600000 in
set_option maxRecDepth 100000 in
theorem sp_rises (h : ∀ M', (∀ x, M' 135 x = if 0 ≤ x ∧ x < 40 then M 134 x else M 135 x) → (∀ b, b ≠ 135 → M' b = M b) → Q none M') : px_Ok 191 [(2, 127)] LAY M Q := by
  refine px_ok_go (inl := []) (ls0 := [(2, 127), (9, 0)]) 60 (by decide) (Nat.le_of_ble_eq_true rfl) rfl ?_
  simp only [px_go, px_Q0_at, px_sx_0, px_sx_s, px_cl, px_step, ↓px_ll, px_lg, f4_, ↓px_r1, ↓px_r2, ↓px_r4, ↓px_r5, ↓px_p1, ↓px_p2, ↓px_p3, ↓px_pop, px_k_0, px_k_s, px_k3_0, px_stk_, px_cats, px_ent, px_st1, px_st2, px_mask, ↓px_tsw, ↓px_lsw, ct_, mls_0, mls_1, mls_2, mls_3, mls_4, mls_5, kd_0, kd_1, kd_2, kd_3, ln_0, ln_1, ln_2, ln_3, gf_0, gf_1, gf_2, gf_3, gf_4, gf_7, gf_21, gf_63, dy_0, dy_1, dy_2, dy_3, dy_7, dy_21, px_brT, px_brF, true_and, and_true, and_false, false_and, and_self, true_implies, false_implies, or_true, true_or, or_false, false_or, eq_self, ne_eq, not_false_eq_true, not_true_eq_false, if_true, if_false, List.mem_cons, List.not_mem_nil, List.length_cons, List.length_nil, Nat.reduceEqDiff, Nat.reduceAdd, Nat.reduceSub, Nat.reduceLeDiff, Nat.reduceLT, Int.reduceEq, Int.reduceLT, Int.reduceLE, Int.reduceNeg, Int.reduceAdd, Int.reduceSub, Int.reduceToNat, ↓reduceIte, one_ne_zero_, zero_ne_one_, px_in32L, cd_191]
  repeat' (first | (with_reducible apply And.intro) | (with_reducible refine px_br_intro (fun _ => ?_) (fun _ => ?_)))
  all_goals (try (first | (unfold px_in32; omega) | omega))
  exact lp_rises (M0 := M) h 0 (by decide) M (Int.le_refl 0) (fun x => by rw [if_neg (by omega)]) (fun _ _ => rfl)
end PT
