set_option maxRecDepth 100000 in
/-- X12_mend -/
theorem cd_256 : px_at 256 0 = some (1, [], .iload_n 2, []) ∧ px_at 256 1 = some (2, [], .iconst 0, []) ∧ px_at 256 2 = some (4, [], .bipush 40, []) ∧ px_at 256 4 = some (7, [], .invokestatic 92, [170, 3, 11, 223]) ∧ px_at 256 7 = some (10, [], .ifCond .eq 11, [18]) ∧ px_at 256 10 = some (11, [], .iload_n 2, []) ∧ px_at 256 11 = some (12, [], .aload_n 0, []) ∧ px_at 256 12 = some (15, [], .getfield 84, [11, 3, 0, 0, 128]) ∧ px_at 256 15 = some (18, [], .if_icmp .le 5, [20]) ∧ px_at 256 18 = some (19, [], .iconst (-1), []) ∧ px_at 256 19 = some (20, [], .ireturn, [0]) ∧ px_at 256 20 = some (21, [], .aload_n 0, []) ∧ px_at 256 21 = some (22, [], .iconst 0, []) ∧ px_at 256 22 = some (23, [], .iload_n 2, []) ∧ px_at 256 23 = some (26, [], .invokevirtual 214, [220, 2, 11, 225]) ∧ px_at 256 26 = some (27, [], .aload_n 0, []) ∧ px_at 256 27 = some (28, [], .iconst 0, []) ∧ px_at 256 28 = some (31, [], .putfield 84, [11, 3, 0, 0, 128]) ∧ px_at 256 31 = some (32, [], .aload_n 0, []) ∧ px_at 256 32 = some (33, [], .iload_n 1, []) ∧ px_at 256 33 = some (36, [], .invokevirtual 328, [189, 1, 11, 300]) ∧ px_at 256 36 = some (39, [], .ifCond .eq 11, [47]) ∧ px_at 256 39 = some (40, [], .aload_n 0, []) ∧ px_at 256 40 = some (41, [], .iload_n 1, []) ∧ px_at 256 41 = some (44, [], .invokevirtual 331, [255, 1, 11, 301]) ∧ px_at 256 44 = some (47, [], .goto 5, [49]) ∧ px_at 256 47 = some (49, [], .bipush (-2), []) ∧ px_at 256 49 = some (50, [], .ireturn, [0]) := ⟨rfl, rfl, rfl, rfl, rfl, rfl, rfl, rfl, rfl, rfl, rfl, rfl, rfl, rfl, rfl, rfl, rfl, rfl, rfl, rfl, rfl, rfl, rfl, rfl, rfl, rfl, rfl, rfl⟩
set_option maxRecDepth 100000 in
/-- X12_cures -/
theorem cd_257 : px_at 257 0 = some (1, [], .aload_n 0, []) ∧ px_at 257 1 = some (2, [], .iload_n 1, []) ∧ px_at 257 2 = some (5, [], .invokevirtual 141, [194, 1, 11, 257]) ∧ px_at 257 5 = some (8, [], .ifCond .eq 5, [10]) ∧ px_at 257 8 = some (9, [], .iconst 0, []) ∧ px_at 257 9 = some (10, [], .ireturn, [4]) ∧ px_at 257 10 = some (11, [], .iconst 0, []) ∧ px_at 257 11 = some (12, [], .istore_n 2, []) ∧ px_at 257 12 = some (13, [1, 1, 1], .iload_n 2, []) ∧ px_at 257 13 = some (14, [], .aload_n 0, []) ∧ px_at 257 14 = some (17, [], .getfield 7, [11, 0, 2, 1, 125]) ∧ px_at 257 17 = some (18, [], .iconst 0, []) ∧ px_at 257 18 = some (19, [], .iaload, []) ∧ px_at 257 19 = some (22, [], .if_icmp .ge 25, [44]) ∧ px_at 257 22 = some (23, [], .aload_n 0, []) ∧ px_at 257 23 = some (24, [], .iload_n 2, []) ∧ px_at 257 24 = some (27, [], .invokevirtual 264, [221, 1, 11, 255]) ∧ px_at 257 27 = some (28, [], .aload_n 0, []) ∧ px_at 257 28 = some (29, [], .iload_n 1, []) ∧ px_at 257 29 = some (32, [], .invokevirtual 331, [255, 1, 11, 301]) ∧ px_at 257 32 = some (33, [], .iconst 1, []) ∧ px_at 257 33 = some (36, [], .if_icmp .ne 5, [38]) ∧ px_at 257 36 = some (37, [], .iconst 1, []) ∧ px_at 257 37 = some (38, [], .ireturn, [4]) ∧ px_at 257 38 = some (41, [], .iinc 2 1, []) ∧ px_at 257 41 = some (44, [], .goto (-29), [12]) ∧ px_at 257 44 = some (45, [], .iconst 0, []) ∧ px_at 257 45 = some (46, [], .ireturn, [4]) := ⟨rfl, rfl, rfl, rfl, rfl, rfl, rfl, rfl, rfl, rfl, rfl, rfl, rfl, rfl, rfl, rfl, rfl, rfl, rfl, rfl, rfl, rfl, rfl, rfl, rfl, rfl, rfl, rfl⟩
set_option maxRecDepth 100000 in
/-- X12_cure -/
theorem cd_258 : px_at 258 0 = some (1, [], .iconst 0, []) ∧ px_at 258 1 = some (2, [], .istore_n 1, []) ∧ px_at 258 2 = some (3, [], .iconst 1, []) ∧ px_at 258 3 = some (4, [], .istore_n 2, []) ∧ px_at 258 4 = some (5, [1, 1, 1, 0], .iload_n 2, []) ∧ px_at 258 5 = some (8, [], .ifCond .eq 48, [53]) ∧ px_at 258 8 = some (9, [], .iconst 0, []) ∧ px_at 258 9 = some (10, [], .istore_n 2, []) ∧ px_at 258 10 = some (11, [], .iconst 0, []) ∧ px_at 258 11 = some (12, [], .istore_n 3, []) ∧ px_at 258 12 = some (13, [1, 1, 1, 1], .iload_n 3, []) ∧ px_at 258 13 = some (15, [], .bipush 40, []) ∧ px_at 258 15 = some (18, [], .if_icmp .ge 35, [50]) ∧ px_at 258 18 = some (19, [], .aload_n 0, []) ∧ px_at 258 19 = some (20, [], .iload_n 3, []) ∧ px_at 258 20 = some (21, [], .iconst 0, []) ∧ px_at 258 21 = some (24, [], .invokevirtual 109, [187, 2, 11, 259]) ∧ px_at 258 24 = some (27, [], .ifCond .eq 20, [44]) ∧ px_at 258 27 = some (28, [], .aload_n 0, []) ∧ px_at 258 28 = some (29, [], .iload_n 3, []) ∧ px_at 258 29 = some (32, [], .invokevirtual 334, [257, 1, 11, 303]) ∧ px_at 258 32 = some (35, [], .ifCond .ne 6, [38]) ∧ px_at 258 35 = some (38, [], .goto 9, [44]) ∧ px_at 258 38 = some (39, [], .iload_n 1, []) ∧ px_at 258 39 = some (40, [], .iconst 1, []) ∧ px_at 258 40 = some (41, [], .iadd, []) ∧ px_at 258 41 = some (42, [], .istore_n 1, []) ∧ px_at 258 42 = some (43, [], .iconst 1, []) ∧ px_at 258 43 = some (44, [], .istore_n 2, []) ∧ px_at 258 44 = some (47, [], .iinc 3 1, []) ∧ px_at 258 47 = some (50, [], .goto (-35), [12]) ∧ px_at 258 50 = some (53, [], .goto (-46), [4]) ∧ px_at 258 53 = some (54, [], .iload_n 1, []) ∧ px_at 258 54 = some (55, [], .ireturn, [0]) := ⟨rfl, rfl, rfl, rfl, rfl, rfl, rfl, rfl, rfl, rfl, rfl, rfl, rfl, rfl, rfl, rfl, rfl, rfl, rfl, rfl, rfl, rfl, rfl, rfl, rfl, rfl, rfl, rfl, rfl, rfl, rfl, rfl, rfl, rfl⟩
/-! the reference: mend, cure -/
theorem crtr_chain {N : Int} {g : Int → fe} {M : px_mem} : ∀ (k : Nat) (M' : px_mem) (n : Int), crtr N g M k M' n → ∃ (Ms : Nat → px_mem) (ns : Nat → Int), Ms 0 = M ∧ ns 0 = 0 ∧ Ms k = M' ∧ ns k = n ∧ ∀ i : Nat, i < k → ∃ d, crst N g (Ms i) (Ms (i + 1)) (i : Int) d ∧ ns (i + 1) = ns i + d := by
  intro k
  induction k with
  | zero =>
    intro M' n h
    exact ⟨fun _ => M, fun _ => 0, rfl, rfl, h.1.symm, h.2.symm, fun i hi => absurd hi (Nat.not_lt_zero i)⟩
  | succ k ih =>
    intro M' n h
    obtain ⟨M1, n1, d, h1, h2, h3⟩ := h
    obtain ⟨Ms, ns, m0, r0, m1, r1, hh⟩ := ih M1 n1 h1
    refine ⟨fun i => if i = k + 1 then M' else Ms i, fun i => if i = k + 1 then n else ns i, ?_, ?_, if_pos rfl, if_pos rfl, fun i hi => ?_⟩
    · show (if 0 = k + 1 then M' else Ms 0) = M
      rw [if_neg (by omega)]; exact m0
    · show (if 0 = k + 1 then n else ns 0) = 0
      rw [if_neg (by omega)]; exact r0
    · show ∃ d, crst N g (if i = k + 1 then M' else Ms i) (if i + 1 = k + 1 then M' else Ms (i + 1)) (i : Int) d ∧ (if i + 1 = k + 1 then n else ns (i + 1)) = (if i = k + 1 then n else ns i) + d
      have ne : ¬ i = k + 1 := by omega
      simp only [if_neg ne]
      by_cases e : i = k
      · have e2 : i + 1 = k + 1 := by omega
        simp only [if_pos e2]
        rw [e, m1, r1]; exact ⟨d, h2, h3⟩
      · have e2 : ¬ i + 1 = k + 1 := by omega
        simp only [if_neg e2]
        exact hh i (by omega)
section PS
variable {M : px_mem} {Q : Option pv → px_mem → Prop}
set_option maxHeartbeats 600000 in
set_option maxRecDepth 100000 in
theorem sp_rmend {Mc : px_mem} {c n : Int} (hT : tieC Mc (M 128)) (ht : 0 ≤ M 127 3 ∧ M 127 3 ≤ 160) (h0 : ¬ (0 ≤ n ∧ n ≤ 40 ∧ n ≤ M 127 3) → Q (some (0, -1)) M) (h2 : ∀ M', (0 ≤ n ∧ n ≤ 40 ∧ n ≤ M 127 3) → ¬ (0 ≤ c ∧ c < 40 ∧ 0 ≤ Mc 62 c) → M' 128 = M 128 → out0 M' M → Q (some (0, -2)) M') (h1 : ∀ M', (0 ≤ n ∧ n ≤ 40 ∧ n ≤ M 127 3) → (0 ≤ c ∧ c < 40 ∧ 0 ≤ Mc 62 c) → mdOk Mc c (tw (M 130) 0 n) → (∀ Mc', mdW Mc Mc' c (tw (M 130) 0 n) → tieC Mc' (M' 128)) → (∀ x, ¬ (894 ≤ x ∧ x < 1294) → M' 128 x = M 128 x) → out0 M' M → Q (some (0, 1)) M') (h3 : ∀ M' r, (0 ≤ n ∧ n ≤ 40 ∧ n ≤ M 127 3) → (0 ≤ c ∧ c < 40 ∧ 0 ≤ Mc 62 c) → ¬ mdOk Mc c (tw (M 130) 0 n) → (r = if ((tw (M 130) 0 n).length : Int) = Mc 57 c ∧ mkl (tw (M 130) 0 n) = Mc 58 c then -4 else -3) → M' 128 = M 128 → out0 M' M → Q (some (0, r)) M') : px_Ok 256 [(2, 127), (0, c), (0, n)] LAY M Q := by
  refine px_ok_go (inl := [170]) (ls0 := [(2, 127), (0, c), (0, n)]) 60 (by decide) (Nat.le_of_ble_eq_true rfl) rfl ?_
  simp only [px_go, px_Q0_at, px_sx_0, px_sx_s, px_cl, px_step, ↓px_ll, px_lg, f4_, ↓px_r1, ↓px_r2, ↓px_r4, ↓px_r5, ↓px_p1, ↓px_p2, ↓px_p3, ↓px_pop, px_k_0, px_k_s, px_k3_0, px_stk_, px_cats, px_ent, px_st1, px_st2, px_mask, ↓px_tsw, ↓px_lsw, ct_, mls_0, mls_1, mls_2, mls_3, mls_4, mls_5, kd_0, kd_1, kd_2, kd_3, ln_0, ln_1, ln_2, ln_3, gf_0, gf_1, gf_2, gf_3, gf_4, gf_7, gf_21, gf_63, dy_0, dy_1, dy_2, dy_3, dy_7, dy_21, px_brT, px_brF, true_and, and_true, and_false, false_and, and_self, true_implies, false_implies, or_true, true_or, or_false, false_or, eq_self, ne_eq, not_false_eq_true, not_true_eq_false, if_true, if_false, List.mem_cons, List.not_mem_nil, List.length_cons, List.length_nil, Nat.reduceEqDiff, Nat.reduceAdd, Nat.reduceSub, Nat.reduceLeDiff, Nat.reduceLT, Int.reduceEq, Int.reduceLT, Int.reduceLE, Int.reduceNeg, Int.reduceAdd, Int.reduceSub, Int.reduceToNat, ↓reduceIte, one_ne_zero_, zero_ne_one_, px_in32L, cd_256, cd_170]
  repeat' (first | (with_reducible apply And.intro) | (with_reducible refine px_br_intro (fun _ => ?_) (fun _ => ?_)))
  all_goals (try (first | (unfold px_in32; omega) | omega))
  · exact h0 (by omega)
  · exact h0 (by omega)
  · have hq : 0 ≤ n ∧ n ≤ 40 ∧ n ≤ M 127 3 := by omega
    have hl : ((tw (M 130) 0 n).length : Int) = n := tw_len hq.1
    refine sp_laysDue (by omega) (by omega) (fun M1 a1 a2 a3 a4 => ?_)
    simp only [px_go, px_Q0_at, px_sx_0, px_sx_s, px_cl, px_step, ↓px_ll, px_lg, f4_, ↓px_r1, ↓px_r2, ↓px_r4, ↓px_r5, ↓px_p1, ↓px_p2, ↓px_p3, ↓px_pop, px_k_0, px_k_s, px_k3_0, px_stk_, px_cats, px_ent, px_st1, px_st2, px_mask, ↓px_tsw, ↓px_lsw, ct_, mls_0, mls_1, mls_2, mls_3, mls_4, mls_5, kd_0, kd_1, kd_2, kd_3, ln_0, ln_1, ln_2, ln_3, gf_0, gf_1, gf_2, gf_3, gf_4, gf_7, gf_21, gf_63, dy_0, dy_1, dy_2, dy_3, dy_7, dy_21, px_brT, px_brF, true_and, and_true, and_false, false_and, and_self, true_implies, false_implies, or_true, true_or, or_false, false_or, eq_self, ne_eq, not_false_eq_true, not_true_eq_false, if_true, if_false, List.mem_cons, List.not_mem_nil, List.length_cons, List.length_nil, Nat.reduceEqDiff, Nat.reduceAdd, Nat.reduceSub, Nat.reduceLeDiff, Nat.reduceLT, Int.reduceEq, Int.reduceLT, Int.reduceLE, Int.reduceNeg, Int.reduceAdd, Int.reduceSub, Int.reduceToNat, ↓reduceIte, one_ne_zero_, zero_ne_one_, px_in32L, cd_256, cd_170]
    have e128 : px_up M1 127 3 0 128 = M 128 := by rw [row_ne (by decide), a4 128 (by decide) (by decide)]
    have o1 : out0 (px_up M1 127 3 0) M := ⟨fun b b0 => by rw [row_ne (by omega), a4 b (by omega) (by omega)], by rw [row_ne (by decide), a4 130 (by decide) (by decide)], by rw [px_up_at, if_pos ⟨rfl, rfl⟩]⟩
    have hd : due (px_up M1 127 3 0) (tw (M 130) 0 n) := ⟨by rw [px_up_at, if_neg (by decide), hl]; exact a1, by rw [row_ne (by decide), hl]; exact a2⟩
    refine sp_isContent (fun w => ?_) (fun w => ?_)
    · rw [e128] at w
      have hc : 0 ≤ c ∧ c < 40 ∧ 0 ≤ Mc 62 c := by have := hT.2.1 c w.1 w.2.1; omega
      simp only [px_go, px_Q0_at, px_sx_0, px_sx_s, px_cl, px_step, ↓px_ll, px_lg, f4_, ↓px_r1, ↓px_r2, ↓px_r4, ↓px_r5, ↓px_p1, ↓px_p2, ↓px_p3, ↓px_pop, px_k_0, px_k_s, px_k3_0, px_stk_, px_cats, px_ent, px_st1, px_st2, px_mask, ↓px_tsw, ↓px_lsw, ct_, mls_0, mls_1, mls_2, mls_3, mls_4, mls_5, kd_0, kd_1, kd_2, kd_3, ln_0, ln_1, ln_2, ln_3, gf_0, gf_1, gf_2, gf_3, gf_4, gf_7, gf_21, gf_63, dy_0, dy_1, dy_2, dy_3, dy_7, dy_21, px_brT, px_brF, true_and, and_true, and_false, false_and, and_self, true_implies, false_implies, or_true, true_or, or_false, false_or, eq_self, ne_eq, not_false_eq_true, not_true_eq_false, if_true, if_false, List.mem_cons, List.not_mem_nil, List.length_cons, List.length_nil, Nat.reduceEqDiff, Nat.reduceAdd, Nat.reduceSub, Nat.reduceLeDiff, Nat.reduceLT, Int.reduceEq, Int.reduceLT, Int.reduceLE, Int.reduceNeg, Int.reduceAdd, Int.reduceSub, Int.reduceToNat, ↓reduceIte, one_ne_zero_, zero_ne_one_, px_in32L, cd_256, cd_170]
      refine sp_mends (Mc := Mc) (D := tw (M 130) 0 n) (by rw [e128]; exact hT) hc hd ⟨by omega, tw_rng⟩ (fun M2 b1' b2 b3 b4 => ?_) (fun M2 r b1' b2 b3 b4 => ?_)
      · simp only [px_go, px_Q0_at, px_sx_0, px_sx_s, px_cl, px_step, ↓px_ll, px_lg, f4_, ↓px_r1, ↓px_r2, ↓px_r4, ↓px_r5, ↓px_p1, ↓px_p2, ↓px_p3, ↓px_pop, px_k_0, px_k_s, px_k3_0, px_stk_, px_cats, px_ent, px_st1, px_st2, px_mask, ↓px_tsw, ↓px_lsw, ct_, mls_0, mls_1, mls_2, mls_3, mls_4, mls_5, kd_0, kd_1, kd_2, kd_3, ln_0, ln_1, ln_2, ln_3, gf_0, gf_1, gf_2, gf_3, gf_4, gf_7, gf_21, gf_63, dy_0, dy_1, dy_2, dy_3, dy_7, dy_21, px_brT, px_brF, true_and, and_true, and_false, false_and, and_self, true_implies, false_implies, or_true, true_or, or_false, false_or, eq_self, ne_eq, not_false_eq_true, not_true_eq_false, if_true, if_false, List.mem_cons, List.not_mem_nil, List.length_cons, List.length_nil, Nat.reduceEqDiff, Nat.reduceAdd, Nat.reduceSub, Nat.reduceLeDiff, Nat.reduceLT, Int.reduceEq, Int.reduceLT, Int.reduceLE, Int.reduceNeg, Int.reduceAdd, Int.reduceSub, Int.reduceToNat, ↓reduceIte, one_ne_zero_, zero_ne_one_, px_in32L, cd_256, cd_170]
        exact h1 M2 hq hc b1' b2 (fun x x0 => by rw [b3 x x0, e128]) (out0_trans (frC_out b4) o1)
      · simp only [px_go, px_Q0_at, px_sx_0, px_sx_s, px_cl, px_step, ↓px_ll, px_lg, f4_, ↓px_r1, ↓px_r2, ↓px_r4, ↓px_r5, ↓px_p1, ↓px_p2, ↓px_p3, ↓px_pop, px_k_0, px_k_s, px_k3_0, px_stk_, px_cats, px_ent, px_st1, px_st2, px_mask, ↓px_tsw, ↓px_lsw, ct_, mls_0, mls_1, mls_2, mls_3, mls_4, mls_5, kd_0, kd_1, kd_2, kd_3, ln_0, ln_1, ln_2, ln_3, gf_0, gf_1, gf_2, gf_3, gf_4, gf_7, gf_21, gf_63, dy_0, dy_1, dy_2, dy_3, dy_7, dy_21, px_brT, px_brF, true_and, and_true, and_false, false_and, and_self, true_implies, false_implies, or_true, true_or, or_false, false_or, eq_self, ne_eq, not_false_eq_true, not_true_eq_false, if_true, if_false, List.mem_cons, List.not_mem_nil, List.length_cons, List.length_nil, Nat.reduceEqDiff, Nat.reduceAdd, Nat.reduceSub, Nat.reduceLeDiff, Nat.reduceLT, Int.reduceEq, Int.reduceLT, Int.reduceLE, Int.reduceNeg, Int.reduceAdd, Int.reduceSub, Int.reduceToNat, ↓reduceIte, one_ne_zero_, zero_ne_one_, px_in32L, cd_256, cd_170]
        exact h3 M2 r hq hc b1' b2 (by rw [b3, e128]) (out0_trans (frC_out b4) o1)
    · rw [e128] at w
      simp only [px_go, px_Q0_at, px_sx_0, px_sx_s, px_cl, px_step, ↓px_ll, px_lg, f4_, ↓px_r1, ↓px_r2, ↓px_r4, ↓px_r5, ↓px_p1, ↓px_p2, ↓px_p3, ↓px_pop, px_k_0, px_k_s, px_k3_0, px_stk_, px_cats, px_ent, px_st1, px_st2, px_mask, ↓px_tsw, ↓px_lsw, ct_, mls_0, mls_1, mls_2, mls_3, mls_4, mls_5, kd_0, kd_1, kd_2, kd_3, ln_0, ln_1, ln_2, ln_3, gf_0, gf_1, gf_2, gf_3, gf_4, gf_7, gf_21, gf_63, dy_0, dy_1, dy_2, dy_3, dy_7, dy_21, px_brT, px_brF, true_and, and_true, and_false, false_and, and_self, true_implies, false_implies, or_true, true_or, or_false, false_or, eq_self, ne_eq, not_false_eq_true, not_true_eq_false, if_true, if_false, List.mem_cons, List.not_mem_nil, List.length_cons, List.length_nil, Nat.reduceEqDiff, Nat.reduceAdd, Nat.reduceSub, Nat.reduceLeDiff, Nat.reduceLT, Int.reduceEq, Int.reduceLT, Int.reduceLE, Int.reduceNeg, Int.reduceAdd, Int.reduceSub, Int.reduceToNat, ↓reduceIte, one_ne_zero_, zero_ne_one_, px_in32L, cd_256, cd_170]
      exact h2 _ hq (fun z => w ⟨z.1, z.2.1, by have := hT.2.1 c z.1 z.2.1; omega⟩) e128 o1
  · exact h0 (by omega)
set_option maxHeartbeats 600000 in
set_option maxRecDepth 100000 in
theorem lp_cures {M0 Mc : px_mem} {c N : Int} {g : Int → fe} (hT : tieC Mc (M0 128)) (hst : sR (M0 128) N g) (hc : 0 ≤ c ∧ c < 40 ∧ 0 ≤ Mc 62 c) (h1 : ∀ M' i, 0 ≤ i → i < N → mdOk Mc c (g i).2 → (∀ j, 0 ≤ j → j < i → ¬ mdOk Mc c (g j).2) → (∀ Mc', mdW Mc Mc' c (g i).2 → tieC Mc' (M' 128)) → (∀ x, ¬ (894 ≤ x ∧ x < 1294) → M' 128 x = M0 128 x) → frC M' M0 → Q (some (0, 1)) M') (h0 : ∀ M', (∀ j, 0 ≤ j → j < N → ¬ mdOk Mc c (g j).2) → M' 128 = M0 128 → frC M' M0 → Q (some (0, 0)) M') (i : Int) (hk_i : i ≤ N) : ∀ (M : px_mem), 0 ≤ i → (∀ j, 0 ≤ j → j < i → ¬ mdOk Mc c (g j).2) → frC M M0 → M 128 = M0 128 → px_WP 257 0 0 (px_Q0 LAY Q) 12 [(2, 127), (0, c), (0, i)] [] LAY M 0 0 := by
  refine up_ind (P := fun i => ∀ (M : px_mem), 0 ≤ i → (∀ j, 0 ≤ j → j < i → ¬ mdOk Mc c (g j).2) → frC M M0 → M 128 = M0 128 → px_WP 257 0 0 (px_Q0 LAY Q) 12 [(2, 127), (0, c), (0, i)] [] LAY M 0 0) (N) (fun i hk_i ih => ?_) i hk_i
  intro M i0 hj hfr he
  have hF0 : M 128 0 = N := by rw [he]; exact hst.1
  have hn3 := hst.2.2.1
  refine px_go_ok (inl := []) 60 ?_
  simp only [px_go, px_Q0_at, px_sx_0, px_sx_s, px_cl, px_step, ↓px_ll, px_lg, f4_, ↓px_r1, ↓px_r2, ↓px_r4, ↓px_r5, ↓px_p1, ↓px_p2, ↓px_p3, ↓px_pop, px_k_0, px_k_s, px_k3_0, px_stk_, px_cats, px_ent, px_st1, px_st2, px_mask, ↓px_tsw, ↓px_lsw, ct_, mls_0, mls_1, mls_2, mls_3, mls_4, mls_5, kd_0, kd_1, kd_2, kd_3, ln_0, ln_1, ln_2, ln_3, gf_0, gf_1, gf_2, gf_3, gf_4, gf_7, gf_21, gf_63, dy_0, dy_1, dy_2, dy_3, dy_7, dy_21, px_brT, px_brF, true_and, and_true, and_false, false_and, and_self, true_implies, false_implies, or_true, true_or, or_false, false_or, eq_self, ne_eq, not_false_eq_true, not_true_eq_false, if_true, if_false, List.mem_cons, List.not_mem_nil, List.length_cons, List.length_nil, Nat.reduceEqDiff, Nat.reduceAdd, Nat.reduceSub, Nat.reduceLeDiff, Nat.reduceLT, Int.reduceEq, Int.reduceLT, Int.reduceLE, Int.reduceNeg, Int.reduceAdd, Int.reduceSub, Int.reduceToNat, ↓reduceIte, one_ne_zero_, zero_ne_one_, px_in32L, cd_257, hF0]
  repeat' (first | (with_reducible apply And.intro) | (with_reducible refine px_br_intro (fun _ => ?_) (fun _ => ?_)))
  all_goals (try (first | (unfold px_in32; omega) | omega))
  · rename_i c1
    exact h0 M (fun j j0 j1 => hj j j0 (by omega)) he hfr
  · rename_i c1
    have f := hst.2.2.2 i i0 (by omega)
    refine sp_laysDueOf ⟨i0, by omega⟩ (by rw [he]; exact f) (fun M1 a1 a2 => ?_)
    have e1 : M1 128 = M0 128 := by rw [frE_128 (frD_E a2), he]
    have fr1 : frC M1 M0 := frC_trans (frE_C (frD_E a2)) hfr
    simp only [px_go, px_Q0_at, px_sx_0, px_sx_s, px_cl, px_step, ↓px_ll, px_lg, f4_, ↓px_r1, ↓px_r2, ↓px_r4, ↓px_r5, ↓px_p1, ↓px_p2, ↓px_p3, ↓px_pop, px_k_0, px_k_s, px_k3_0, px_stk_, px_cats, px_ent, px_st1, px_st2, px_mask, ↓px_tsw, ↓px_lsw, ct_, mls_0, mls_1, mls_2, mls_3, mls_4, mls_5, kd_0, kd_1, kd_2, kd_3, ln_0, ln_1, ln_2, ln_3, gf_0, gf_1, gf_2, gf_3, gf_4, gf_7, gf_21, gf_63, dy_0, dy_1, dy_2, dy_3, dy_7, dy_21, px_brT, px_brF, true_and, and_true, and_false, false_and, and_self, true_implies, false_implies, or_true, true_or, or_false, false_or, eq_self, ne_eq, not_false_eq_true, not_true_eq_false, if_true, if_false, List.mem_cons, List.not_mem_nil, List.length_cons, List.length_nil, Nat.reduceEqDiff, Nat.reduceAdd, Nat.reduceSub, Nat.reduceLeDiff, Nat.reduceLT, Int.reduceEq, Int.reduceLT, Int.reduceLE, Int.reduceNeg, Int.reduceAdd, Int.reduceSub, Int.reduceToNat, ↓reduceIte, one_ne_zero_, zero_ne_one_, px_in32L, cd_257]
    refine sp_mends (Mc := Mc) (by rw [e1]; exact hT) hc a1 ⟨f.2.2.2.2.2.1, f.2.2.2.2.2.2.2⟩ (fun M2 b1' b2 b3 b4 => ?_) (fun M2 r b1' b2 b3 b4 => ?_)
    · simp only [px_go, px_Q0_at, px_sx_0, px_sx_s, px_cl, px_step, ↓px_ll, px_lg, f4_, ↓px_r1, ↓px_r2, ↓px_r4, ↓px_r5, ↓px_p1, ↓px_p2, ↓px_p3, ↓px_pop, px_k_0, px_k_s, px_k3_0, px_stk_, px_cats, px_ent, px_st1, px_st2, px_mask, ↓px_tsw, ↓px_lsw, ct_, mls_0, mls_1, mls_2, mls_3, mls_4, mls_5, kd_0, kd_1, kd_2, kd_3, ln_0, ln_1, ln_2, ln_3, gf_0, gf_1, gf_2, gf_3, gf_4, gf_7, gf_21, gf_63, dy_0, dy_1, dy_2, dy_3, dy_7, dy_21, px_brT, px_brF, true_and, and_true, and_false, false_and, and_self, true_implies, false_implies, or_true, true_or, or_false, false_or, eq_self, ne_eq, not_false_eq_true, not_true_eq_false, if_true, if_false, List.mem_cons, List.not_mem_nil, List.length_cons, List.length_nil, Nat.reduceEqDiff, Nat.reduceAdd, Nat.reduceSub, Nat.reduceLeDiff, Nat.reduceLT, Int.reduceEq, Int.reduceLT, Int.reduceLE, Int.reduceNeg, Int.reduceAdd, Int.reduceSub, Int.reduceToNat, ↓reduceIte, one_ne_zero_, zero_ne_one_, px_in32L, cd_257]
      exact h1 M2 i i0 (by omega) b1' hj b2 (fun x x0 => by rw [b3 x x0, e1]) (frC_trans b4 fr1)
    · simp only [px_go, px_Q0_at, px_sx_0, px_sx_s, px_cl, px_step, ↓px_ll, px_lg, f4_, ↓px_r1, ↓px_r2, ↓px_r4, ↓px_r5, ↓px_p1, ↓px_p2, ↓px_p3, ↓px_pop, px_k_0, px_k_s, px_k3_0, px_stk_, px_cats, px_ent, px_st1, px_st2, px_mask, ↓px_tsw, ↓px_lsw, ct_, mls_0, mls_1, mls_2, mls_3, mls_4, mls_5, kd_0, kd_1, kd_2, kd_3, ln_0, ln_1, ln_2, ln_3, gf_0, gf_1, gf_2, gf_3, gf_4, gf_7, gf_21, gf_63, dy_0, dy_1, dy_2, dy_3, dy_7, dy_21, px_brT, px_brF, true_and, and_true, and_false, false_and, and_self, true_implies, false_implies, or_true, true_or, or_false, false_or, eq_self, ne_eq, not_false_eq_true, not_true_eq_false, if_true, if_false, List.mem_cons, List.not_mem_nil, List.length_cons, List.length_nil, Nat.reduceEqDiff, Nat.reduceAdd, Nat.reduceSub, Nat.reduceLeDiff, Nat.reduceLT, Int.reduceEq, Int.reduceLT, Int.reduceLE, Int.reduceNeg, Int.reduceAdd, Int.reduceSub, Int.reduceToNat, ↓reduceIte, one_ne_zero_, zero_ne_one_, px_in32L, cd_257]
      have hr : ¬ r = 1 := by
        rw [b2]
        by_cases q : ((g i).2.length : Int) = Mc 57 c ∧ mkl (g i).2 = Mc 58 c
        · rw [if_pos q]; decide
        · rw [if_neg q]; decide
      refine px_br_intro (fun z => absurd z hr) (fun _ => ?_)
      repeat' (first | (with_reducible apply And.intro) | (with_reducible refine px_br_intro (fun _ => ?_) (fun _ => ?_)))
      all_goals (try (first | (unfold px_in32; omega) | omega))
      refine ih (by omega) M2 (by omega) (fun j j0 j1 => ?_) (frC_trans b4 fr1) (by rw [b3, e1])
      by_cases q : j = i
      · rw [q]; exact b1'
      · exact hj j j0 (by omega)
set_option maxHeartbeats 600000 in
set_option maxRecDepth 100000 in
theorem sp_cures {Mc : px_mem} {c N : Int} {g : Int → fe} (hT : tieC Mc (M 128)) (hst : sR (M 128) N g) (hc : 0 ≤ c ∧ c < 40 ∧ 0 ≤ Mc 62 c) (hW : ∀ M', Mc 105 c ≠ 0 → M' 128 = M 128 → frC M' M → Q (some (0, 0)) M') (h1 : ∀ M' i, Mc 105 c = 0 → 0 ≤ i → i < N → mdOk Mc c (g i).2 → (∀ j, 0 ≤ j → j < i → ¬ mdOk Mc c (g j).2) → (∀ Mc', mdW Mc Mc' c (g i).2 → tieC Mc' (M' 128)) → (∀ x, ¬ (894 ≤ x ∧ x < 1294) → M' 128 x = M 128 x) → frC M' M → Q (some (0, 1)) M') (h0 : ∀ M', Mc 105 c = 0 → (∀ j, 0 ≤ j → j < N → ¬ mdOk Mc c (g j).2) → M' 128 = M 128 → frC M' M → Q (some (0, 0)) M') : px_Ok 257 [(2, 127), (0, c)] LAY M Q := by
  refine px_ok_go (inl := []) (ls0 := [(2, 127), (0, c), (9, 0)]) 60 (by decide) (Nat.le_of_ble_eq_true rfl) rfl ?_
  simp only [px_go, px_Q0_at, px_sx_0, px_sx_s, px_cl, px_step, ↓px_ll, px_lg, f4_, ↓px_r1, ↓px_r2, ↓px_r4, ↓px_r5, ↓px_p1, ↓px_p2, ↓px_p3, ↓px_pop, px_k_0, px_k_s, px_k3_0, px_stk_, px_cats, px_ent, px_st1, px_st2, px_mask, ↓px_tsw, ↓px_lsw, ct_, mls_0, mls_1, mls_2, mls_3, mls_4, mls_5, kd_0, kd_1, kd_2, kd_3, ln_0, ln_1, ln_2, ln_3, gf_0, gf_1, gf_2, gf_3, gf_4, gf_7, gf_21, gf_63, dy_0, dy_1, dy_2, dy_3, dy_7, dy_21, px_brT, px_brF, true_and, and_true, and_false, false_and, and_self, true_implies, false_implies, or_true, true_or, or_false, false_or, eq_self, ne_eq, not_false_eq_true, not_true_eq_false, if_true, if_false, List.mem_cons, List.not_mem_nil, List.length_cons, List.length_nil, Nat.reduceEqDiff, Nat.reduceAdd, Nat.reduceSub, Nat.reduceLeDiff, Nat.reduceLT, Int.reduceEq, Int.reduceLT, Int.reduceLE, Int.reduceNeg, Int.reduceAdd, Int.reduceSub, Int.reduceToNat, ↓reduceIte, one_ne_zero_, zero_ne_one_, px_in32L, cd_257]
  repeat' (first | (with_reducible apply And.intro) | (with_reducible refine px_br_intro (fun _ => ?_) (fun _ => ?_)))
  all_goals (try (first | (unfold px_in32; omega) | omega))
  refine sp_wholeT (Mc := Mc) hT hc (fun M1 w _ _ a4 => ?_) (fun M1 w a4 => ?_)
  · simp only [px_go, px_Q0_at, px_sx_0, px_sx_s, px_cl, px_step, ↓px_ll, px_lg, f4_, ↓px_r1, ↓px_r2, ↓px_r4, ↓px_r5, ↓px_p1, ↓px_p2, ↓px_p3, ↓px_pop, px_k_0, px_k_s, px_k3_0, px_stk_, px_cats, px_ent, px_st1, px_st2, px_mask, ↓px_tsw, ↓px_lsw, ct_, mls_0, mls_1, mls_2, mls_3, mls_4, mls_5, kd_0, kd_1, kd_2, kd_3, ln_0, ln_1, ln_2, ln_3, gf_0, gf_1, gf_2, gf_3, gf_4, gf_7, gf_21, gf_63, dy_0, dy_1, dy_2, dy_3, dy_7, dy_21, px_brT, px_brF, true_and, and_true, and_false, false_and, and_self, true_implies, false_implies, or_true, true_or, or_false, false_or, eq_self, ne_eq, not_false_eq_true, not_true_eq_false, if_true, if_false, List.mem_cons, List.not_mem_nil, List.length_cons, List.length_nil, Nat.reduceEqDiff, Nat.reduceAdd, Nat.reduceSub, Nat.reduceLeDiff, Nat.reduceLT, Int.reduceEq, Int.reduceLT, Int.reduceLE, Int.reduceNeg, Int.reduceAdd, Int.reduceSub, Int.reduceToNat, ↓reduceIte, one_ne_zero_, zero_ne_one_, px_in32L, cd_257]
    exact hW M1 w (frd_128 a4) (frE_C (frd_E a4))
  · simp only [px_go, px_Q0_at, px_sx_0, px_sx_s, px_cl, px_step, ↓px_ll, px_lg, f4_, ↓px_r1, ↓px_r2, ↓px_r4, ↓px_r5, ↓px_p1, ↓px_p2, ↓px_p3, ↓px_pop, px_k_0, px_k_s, px_k3_0, px_stk_, px_cats, px_ent, px_st1, px_st2, px_mask, ↓px_tsw, ↓px_lsw, ct_, mls_0, mls_1, mls_2, mls_3, mls_4, mls_5, kd_0, kd_1, kd_2, kd_3, ln_0, ln_1, ln_2, ln_3, gf_0, gf_1, gf_2, gf_3, gf_4, gf_7, gf_21, gf_63, dy_0, dy_1, dy_2, dy_3, dy_7, dy_21, px_brT, px_brF, true_and, and_true, and_false, false_and, and_self, true_implies, false_implies, or_true, true_or, or_false, false_or, eq_self, ne_eq, not_false_eq_true, not_true_eq_false, if_true, if_false, List.mem_cons, List.not_mem_nil, List.length_cons, List.length_nil, Nat.reduceEqDiff, Nat.reduceAdd, Nat.reduceSub, Nat.reduceLeDiff, Nat.reduceLT, Int.reduceEq, Int.reduceLT, Int.reduceLE, Int.reduceNeg, Int.reduceAdd, Int.reduceSub, Int.reduceToNat, ↓reduceIte, one_ne_zero_, zero_ne_one_, px_in32L, cd_257]
    have e1 := frd_128 a4
    have f1 := frE_C (frd_E a4)
    refine lp_cures (M0 := M1) (Mc := Mc) (N := N) (g := g) (by rw [e1]; exact hT) (by rw [e1]; exact hst) hc (fun M' i i0 i1 b1' b2 b3 b4 b5 => h1 M' i w i0 i1 b1' b2 b3 (fun x x0 => by rw [b4 x x0, e1]) (frC_trans b5 f1)) (fun M' b1' b2 b3 => h0 M' w b1' (by rw [b2, e1]) (frC_trans b3 f1)) 0 hst.2.1 M1 (Int.le_refl 0) (fun j j0 j1 => by omega) (frC_refl M1) rfl
set_option maxHeartbeats 600000 in
set_option maxRecDepth 100000 in
theorem lp_rcure1 {M0 : px_mem} {Ms : Nat → px_mem} {ns : Nat → Int} {N n0 : Int} {g : Int → fe} (hst : sR (M0 128) N g) (hn0 : 0 ≤ n0 ∧ n0 ≤ 400) (hch : ∀ i : Nat, i < 40 → ∃ d, crst N g (Ms i) (Ms (i + 1)) (i : Int) d ∧ ns (i + 1) = ns i + d) (hx : ∀ M' m, tieC (Ms 40) (M' 128) → ((m = 0 ∧ ns 40 = 0) ∨ (m = 1 ∧ 0 < ns 40)) → (∀ x, ¬ (894 ≤ x ∧ x < 1294) → M' 128 x = M0 128 x) → frC M' M0 → px_WP 258 0 0 (px_Q0 LAY Q) 4 [(2, 127), (0, n0 + ns 40), (0, m), (9, 0)] [] LAY M' 0 0) (c : Int) (hk_c : c ≤ 40) : ∀ (M : px_mem) (m : Int), 0 ≤ c → tieC (Ms c.toNat) (M 128) → ((m = 0 ∧ ns c.toNat = 0) ∨ (m = 1 ∧ 0 < ns c.toNat)) ∧ ns c.toNat ≤ c → (∀ x, ¬ (894 ≤ x ∧ x < 1294) → M 128 x = M0 128 x) → frC M M0 → px_WP 258 0 0 (px_Q0 LAY Q) 12 [(2, 127), (0, n0 + ns c.toNat), (0, m), (0, c)] [] LAY M 0 0 := by
  refine up_ind (P := fun c => ∀ (M : px_mem) (m : Int), 0 ≤ c → tieC (Ms c.toNat) (M 128) → ((m = 0 ∧ ns c.toNat = 0) ∨ (m = 1 ∧ 0 < ns c.toNat)) ∧ ns c.toNat ≤ c → (∀ x, ¬ (894 ≤ x ∧ x < 1294) → M 128 x = M0 128 x) → frC M M0 → px_WP 258 0 0 (px_Q0 LAY Q) 12 [(2, 127), (0, n0 + ns c.toNat), (0, m), (0, c)] [] LAY M 0 0) (40) (fun c hk_c ih => ?_) c hk_c
  intro M m c0 hT hm hlo hfr
  have e1 : (c + 1).toNat = c.toNat + 1 := by omega
  have hit : ((c.toNat : Nat) : Int) = c := Int.toNat_of_nonneg c0
  have hno : c < 40 → ∀ M', eq67 (Ms c.toNat) (Ms (c.toNat + 1)) → ns (c.toNat + 1) = ns c.toNat → M' 128 = M 128 → frC M' M0 → px_WP 258 0 0 (px_Q0 LAY Q) 12 [(2, 127), (0, n0 + ns c.toNat), (0, m), (0, c + 1)] [] LAY M' 0 0 := fun q M' z1 z2 z3 z4 => by
    have := ih q M' m (by omega) (by rw [e1, z3]; exact tieC_same hT (fun b b0 b1' _ => z1 b (by omega) (by omega))) (by rw [e1, z2]; omega) (fun x x0 => by rw [z3]; exact hlo x x0) z4
    rw [e1, z2] at this
    exact this
  have hsk : c < 40 → ¬ (0 ≤ Ms c.toNat 62 c ∧ Ms c.toNat 105 c = 0 ∧ ∃ i, 0 ≤ i ∧ i < N ∧ mdOk (Ms c.toNat) c (g i).2) → eq67 (Ms c.toNat) (Ms (c.toNat + 1)) ∧ ns (c.toNat + 1) = ns c.toNat := fun q z => by
    obtain ⟨d, h1, h2⟩ := hch c.toNat (by omega)
    rw [hit] at h1
    rcases h1 with y | y
    · exact absurd ⟨y.1, y.2.1, by obtain ⟨i, M1, _, i0, i1, i2, _⟩ := y.2.2.2; exact ⟨i, i0, i1, i2⟩⟩ z
    · exact ⟨y.2.2, by rw [h2, y.2.1, Int.add_zero]⟩
  have hnb : 0 ≤ ns c.toNat ∧ ns c.toNat ≤ c := ⟨by rcases hm.1 with z | z <;> omega, hm.2⟩
  have hin : c ≤ 40 → px_in32 (n0 + ns c.toNat + 1) := fun q => by unfold px_in32; omega
  generalize hcn : c.toNat = cn at *
  refine px_go_ok (inl := [187]) 60 ?_
  simp only [px_go, px_Q0_at, px_sx_0, px_sx_s, px_cl, px_step, ↓px_ll, px_lg, f4_, ↓px_r1, ↓px_r2, ↓px_r4, ↓px_r5, ↓px_p1, ↓px_p2, ↓px_p3, ↓px_pop, px_k_0, px_k_s, px_k3_0, px_stk_, px_cats, px_ent, px_st1, px_st2, px_mask, ↓px_tsw, ↓px_lsw, ct_, mls_0, mls_1, mls_2, mls_3, mls_4, mls_5, kd_0, kd_1, kd_2, kd_3, ln_0, ln_1, ln_2, ln_3, gf_0, gf_1, gf_2, gf_3, gf_4, gf_7, gf_21, gf_63, dy_0, dy_1, dy_2, dy_3, dy_7, dy_21, px_brT, px_brF, true_and, and_true, and_false, false_and, and_self, true_implies, false_implies, or_true, true_or, or_false, false_or, eq_self, ne_eq, not_false_eq_true, not_true_eq_false, if_true, if_false, List.mem_cons, List.not_mem_nil, List.length_cons, List.length_nil, Nat.reduceEqDiff, Nat.reduceAdd, Nat.reduceSub, Nat.reduceLeDiff, Nat.reduceLT, Int.reduceEq, Int.reduceLT, Int.reduceLE, Int.reduceNeg, Int.reduceAdd, Int.reduceSub, Int.reduceToNat, ↓reduceIte, one_ne_zero_, zero_ne_one_, px_in32L, cd_258, cd_187]
  repeat' (first | (with_reducible apply And.intro) | (with_reducible refine px_br_intro (fun _ => ?_) (fun _ => ?_)))
  all_goals (try (first | (unfold px_in32; omega) | omega))
  · rename_i c1
    have ec : cn = 40 := by omega
    rw [ec] at hT hm ⊢
    exact hx M m hT hm.1 hlo hfr
  · rename_i c1 c2
    have hd : Ms cn 62 c < 0 := by
      have e : rC (M 128) c 0 = 0 := c2
      have := hT.2.1 c c0 (by omega)
      omega
    obtain ⟨z1, z2⟩ := hsk (by omega) (fun z => by omega)
    exact hno (by omega) M z1 z2 rfl hfr
  · rename_i c1 c2
    have hd : 0 ≤ Ms cn 62 c := by
      have e : ¬ rC (M 128) c 0 = 0 := c2
      have := hT.2.1 c c0 (by omega)
      omega
    have hstM : sR (M 128) N g := sR_frame hst (hlo 0 (by omega)) (fun x x0 x1 => hlo x (by omega))
    refine sp_cures hT hstM ⟨c0, by omega, hd⟩ (fun M1 w a1 a2 => ?_) (fun M1 i w i0 i1 a1 a2 a3 a4 a5 => ?_) (fun M1 w a1 a2 a3 => ?_)
    · simp only [px_go, px_Q0_at, px_sx_0, px_sx_s, px_cl, px_step, ↓px_ll, px_lg, f4_, ↓px_r1, ↓px_r2, ↓px_r4, ↓px_r5, ↓px_p1, ↓px_p2, ↓px_p3, ↓px_pop, px_k_0, px_k_s, px_k3_0, px_stk_, px_cats, px_ent, px_st1, px_st2, px_mask, ↓px_tsw, ↓px_lsw, ct_, mls_0, mls_1, mls_2, mls_3, mls_4, mls_5, kd_0, kd_1, kd_2, kd_3, ln_0, ln_1, ln_2, ln_3, gf_0, gf_1, gf_2, gf_3, gf_4, gf_7, gf_21, gf_63, dy_0, dy_1, dy_2, dy_3, dy_7, dy_21, px_brT, px_brF, true_and, and_true, and_false, false_and, and_self, true_implies, false_implies, or_true, true_or, or_false, false_or, eq_self, ne_eq, not_false_eq_true, not_true_eq_false, if_true, if_false, List.mem_cons, List.not_mem_nil, List.length_cons, List.length_nil, Nat.reduceEqDiff, Nat.reduceAdd, Nat.reduceSub, Nat.reduceLeDiff, Nat.reduceLT, Int.reduceEq, Int.reduceLT, Int.reduceLE, Int.reduceNeg, Int.reduceAdd, Int.reduceSub, Int.reduceToNat, ↓reduceIte, one_ne_zero_, zero_ne_one_, px_in32L, cd_258, cd_187]
      repeat' (first | (with_reducible apply And.intro) | (with_reducible refine px_br_intro (fun _ => ?_) (fun _ => ?_)))
      all_goals (try (first | (unfold px_in32; omega) | omega))
      obtain ⟨z1, z2⟩ := hsk (by omega) (fun z => w z.2.1)
      exact hno (by omega) M1 z1 z2 a1 (frC_trans a2 hfr)
    · simp only [px_go, px_Q0_at, px_sx_0, px_sx_s, px_cl, px_step, ↓px_ll, px_lg, f4_, ↓px_r1, ↓px_r2, ↓px_r4, ↓px_r5, ↓px_p1, ↓px_p2, ↓px_p3, ↓px_pop, px_k_0, px_k_s, px_k3_0, px_stk_, px_cats, px_ent, px_st1, px_st2, px_mask, ↓px_tsw, ↓px_lsw, ct_, mls_0, mls_1, mls_2, mls_3, mls_4, mls_5, kd_0, kd_1, kd_2, kd_3, ln_0, ln_1, ln_2, ln_3, gf_0, gf_1, gf_2, gf_3, gf_4, gf_7, gf_21, gf_63, dy_0, dy_1, dy_2, dy_3, dy_7, dy_21, px_brT, px_brF, true_and, and_true, and_false, false_and, and_self, true_implies, false_implies, or_true, true_or, or_false, false_or, eq_self, ne_eq, not_false_eq_true, not_true_eq_false, if_true, if_false, List.mem_cons, List.not_mem_nil, List.length_cons, List.length_nil, Nat.reduceEqDiff, Nat.reduceAdd, Nat.reduceSub, Nat.reduceLeDiff, Nat.reduceLT, Int.reduceEq, Int.reduceLT, Int.reduceLE, Int.reduceNeg, Int.reduceAdd, Int.reduceSub, Int.reduceToNat, ↓reduceIte, one_ne_zero_, zero_ne_one_, px_in32L, cd_258, cd_187]
      have hcq : cn < 40 := by omega
      have hin2 := hin hk_c
      repeat' (first | (with_reducible apply And.intro) | (with_reducible refine px_br_intro (fun _ => ?_) (fun _ => ?_)))
      all_goals (try exact hin2)
      all_goals (try (first | (unfold px_in32; omega) | omega))
      obtain ⟨d, h1, h2⟩ := hch cn hcq
      rw [hit] at h1
      rcases h1 with y | y
      · obtain ⟨y1, y2, y3, i', Mx, y4, y5, y6, y7, y8, y9⟩ := y
        have ei : i = i' := by
          rcases (by omega : i < i' ∨ i = i' ∨ i' < i) with q | q | q
          · exact absurd a1 (y8 i i0 q)
          · exact q
          · exact absurd y7 (a2 i' y5 q)
        subst ei
        have hkc := hT.1.1 c c0 (by omega) hd
        unfold cok at hkc
        have hmw := mdW_67 y4 c0 (by omega) (fun z => by have e5 : cC (Ms cn) c 5 = Ms cn 61 c := rfl; rw [e5] at hkc; omega) y9
        have := ih (by omega) M1 1 (by omega) (by rw [e1]; exact a3 _ hmw) (by rw [e1, h2, y3]; exact ⟨Or.inr ⟨rfl, Int.lt_add_one_of_le hnb.1⟩, Int.add_le_add_right hnb.2 1⟩) (fun x x0 => by rw [a4 x x0]; exact hlo x x0) (frC_trans a5 hfr)
        rw [e1, h2, y3, ← Int.add_assoc] at this
        exact this
      · exact absurd ⟨hd, w, i, i0, i1, a1⟩ y.1
    · simp only [px_go, px_Q0_at, px_sx_0, px_sx_s, px_cl, px_step, ↓px_ll, px_lg, f4_, ↓px_r1, ↓px_r2, ↓px_r4, ↓px_r5, ↓px_p1, ↓px_p2, ↓px_p3, ↓px_pop, px_k_0, px_k_s, px_k3_0, px_stk_, px_cats, px_ent, px_st1, px_st2, px_mask, ↓px_tsw, ↓px_lsw, ct_, mls_0, mls_1, mls_2, mls_3, mls_4, mls_5, kd_0, kd_1, kd_2, kd_3, ln_0, ln_1, ln_2, ln_3, gf_0, gf_1, gf_2, gf_3, gf_4, gf_7, gf_21, gf_63, dy_0, dy_1, dy_2, dy_3, dy_7, dy_21, px_brT, px_brF, true_and, and_true, and_false, false_and, and_self, true_implies, false_implies, or_true, true_or, or_false, false_or, eq_self, ne_eq, not_false_eq_true, not_true_eq_false, if_true, if_false, List.mem_cons, List.not_mem_nil, List.length_cons, List.length_nil, Nat.reduceEqDiff, Nat.reduceAdd, Nat.reduceSub, Nat.reduceLeDiff, Nat.reduceLT, Int.reduceEq, Int.reduceLT, Int.reduceLE, Int.reduceNeg, Int.reduceAdd, Int.reduceSub, Int.reduceToNat, ↓reduceIte, one_ne_zero_, zero_ne_one_, px_in32L, cd_258, cd_187]
      repeat' (first | (with_reducible apply And.intro) | (with_reducible refine px_br_intro (fun _ => ?_) (fun _ => ?_)))
      all_goals (try (first | (unfold px_in32; omega) | omega))
      obtain ⟨z1, z2⟩ := hsk (by omega) (fun z => by
        obtain ⟨i, i0, i1, i2⟩ := z.2.2
        exact a1 i i0 i1 i2)
      exact hno (by omega) M1 z1 z2 a2 (frC_trans a3 hfr)
end PS
