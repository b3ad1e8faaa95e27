set_option maxRecDepth 100000 in
/-- X12_max -/
theorem cd_172 : px_at 172 0 = some (1, [], .iload_n 0, []) ∧ px_at 172 1 = some (2, [], .iload_n 1, []) ∧ px_at 172 2 = some (5, [], .if_icmp .le 7, [9]) ∧ px_at 172 5 = some (6, [], .iload_n 0, []) ∧ px_at 172 6 = some (9, [], .goto 4, [10]) ∧ px_at 172 9 = some (10, [], .iload_n 1, []) ∧ px_at 172 10 = some (11, [], .ireturn, [0]) := ⟨rfl, rfl, rfl, rfl, rfl, rfl, rfl⟩
set_option maxRecDepth 100000 in
/-- X12_contentsBy -/
theorem cd_285 : px_at 285 0 = some (1, [], .iconst 0, []) ∧ px_at 285 1 = some (2, [], .istore_n 2, []) ∧ px_at 285 2 = some (3, [], .iconst 0, []) ∧ px_at 285 3 = some (4, [], .istore_n 3, []) ∧ px_at 285 4 = some (5, [], .iconst 0, []) ∧ px_at 285 5 = some (7, [], .istore 4, []) ∧ px_at 285 7 = some (9, [1, 1, 1, 1, 1], .iload 4, []) ∧ px_at 285 9 = some (11, [], .bipush 40, []) ∧ px_at 285 11 = some (14, [], .if_icmp .ge 72, [83]) ∧ px_at 285 14 = some (15, [], .aload_n 0, []) ∧ px_at 285 15 = some (17, [], .iload 4, []) ∧ px_at 285 17 = some (18, [], .iconst 0, []) ∧ px_at 285 18 = some (21, [], .invokevirtual 109, [187, 2, 11, 259]) ∧ px_at 285 21 = some (24, [], .ifCond .ne 6, [27]) ∧ px_at 285 24 = some (27, [], .goto 53, [77]) ∧ px_at 285 27 = some (28, [], .iload_n 1, []) ∧ px_at 285 28 = some (31, [], .ifCond .eq 34, [62]) ∧ px_at 285 31 = some (32, [], .iload_n 1, []) ∧ px_at 285 32 = some (33, [], .iconst 1, []) ∧ px_at 285 33 = some (36, [], .if_icmp .ne 12, [45]) ∧ px_at 285 36 = some (37, [], .aload_n 0, []) ∧ px_at 285 37 = some (39, [], .iload 4, []) ∧ px_at 285 39 = some (42, [], .invokevirtual 141, [194, 1, 11, 257]) ∧ px_at 285 42 = some (45, [], .ifCond .eq 20, [62]) ∧ px_at 285 45 = some (46, [], .iload_n 1, []) ∧ px_at 285 46 = some (47, [], .iconst 2, []) ∧ px_at 285 47 = some (50, [], .if_icmp .ne 19, [66]) ∧ px_at 285 50 = some (51, [], .aload_n 0, []) ∧ px_at 285 51 = some (53, [], .iload 4, []) ∧ px_at 285 53 = some (54, [], .iconst 5, []) ∧ px_at 285 54 = some (57, [], .invokevirtual 109, [187, 2, 11, 259]) ∧ px_at 285 57 = some (59, [], .bipush (-2), []) ∧ px_at 285 59 = some (62, [], .if_icmp .eq 7, [66]) ∧ px_at 285 62 = some (63, [], .iload_n 2, []) ∧ px_at 285 63 = some (64, [], .iconst 1, []) ∧ px_at 285 64 = some (65, [], .iadd, []) ∧ px_at 285 65 = some (66, [], .istore_n 2, []) ∧ px_at 285 66 = some (67, [], .iload_n 3, []) ∧ px_at 285 67 = some (68, [], .aload_n 0, []) ∧ px_at 285 68 = some (70, [], .iload 4, []) ∧ px_at 285 70 = some (73, [], .invokevirtual 154, [190, 1, 11, 268]) ∧ px_at 285 73 = some (76, [], .invokestatic 383, [172, 2, 11, 332]) ∧ px_at 285 76 = some (77, [], .istore_n 3, []) ∧ px_at 285 77 = some (80, [], .iinc 4 1, []) ∧ px_at 285 80 = some (83, [], .goto (-73), [7]) ∧ px_at 285 83 = some (84, [], .iload_n 1, []) ∧ px_at 285 84 = some (85, [], .iconst 3, []) ∧ px_at 285 85 = some (88, [], .if_icmp .ne 7, [92]) ∧ px_at 285 88 = some (89, [], .iload_n 3, []) ∧ px_at 285 89 = some (92, [], .goto 4, [93]) ∧ px_at 285 92 = some (93, [], .iload_n 2, []) ∧ px_at 285 93 = some (94, [], .ireturn, [0]) := ⟨rfl, rfl, rfl, rfl, rfl, rfl, rfl, rfl, rfl, rfl, rfl, rfl, rfl, rfl, rfl, rfl, rfl, rfl, rfl, rfl, rfl, rfl, rfl, rfl, rfl, rfl, rfl, rfl, rfl, rfl, rfl, rfl, rfl, rfl, rfl, rfl, rfl, rfl, rfl, rfl, rfl, rfl, rfl, rfl, rfl, rfl, rfl, rfl, rfl, rfl, rfl, rfl⟩
/-! the reference: counts -/
noncomputable def cbF (Mc : px_mem) (w c : Int) : Int := if w = 0 then b1 (0 ≤ Mc 62 c) else if w = 1 then b1 (0 ≤ Mc 62 c ∧ Mc 105 c = 0) else if w = 2 then b1 (0 ≤ Mc 62 c ∧ 0 ≤ Mc 61 c) else 0
theorem cbF_rng (Mc : px_mem) (w c : Int) : 0 ≤ cbF Mc w c ∧ cbF Mc w c ≤ 1 := by
  unfold cbF
  have h1 := b1_rng (0 ≤ Mc 62 c)
  have h2 := b1_rng (0 ≤ Mc 62 c ∧ Mc 105 c = 0)
  have h3 := b1_rng (0 ≤ Mc 62 c ∧ 0 ≤ Mc 61 c)
  split
  · exact h1
  · split
    · exact h2
    · split
      · exact h3
      · omega
theorem mx_nn (g : Int → Int) (n : Int) : 0 ≤ mx g n := by
  unfold mx
  have key : ∀ k : Nat, 0 ≤ mxN g k := by
    intro k
    induction k with
    | zero => exact Int.le_refl 0
    | succ k ih => show 0 ≤ max (mxN g k) (g (k : Int)); omega
  exact key _
section PS
variable {M : px_mem} {Q : Option pv → px_mem → Prop}
set_option maxHeartbeats 600000 in
set_option maxRecDepth 100000 in
theorem lp_contBy {M0 Mc : px_mem} {w : Int} (hT : tieC Mc (M0 128)) (h : ∀ M, frd M M0 → Q (some (0, if w = 3 then mx (Mc 62) 40 else sm 40 (cbF Mc w))) M) (c : Int) (hk_c : c ≤ 40) : ∀ M, 0 ≤ c → frd M M0 → px_WP 285 0 0 (px_Q0 LAY Q) 7 [(2, 127), (0, w), (0, sm c (cbF Mc w)), (0, mx (Mc 62) c), (0, c)] [] LAY M 0 0 := by
  refine up_ind (P := fun c => ∀ M, 0 ≤ c → frd M M0 → px_WP 285 0 0 (px_Q0 LAY Q) 7 [(2, 127), (0, w), (0, sm c (cbF Mc w)), (0, mx (Mc 62) c), (0, c)] [] LAY M 0 0) (40) (fun c hk_c ih => ?_) c hk_c
  intro M c0 hf
  have e128 := frd_128 hf
  have hTM : tieC Mc (M 128) := by rw [e128]; exact hT
  have hio := hTM.2.1 c c0
  have hs := @sm_s c c0 (cbF Mc w)
  have hm := mx_s (g := Mc 62) c0
  have hb := sm_bnd (c := 1) c0 (f := cbF Mc w) (fun d _ _ => cbF_rng Mc w d)
  have hmn : 0 ≤ mx (Mc 62) c := mx_nn (Mc 62) c
  have hgo : c < 40 → ∀ M1, frd M1 M0 → ∀ x y, x = sm c (cbF Mc w) + cbF Mc w c → y = max (mx (Mc 62) c) (Mc 62 c) → px_WP 285 0 0 (px_Q0 LAY Q) 7 [(2, 127), (0, w), (0, x), (0, y), (0, c + 1)] [] LAY M1 0 0 := fun q M1 a1 x y ex ey => by
    have := ih (by omega) M1 (by omega) a1
    rw [hs, hm, ← ex, ← ey] at this
    exact this
  have hcw : ∀ M1, frd M1 M0 → cw (rC (M1 128)) (Mc 62) := fun M1 a1 => by rw [frd_128 a1]; exact (tieC_rok hT).1
  have hstep : c < 40 → 0 ≤ Mc 62 c → ∀ M1, frd M1 M0 → ∀ x, x = sm c (cbF Mc w) + cbF Mc w c → 0 ≤ x ∧ x ≤ 40 := fun q q2 M1 a1 x ex => by
    have := cbF_rng Mc w c
    omega
  refine px_go_ok (inl := [172,187]) 60 ?_
  simp only [px_go, px_Q0_at, px_sx_0, px_sx_s, px_cl, px_step, ↓px_ll, px_lg, f4_, ↓px_r1, ↓px_r2, ↓px_r4, ↓px_r5, ↓px_p1, ↓px_p2, ↓px_p3, ↓px_pop, px_k_0, px_k_s, px_k3_0, px_stk_, px_cats, px_ent, px_st1, px_st2, px_mask, ↓px_tsw, ↓px_lsw, ct_, mls_0, mls_1, mls_2, mls_3, mls_4, mls_5, kd_0, kd_1, kd_2, kd_3, ln_0, ln_1, ln_2, ln_3, gf_0, gf_1, gf_2, gf_3, gf_4, gf_7, gf_21, gf_63, dy_0, dy_1, dy_2, dy_3, dy_7, dy_21, px_brT, px_brF, true_and, and_true, and_false, false_and, and_self, true_implies, false_implies, or_true, true_or, or_false, false_or, eq_self, ne_eq, not_false_eq_true, not_true_eq_false, if_true, if_false, List.mem_cons, List.not_mem_nil, List.length_cons, List.length_nil, Nat.reduceEqDiff, Nat.reduceAdd, Nat.reduceSub, Nat.reduceLeDiff, Nat.reduceLT, Int.reduceEq, Int.reduceLT, Int.reduceLE, Int.reduceNeg, Int.reduceAdd, Int.reduceSub, Int.reduceToNat, ↓reduceIte, one_ne_zero_, zero_ne_one_, px_in32L, cd_285, cd_172, cd_187]
  repeat' (first | (with_reducible apply And.intro) | (with_reducible refine px_br_intro (fun _ => ?_) (fun _ => ?_)))
  all_goals (try (first | (unfold px_in32; omega) | omega))
  · rename_i c1 c2
    have := h M hf
    rw [if_pos c2] at this
    rw [show c = 40 by omega]; exact this
  · rename_i c1 c2
    have := h M hf
    rw [if_neg c2] at this
    rw [show c = 40 by omega]; exact this
  all_goals
    have hc40 : c < 40 := by omega
    have hio2 := hio hc40
  · rename_i c1 c2
    have e : rC (M 128) c 0 = 0 := c2
    have hd : ¬ 0 ≤ Mc 62 c := by omega
    refine hgo hc40 M hf _ _ ?_ (by omega)
    have : cbF Mc w c = 0 := by
      unfold cbF
      rw [b1_f hd, b1_f (fun z => hd z.1), b1_f (fun z => hd z.1)]
      split <;> (try split) <;> (try split) <;> rfl
    omega
  all_goals
    have hd : 0 ≤ Mc 62 c := by
      have e : ∀ p : Prop, rC (M 128) c 0 = M 128 (654 + 6 * c + 0) := fun _ => rfl
      have := e True
      omega
    have hkc := cokC (hT.1.1 c c0 hc40 hd)
    have e5 : M 128 (654 + 6 * c + 5) = Mc 61 c := (tieC_p hTM c0 hc40 hd).2.2.2.2
  · rename_i c1 c2 c3
    have hv : cbF Mc w c = 1 := by unfold cbF; rw [if_pos c3, b1_t hd]
    refine sp_depthOf (hcw M hf) ⟨c0, hc40, hd⟩ ?_
    simp only [px_go, px_Q0_at, px_sx_0, px_sx_s, px_cl, px_step, ↓px_ll, px_lg, f4_, ↓px_r1, ↓px_r2, ↓px_r4, ↓px_r5, ↓px_p1, ↓px_p2, ↓px_p3, ↓px_pop, px_k_0, px_k_s, px_k3_0, px_stk_, px_cats, px_ent, px_st1, px_st2, px_mask, ↓px_tsw, ↓px_lsw, ct_, mls_0, mls_1, mls_2, mls_3, mls_4, mls_5, kd_0, kd_1, kd_2, kd_3, ln_0, ln_1, ln_2, ln_3, gf_0, gf_1, gf_2, gf_3, gf_4, gf_7, gf_21, gf_63, dy_0, dy_1, dy_2, dy_3, dy_7, dy_21, px_brT, px_brF, true_and, and_true, and_false, false_and, and_self, true_implies, false_implies, or_true, true_or, or_false, false_or, eq_self, ne_eq, not_false_eq_true, not_true_eq_false, if_true, if_false, List.mem_cons, List.not_mem_nil, List.length_cons, List.length_nil, Nat.reduceEqDiff, Nat.reduceAdd, Nat.reduceSub, Nat.reduceLeDiff, Nat.reduceLT, Int.reduceEq, Int.reduceLT, Int.reduceLE, Int.reduceNeg, Int.reduceAdd, Int.reduceSub, Int.reduceToNat, ↓reduceIte, one_ne_zero_, zero_ne_one_, px_in32L, cd_285, cd_172, cd_187]
    repeat' (first | (with_reducible apply And.intro) | (with_reducible refine px_br_intro (fun _ => ?_) (fun _ => ?_)))
    all_goals (try (first | (unfold px_in32; omega) | omega))
    · exact hgo hc40 M hf _ _ (by omega) (by omega)
    · exact hgo hc40 M hf _ _ (by omega) (by omega)
  · rename_i c1 c2 c3 c4
    refine sp_wholeT hTM ⟨c0, hc40, hd⟩ (fun M1 a1 a2 a3 a4 => ?_) (fun M1 a1 a4 => ?_)
    · have hv : cbF Mc w c = 0 := by unfold cbF; rw [if_neg c3, if_pos c4, b1_f (fun z => a1 z.2)]
      have g1 := frd_trans a4 hf
      simp only [px_go, px_Q0_at, px_sx_0, px_sx_s, px_cl, px_step, ↓px_ll, px_lg, f4_, ↓px_r1, ↓px_r2, ↓px_r4, ↓px_r5, ↓px_p1, ↓px_p2, ↓px_p3, ↓px_pop, px_k_0, px_k_s, px_k3_0, px_stk_, px_cats, px_ent, px_st1, px_st2, px_mask, ↓px_tsw, ↓px_lsw, ct_, mls_0, mls_1, mls_2, mls_3, mls_4, mls_5, kd_0, kd_1, kd_2, kd_3, ln_0, ln_1, ln_2, ln_3, gf_0, gf_1, gf_2, gf_3, gf_4, gf_7, gf_21, gf_63, dy_0, dy_1, dy_2, dy_3, dy_7, dy_21, px_brT, px_brF, true_and, and_true, and_false, false_and, and_self, true_implies, false_implies, or_true, true_or, or_false, false_or, eq_self, ne_eq, not_false_eq_true, not_true_eq_false, if_true, if_false, List.mem_cons, List.not_mem_nil, List.length_cons, List.length_nil, Nat.reduceEqDiff, Nat.reduceAdd, Nat.reduceSub, Nat.reduceLeDiff, Nat.reduceLT, Int.reduceEq, Int.reduceLT, Int.reduceLE, Int.reduceNeg, Int.reduceAdd, Int.reduceSub, Int.reduceToNat, ↓reduceIte, one_ne_zero_, zero_ne_one_, px_in32L, cd_285, cd_172, cd_187]
      repeat' (first | (with_reducible apply And.intro) | (with_reducible refine px_br_intro (fun _ => ?_) (fun _ => ?_)))
      all_goals (try (first | (unfold px_in32; omega) | omega))
      refine sp_depthOf (hcw M1 g1) ⟨c0, hc40, hd⟩ ?_
      simp only [px_go, px_Q0_at, px_sx_0, px_sx_s, px_cl, px_step, ↓px_ll, px_lg, f4_, ↓px_r1, ↓px_r2, ↓px_r4, ↓px_r5, ↓px_p1, ↓px_p2, ↓px_p3, ↓px_pop, px_k_0, px_k_s, px_k3_0, px_stk_, px_cats, px_ent, px_st1, px_st2, px_mask, ↓px_tsw, ↓px_lsw, ct_, mls_0, mls_1, mls_2, mls_3, mls_4, mls_5, kd_0, kd_1, kd_2, kd_3, ln_0, ln_1, ln_2, ln_3, gf_0, gf_1, gf_2, gf_3, gf_4, gf_7, gf_21, gf_63, dy_0, dy_1, dy_2, dy_3, dy_7, dy_21, px_brT, px_brF, true_and, and_true, and_false, false_and, and_self, true_implies, false_implies, or_true, true_or, or_false, false_or, eq_self, ne_eq, not_false_eq_true, not_true_eq_false, if_true, if_false, List.mem_cons, List.not_mem_nil, List.length_cons, List.length_nil, Nat.reduceEqDiff, Nat.reduceAdd, Nat.reduceSub, Nat.reduceLeDiff, Nat.reduceLT, Int.reduceEq, Int.reduceLT, Int.reduceLE, Int.reduceNeg, Int.reduceAdd, Int.reduceSub, Int.reduceToNat, ↓reduceIte, one_ne_zero_, zero_ne_one_, px_in32L, cd_285, cd_172, cd_187]
      repeat' (first | (with_reducible apply And.intro) | (with_reducible refine px_br_intro (fun _ => ?_) (fun _ => ?_)))
      all_goals (try (first | (unfold px_in32; omega) | omega))
      · exact hgo hc40 M1 g1 _ _ (by omega) (by omega)
      · exact hgo hc40 M1 g1 _ _ (by omega) (by omega)
    · have hv : cbF Mc w c = 1 := by unfold cbF; rw [if_neg c3, if_pos c4, b1_t ⟨hd, a1⟩]
      have g1 := frd_trans a4 hf
      simp only [px_go, px_Q0_at, px_sx_0, px_sx_s, px_cl, px_step, ↓px_ll, px_lg, f4_, ↓px_r1, ↓px_r2, ↓px_r4, ↓px_r5, ↓px_p1, ↓px_p2, ↓px_p3, ↓px_pop, px_k_0, px_k_s, px_k3_0, px_stk_, px_cats, px_ent, px_st1, px_st2, px_mask, ↓px_tsw, ↓px_lsw, ct_, mls_0, mls_1, mls_2, mls_3, mls_4, mls_5, kd_0, kd_1, kd_2, kd_3, ln_0, ln_1, ln_2, ln_3, gf_0, gf_1, gf_2, gf_3, gf_4, gf_7, gf_21, gf_63, dy_0, dy_1, dy_2, dy_3, dy_7, dy_21, px_brT, px_brF, true_and, and_true, and_false, false_and, and_self, true_implies, false_implies, or_true, true_or, or_false, false_or, eq_self, ne_eq, not_false_eq_true, not_true_eq_false, if_true, if_false, List.mem_cons, List.not_mem_nil, List.length_cons, List.length_nil, Nat.reduceEqDiff, Nat.reduceAdd, Nat.reduceSub, Nat.reduceLeDiff, Nat.reduceLT, Int.reduceEq, Int.reduceLT, Int.reduceLE, Int.reduceNeg, Int.reduceAdd, Int.reduceSub, Int.reduceToNat, ↓reduceIte, one_ne_zero_, zero_ne_one_, px_in32L, cd_285, cd_172, cd_187]
      repeat' (first | (with_reducible apply And.intro) | (with_reducible refine px_br_intro (fun _ => ?_) (fun _ => ?_)))
      all_goals (try (first | (unfold px_in32; omega) | omega))
      refine sp_depthOf (hcw M1 g1) ⟨c0, hc40, hd⟩ ?_
      simp only [px_go, px_Q0_at, px_sx_0, px_sx_s, px_cl, px_step, ↓px_ll, px_lg, f4_, ↓px_r1, ↓px_r2, ↓px_r4, ↓px_r5, ↓px_p1, ↓px_p2, ↓px_p3, ↓px_pop, px_k_0, px_k_s, px_k3_0, px_stk_, px_cats, px_ent, px_st1, px_st2, px_mask, ↓px_tsw, ↓px_lsw, ct_, mls_0, mls_1, mls_2, mls_3, mls_4, mls_5, kd_0, kd_1, kd_2, kd_3, ln_0, ln_1, ln_2, ln_3, gf_0, gf_1, gf_2, gf_3, gf_4, gf_7, gf_21, gf_63, dy_0, dy_1, dy_2, dy_3, dy_7, dy_21, px_brT, px_brF, true_and, and_true, and_false, false_and, and_self, true_implies, false_implies, or_true, true_or, or_false, false_or, eq_self, ne_eq, not_false_eq_true, not_true_eq_false, if_true, if_false, List.mem_cons, List.not_mem_nil, List.length_cons, List.length_nil, Nat.reduceEqDiff, Nat.reduceAdd, Nat.reduceSub, Nat.reduceLeDiff, Nat.reduceLT, Int.reduceEq, Int.reduceLT, Int.reduceLE, Int.reduceNeg, Int.reduceAdd, Int.reduceSub, Int.reduceToNat, ↓reduceIte, one_ne_zero_, zero_ne_one_, px_in32L, cd_285, cd_172, cd_187]
      repeat' (first | (with_reducible apply And.intro) | (with_reducible refine px_br_intro (fun _ => ?_) (fun _ => ?_)))
      all_goals (try (first | (unfold px_in32; omega) | omega))
      · exact hgo hc40 M1 g1 _ _ (by omega) (by omega)
      · exact hgo hc40 M1 g1 _ _ (by omega) (by omega)
  · rename_i c1 c2 c3 c4 c5 c6
    have hv : cbF Mc w c = 0 := by unfold cbF; rw [if_neg c3, if_neg c4, if_pos c5, b1_f (by omega)]
    refine sp_depthOf (hcw M hf) ⟨c0, hc40, hd⟩ ?_
    simp only [px_go, px_Q0_at, px_sx_0, px_sx_s, px_cl, px_step, ↓px_ll, px_lg, f4_, ↓px_r1, ↓px_r2, ↓px_r4, ↓px_r5, ↓px_p1, ↓px_p2, ↓px_p3, ↓px_pop, px_k_0, px_k_s, px_k3_0, px_stk_, px_cats, px_ent, px_st1, px_st2, px_mask, ↓px_tsw, ↓px_lsw, ct_, mls_0, mls_1, mls_2, mls_3, mls_4, mls_5, kd_0, kd_1, kd_2, kd_3, ln_0, ln_1, ln_2, ln_3, gf_0, gf_1, gf_2, gf_3, gf_4, gf_7, gf_21, gf_63, dy_0, dy_1, dy_2, dy_3, dy_7, dy_21, px_brT, px_brF, true_and, and_true, and_false, false_and, and_self, true_implies, false_implies, or_true, true_or, or_false, false_or, eq_self, ne_eq, not_false_eq_true, not_true_eq_false, if_true, if_false, List.mem_cons, List.not_mem_nil, List.length_cons, List.length_nil, Nat.reduceEqDiff, Nat.reduceAdd, Nat.reduceSub, Nat.reduceLeDiff, Nat.reduceLT, Int.reduceEq, Int.reduceLT, Int.reduceLE, Int.reduceNeg, Int.reduceAdd, Int.reduceSub, Int.reduceToNat, ↓reduceIte, one_ne_zero_, zero_ne_one_, px_in32L, cd_285, cd_172, cd_187]
    repeat' (first | (with_reducible apply And.intro) | (with_reducible refine px_br_intro (fun _ => ?_) (fun _ => ?_)))
    all_goals (try (first | (unfold px_in32; omega) | omega))
    · exact hgo hc40 M hf _ _ (by omega) (by omega)
    · exact hgo hc40 M hf _ _ (by omega) (by omega)
  · rename_i c1 c2 c3 c4 c5 c6
    have hb2 := dpt_ci hT.1 c c0 hc40 hd
    have hkk := hT.1.1 c c0 hc40 hd
    unfold cok at hkk
    have e6 : cC Mc c 5 = Mc 61 c := rfl
    rw [e6] at hkk
    have hv : cbF Mc w c = 1 := by unfold cbF; rw [if_neg c3, if_neg c4, if_pos c5, b1_t (by omega)]
    refine sp_depthOf (hcw M hf) ⟨c0, hc40, hd⟩ ?_
    simp only [px_go, px_Q0_at, px_sx_0, px_sx_s, px_cl, px_step, ↓px_ll, px_lg, f4_, ↓px_r1, ↓px_r2, ↓px_r4, ↓px_r5, ↓px_p1, ↓px_p2, ↓px_p3, ↓px_pop, px_k_0, px_k_s, px_k3_0, px_stk_, px_cats, px_ent, px_st1, px_st2, px_mask, ↓px_tsw, ↓px_lsw, ct_, mls_0, mls_1, mls_2, mls_3, mls_4, mls_5, kd_0, kd_1, kd_2, kd_3, ln_0, ln_1, ln_2, ln_3, gf_0, gf_1, gf_2, gf_3, gf_4, gf_7, gf_21, gf_63, dy_0, dy_1, dy_2, dy_3, dy_7, dy_21, px_brT, px_brF, true_and, and_true, and_false, false_and, and_self, true_implies, false_implies, or_true, true_or, or_false, false_or, eq_self, ne_eq, not_false_eq_true, not_true_eq_false, if_true, if_false, List.mem_cons, List.not_mem_nil, List.length_cons, List.length_nil, Nat.reduceEqDiff, Nat.reduceAdd, Nat.reduceSub, Nat.reduceLeDiff, Nat.reduceLT, Int.reduceEq, Int.reduceLT, Int.reduceLE, Int.reduceNeg, Int.reduceAdd, Int.reduceSub, Int.reduceToNat, ↓reduceIte, one_ne_zero_, zero_ne_one_, px_in32L, cd_285, cd_172, cd_187]
    repeat' (first | (with_reducible apply And.intro) | (with_reducible refine px_br_intro (fun _ => ?_) (fun _ => ?_)))
    all_goals (try (first | (unfold px_in32; omega) | omega))
    · exact hgo hc40 M hf _ _ (by omega) (by omega)
    · exact hgo hc40 M hf _ _ (by omega) (by omega)
  · rename_i c1 c2 c3 c4 c5
    have hv : cbF Mc w c = 0 := by unfold cbF; rw [if_neg c3, if_neg c4, if_neg c5]
    refine sp_depthOf (hcw M hf) ⟨c0, hc40, hd⟩ ?_
    simp only [px_go, px_Q0_at, px_sx_0, px_sx_s, px_cl, px_step, ↓px_ll, px_lg, f4_, ↓px_r1, ↓px_r2, ↓px_r4, ↓px_r5, ↓px_p1, ↓px_p2, ↓px_p3, ↓px_pop, px_k_0, px_k_s, px_k3_0, px_stk_, px_cats, px_ent, px_st1, px_st2, px_mask, ↓px_tsw, ↓px_lsw, ct_, mls_0, mls_1, mls_2, mls_3, mls_4, mls_5, kd_0, kd_1, kd_2, kd_3, ln_0, ln_1, ln_2, ln_3, gf_0, gf_1, gf_2, gf_3, gf_4, gf_7, gf_21, gf_63, dy_0, dy_1, dy_2, dy_3, dy_7, dy_21, px_brT, px_brF, true_and, and_true, and_false, false_and, and_self, true_implies, false_implies, or_true, true_or, or_false, false_or, eq_self, ne_eq, not_false_eq_true, not_true_eq_false, if_true, if_false, List.mem_cons, List.not_mem_nil, List.length_cons, List.length_nil, Nat.reduceEqDiff, Nat.reduceAdd, Nat.reduceSub, Nat.reduceLeDiff, Nat.reduceLT, Int.reduceEq, Int.reduceLT, Int.reduceLE, Int.reduceNeg, Int.reduceAdd, Int.reduceSub, Int.reduceToNat, ↓reduceIte, one_ne_zero_, zero_ne_one_, px_in32L, cd_285, cd_172, cd_187]
    repeat' (first | (with_reducible apply And.intro) | (with_reducible refine px_br_intro (fun _ => ?_) (fun _ => ?_)))
    all_goals (try (first | (unfold px_in32; omega) | omega))
    · exact hgo hc40 M hf _ _ (by omega) (by omega)
    · exact hgo hc40 M hf _ _ (by omega) (by omega)
set_option maxHeartbeats 600000 in
set_option maxRecDepth 100000 in
theorem sp_contBy {Mc : px_mem} {w : Int} (hT : tieC Mc (M 128)) (h : ∀ M', frd M' M → Q (some (0, if w = 3 then mx (Mc 62) 40 else sm 40 (cbF Mc w))) M') : px_Ok 285 [(2, 127), (0, w)] LAY M Q := by
  refine px_ok_go (inl := []) (ls0 := [(2, 127), (0, w), (9, 0), (9, 0), (9, 0)]) 60 (by decide) (Nat.le_of_ble_eq_true rfl) rfl ?_
  simp only [px_go, px_Q0_at, px_sx_0, px_sx_s, px_cl, px_step, ↓px_ll, px_lg, f4_, ↓px_r1, ↓px_r2, ↓px_r4, ↓px_r5, ↓px_p1, ↓px_p2, ↓px_p3, ↓px_pop, px_k_0, px_k_s, px_k3_0, px_stk_, px_cats, px_ent, px_st1, px_st2, px_mask, ↓px_tsw, ↓px_lsw, ct_, mls_0, mls_1, mls_2, mls_3, mls_4, mls_5, kd_0, kd_1, kd_2, kd_3, ln_0, ln_1, ln_2, ln_3, gf_0, gf_1, gf_2, gf_3, gf_4, gf_7, gf_21, gf_63, dy_0, dy_1, dy_2, dy_3, dy_7, dy_21, px_brT, px_brF, true_and, and_true, and_false, false_and, and_self, true_implies, false_implies, or_true, true_or, or_false, false_or, eq_self, ne_eq, not_false_eq_true, not_true_eq_false, if_true, if_false, List.mem_cons, List.not_mem_nil, List.length_cons, List.length_nil, Nat.reduceEqDiff, Nat.reduceAdd, Nat.reduceSub, Nat.reduceLeDiff, Nat.reduceLT, Int.reduceEq, Int.reduceLT, Int.reduceLE, Int.reduceNeg, Int.reduceAdd, Int.reduceSub, Int.reduceToNat, ↓reduceIte, one_ne_zero_, zero_ne_one_, px_in32L, cd_285]
  repeat' (first | (with_reducible apply And.intro) | (with_reducible refine px_br_intro (fun _ => ?_) (fun _ => ?_)))
  all_goals (try (first | (unfold px_in32; omega) | omega))
  exact lp_contBy hT h 0 (by decide) M (Int.le_refl 0) (frd_refl M)
end PS
