set_option maxRecDepth 100000 in
/-- X12_relinks -/
theorem cd_246 : px_at 246 0 = some (1, [], .iconst 0, []) ∧ px_at 246 1 = some (3, [], .istore 4, []) ∧ px_at 246 3 = some (5, [1, 1, 1, 1, 1], .iload 4, []) ∧ px_at 246 5 = some (6, [], .iconst 2, []) ∧ px_at 246 6 = some (9, [], .if_icmp .ge 32, [38]) ∧ px_at 246 9 = some (10, [], .aload_n 0, []) ∧ px_at 246 10 = some (13, [], .getfield 7, [11, 0, 2, 1, 125]) ∧ px_at 246 13 = some (14, [], .iload_n 1, []) ∧ px_at 246 14 = some (16, [], .iload 4, []) ∧ px_at 246 16 = some (17, [], .iadd, []) ∧ px_at 246 17 = some (18, [], .iaload, []) ∧ px_at 246 18 = some (19, [], .iload_n 2, []) ∧ px_at 246 19 = some (22, [], .if_icmp .ne 13, [32]) ∧ px_at 246 22 = some (23, [], .aload_n 0, []) ∧ px_at 246 23 = some (26, [], .getfield 7, [11, 0, 2, 1, 125]) ∧ px_at 246 26 = some (27, [], .iload_n 1, []) ∧ px_at 246 27 = some (29, [], .iload 4, []) ∧ px_at 246 29 = some (30, [], .iadd, []) ∧ px_at 246 30 = some (31, [], .iload_n 3, []) ∧ px_at 246 31 = some (32, [], .iastore, []) ∧ px_at 246 32 = some (35, [], .iinc 4 1, []) ∧ px_at 246 35 = some (38, [], .goto (-32), [3]) ∧ px_at 246 38 = some (39, [], .return_, []) := ⟨rfl, rfl, rfl, rfl, rfl, rfl, rfl, rfl, rfl, rfl, rfl, rfl, rfl, rfl, rfl, rfl, rfl, rfl, rfl, rfl, rfl, rfl, rfl⟩
set_option maxRecDepth 100000 in
/-- X12_goesAway -/
theorem cd_247 : px_at 247 0 = some (1, [], .aload_n 0, []) ∧ px_at 247 1 = some (4, [], .getfield 7, [11, 0, 2, 1, 125]) ∧ px_at 247 4 = some (5, [], .aload_n 0, []) ∧ px_at 247 5 = some (6, [], .iload_n 1, []) ∧ px_at 247 6 = some (9, [], .invokevirtual 174, [204, 1, 11, 251]) ∧ px_at 247 9 = some (10, [], .iconst 0, []) ∧ px_at 247 10 = some (11, [], .iadd, []) ∧ px_at 247 11 = some (12, [], .iaload, []) ∧ px_at 247 12 = some (13, [], .istore_n 2, []) ∧ px_at 247 13 = some (14, [], .aload_n 0, []) ∧ px_at 247 14 = some (17, [], .getfield 7, [11, 0, 2, 1, 125]) ∧ px_at 247 17 = some (18, [], .aload_n 0, []) ∧ px_at 247 18 = some (19, [], .iload_n 1, []) ∧ px_at 247 19 = some (22, [], .invokevirtual 174, [204, 1, 11, 251]) ∧ px_at 247 22 = some (23, [], .iconst 1, []) ∧ px_at 247 23 = some (24, [], .iadd, []) ∧ px_at 247 24 = some (25, [], .iaload, []) ∧ px_at 247 25 = some (26, [], .istore_n 3, []) ∧ px_at 247 26 = some (27, [], .iconst 0, []) ∧ px_at 247 27 = some (29, [], .istore 4, []) ∧ px_at 247 29 = some (31, [1, 1, 1, 1, 1], .iload 4, []) ∧ px_at 247 31 = some (32, [], .aload_n 0, []) ∧ px_at 247 32 = some (35, [], .getfield 7, [11, 0, 2, 1, 125]) ∧ px_at 247 35 = some (36, [], .iconst 5, []) ∧ px_at 247 36 = some (37, [], .iaload, []) ∧ px_at 247 37 = some (40, [], .if_icmp .ge 23, [60]) ∧ px_at 247 40 = some (41, [], .aload_n 0, []) ∧ px_at 247 41 = some (42, [], .aload_n 0, []) ∧ px_at 247 42 = some (44, [], .iload 4, []) ∧ px_at 247 44 = some (47, [], .invokevirtual 174, [204, 1, 11, 251]) ∧ px_at 247 47 = some (48, [], .iconst 1, []) ∧ px_at 247 48 = some (49, [], .iadd, []) ∧ px_at 247 49 = some (50, [], .iload_n 2, []) ∧ px_at 247 50 = some (51, [], .iload_n 3, []) ∧ px_at 247 51 = some (54, [], .invokevirtual 316, [246, 3, 11, 289]) ∧ px_at 247 54 = some (57, [], .iinc 4 1, []) ∧ px_at 247 57 = some (60, [], .goto (-28), [29]) ∧ px_at 247 60 = some (61, [], .aload_n 0, []) ∧ px_at 247 61 = some (62, [], .iconst 1, []) ∧ px_at 247 62 = some (63, [], .iload_n 2, []) ∧ px_at 247 63 = some (64, [], .iload_n 3, []) ∧ px_at 247 64 = some (67, [], .invokevirtual 316, [246, 3, 11, 289]) ∧ px_at 247 67 = some (68, [], .aload_n 0, []) ∧ px_at 247 68 = some (71, [], .getfield 7, [11, 0, 2, 1, 125]) ∧ px_at 247 71 = some (72, [], .iconst 5, []) ∧ px_at 247 72 = some (73, [], .aload_n 0, []) ∧ px_at 247 73 = some (76, [], .getfield 7, [11, 0, 2, 1, 125]) ∧ px_at 247 76 = some (77, [], .iconst 5, []) ∧ px_at 247 77 = some (78, [], .iaload, []) ∧ px_at 247 78 = some (79, [], .iconst 1, []) ∧ px_at 247 79 = some (80, [], .isub, []) ∧ px_at 247 80 = some (81, [], .iastore, []) ∧ px_at 247 81 = some (82, [], .aload_n 0, []) ∧ px_at 247 82 = some (83, [], .iload_n 1, []) ∧ px_at 247 83 = some (86, [], .invokevirtual 174, [204, 1, 11, 251]) ∧ px_at 247 86 = some (88, [], .istore 4, []) ∧ px_at 247 88 = some (90, [1, 0, 0, 0, 1], .iload 4, []) ∧ px_at 247 90 = some (91, [], .aload_n 0, []) ∧ px_at 247 91 = some (92, [], .aload_n 0, []) ∧ px_at 247 92 = some (95, [], .getfield 7, [11, 0, 2, 1, 125]) ∧ px_at 247 95 = some (96, [], .iconst 5, []) ∧ px_at 247 96 = some (97, [], .iaload, []) ∧ px_at 247 97 = some (100, [], .invokevirtual 174, [204, 1, 11, 251]) ∧ px_at 247 100 = some (103, [], .if_icmp .ge 27, [127]) ∧ px_at 247 103 = some (104, [], .aload_n 0, []) ∧ px_at 247 104 = some (107, [], .getfield 7, [11, 0, 2, 1, 125]) ∧ px_at 247 107 = some (109, [], .iload 4, []) ∧ px_at 247 109 = some (110, [], .aload_n 0, []) ∧ px_at 247 110 = some (113, [], .getfield 7, [11, 0, 2, 1, 125]) ∧ px_at 247 113 = some (115, [], .iload 4, []) ∧ px_at 247 115 = some (118, [], .sipush 186, []) ∧ px_at 247 118 = some (119, [], .iadd, []) ∧ px_at 247 119 = some (120, [], .iaload, []) ∧ px_at 247 120 = some (121, [], .iastore, []) ∧ px_at 247 121 = some (124, [], .iinc 4 1, []) ∧ px_at 247 124 = some (127, [], .goto (-36), [88]) ∧ px_at 247 127 = some (128, [], .aload_n 0, []) ∧ px_at 247 128 = some (131, [], .invokevirtual 319, [212, 0, 11, 290]) ∧ px_at 247 131 = some (132, [], .ireturn, [0]) := ⟨rfl, rfl, rfl, rfl, rfl, rfl, rfl, rfl, rfl, rfl, rfl, rfl, rfl, rfl, rfl, rfl, rfl, rfl, rfl, rfl, rfl, rfl, rfl, rfl, rfl, rfl, rfl, rfl, rfl, rfl, rfl, rfl, rfl, rfl, rfl, rfl, rfl, rfl, rfl, rfl, rfl, rfl, rfl, rfl, rfl, rfl, rfl, rfl, rfl, rfl, rfl, rfl, rfl, rfl, rfl, rfl, rfl, rfl, rfl, rfl, rfl, rfl, rfl, rfl, rfl, rfl, rfl, rfl, rfl, rfl, rfl, rfl, rfl, rfl, rfl, rfl, rfl, rfl, rfl⟩
/-! the reference: drop, thin -/
theorem fullS_congr {dd bs bs' : Int → Int} {P P' : Int → Prop} (hb : ∀ d, 0 ≤ d → d < 40 → 0 ≤ dd d → bs' d = bs d) (hP : ∀ c, P' c ↔ P c) : ∀ (m : Nat) (c : Int), fullS dd bs' P' m c ↔ fullS dd bs P m c := by
  intro m
  induction m with
  | zero => intro c; exact hP c
  | succ m ih =>
    intro c
    show (P' c ∨ _) ↔ (P c ∨ _)
    refine or_congr (hP c) (exists_congr (fun d => ?_))
    constructor
    · rintro ⟨d0, d1, d2, d3, d4⟩
      exact ⟨d0, d1, d2, by rw [← hb d d0 d1 d2]; exact d3, (ih d).mp d4⟩
    · rintro ⟨d0, d1, d2, d3, d4⟩
      exact ⟨d0, d1, d2, by rw [hb d d0 d1 d2]; exact d3, (ih d).mpr d4⟩
theorem lsE_congr {nf nf' : Int → Int} {cf cf' : Int → Int → Int} {i c : Int} (h1 : nf' i = nf i) (h2 : ∀ j, 0 ≤ j → j < nf i → cf' i j = cf i j) : lsE nf' cf' i c ↔ lsE nf cf i c := by
  unfold lsE
  rw [h1]
  exact exists_congr (fun j => ⟨fun ⟨a, b, e⟩ => ⟨a, b, by rw [← h2 j a b]; exact e⟩, fun ⟨a, b, e⟩ => ⟨a, b, by rw [h2 j a b]; exact e⟩⟩)
section PS
variable {M : px_mem} {Q : Option pv → px_mem → Prop}
theorem rlk_if (n t x : Int) : (if x = n then t else x) = rlk n t x := rfl
set_option maxHeartbeats 600000 in
set_option maxRecDepth 100000 in
theorem sp_relinks {a n t : Int} (ha : 0 ≤ a ∧ a + 2 ≤ 3154) (h : ∀ M', (∀ x, M' 128 x = if x = a ∨ x = a + 1 then rlk n t (M 128 x) else M 128 x) → (∀ b, b ≠ 128 → M' b = M b) → Q none M') : px_Ok 246 [(2, 127), (0, a), (0, n), (0, t)] LAY M Q := by
  refine px_ok_go (inl := []) (ls0 := [(2, 127), (0, a), (0, n), (0, t), (9, 0)]) 60 (by decide) (Nat.le_of_ble_eq_true rfl) rfl ?_
  simp only [px_go, px_Q0_at, px_sx_0, px_sx_s, px_cl, px_step, ↓px_ll, px_lg, f4_, ↓px_r1, ↓px_r2, ↓px_r4, ↓px_r5, ↓px_p1, ↓px_p2, ↓px_p3, ↓px_pop, px_k_0, px_k_s, px_k3_0, px_stk_, px_cats, px_ent, px_st1, px_st2, px_mask, ↓px_tsw, ↓px_lsw, ct_, mls_0, mls_1, mls_2, mls_3, mls_4, mls_5, kd_0, kd_1, kd_2, kd_3, ln_0, ln_1, ln_2, ln_3, gf_0, gf_1, gf_2, gf_3, gf_4, gf_7, gf_21, gf_63, dy_0, dy_1, dy_2, dy_3, dy_7, dy_21, px_brT, px_brF, true_and, and_true, and_false, false_and, and_self, true_implies, false_implies, or_true, true_or, or_false, false_or, eq_self, ne_eq, not_false_eq_true, not_true_eq_false, if_true, if_false, List.mem_cons, List.not_mem_nil, List.length_cons, List.length_nil, Nat.reduceEqDiff, Nat.reduceAdd, Nat.reduceSub, Nat.reduceLeDiff, Nat.reduceLT, Int.reduceEq, Int.reduceLT, Int.reduceLE, Int.reduceNeg, Int.reduceAdd, Int.reduceSub, Int.reduceToNat, ↓reduceIte, one_ne_zero_, zero_ne_one_, px_in32L, cd_246]
  repeat' (first | (with_reducible apply And.intro) | (with_reducible refine px_br_intro (fun _ => ?_) (fun _ => ?_)))
  all_goals (try (first | (unfold px_in32; omega) | omega))
  have step : ∀ k (M1 : px_mem), (k = 0 ∨ k = 1) → (∀ M', M' 128 (a + k) = rlk n t (M1 128 (a + k)) → (∀ x, x ≠ a + k → M' 128 x = M1 128 x) → (∀ b, b ≠ 128 → M' b = M1 b) → px_WP 246 0 0 (px_Q0 LAY Q) 3 [(2, 127), (0, a), (0, n), (0, t), (0, k + 1)] [] LAY M' 0 0) → px_WP 246 0 0 (px_Q0 LAY Q) 3 [(2, 127), (0, a), (0, n), (0, t), (0, k)] [] LAY M1 0 0 := fun k M1 hk hx => by
    refine px_go_ok (inl := []) 60 ?_
    simp only [px_go, px_Q0_at, px_sx_0, px_sx_s, px_cl, px_step, ↓px_ll, px_lg, f4_, ↓px_r1, ↓px_r2, ↓px_r4, ↓px_r5, ↓px_p1, ↓px_p2, ↓px_p3, ↓px_pop, px_k_0, px_k_s, px_k3_0, px_stk_, px_cats, px_ent, px_st1, px_st2, px_mask, ↓px_tsw, ↓px_lsw, ct_, mls_0, mls_1, mls_2, mls_3, mls_4, mls_5, kd_0, kd_1, kd_2, kd_3, ln_0, ln_1, ln_2, ln_3, gf_0, gf_1, gf_2, gf_3, gf_4, gf_7, gf_21, gf_63, dy_0, dy_1, dy_2, dy_3, dy_7, dy_21, px_brT, px_brF, true_and, and_true, and_false, false_and, and_self, true_implies, false_implies, or_true, true_or, or_false, false_or, eq_self, ne_eq, not_false_eq_true, not_true_eq_false, if_true, if_false, List.mem_cons, List.not_mem_nil, List.length_cons, List.length_nil, Nat.reduceEqDiff, Nat.reduceAdd, Nat.reduceSub, Nat.reduceLeDiff, Nat.reduceLT, Int.reduceEq, Int.reduceLT, Int.reduceLE, Int.reduceNeg, Int.reduceAdd, Int.reduceSub, Int.reduceToNat, ↓reduceIte, one_ne_zero_, zero_ne_one_, px_in32L, cd_246]
    repeat' (first | (with_reducible apply And.intro) | (with_reducible refine px_br_intro (fun _ => ?_) (fun _ => ?_)))
    all_goals (try (first | (unfold px_in32; omega) | omega))
    · rename_i c1 c2
      refine hx _ ?_ (fun x x0 => ?_) (fun b b0 => row_ne b0)
      · rw [px_up_at, if_pos ⟨rfl, rfl⟩]; unfold rlk; rw [if_pos c2]
      · rw [px_up_at, if_neg (fun z => x0 z.2)]
    · rename_i c1 c2
      refine hx M1 ?_ (fun _ _ => rfl) (fun _ _ => rfl)
      unfold rlk; rw [if_neg c2]
  refine step 0 M (Or.inl rfl) (fun M1 a1 a2 a3 => ?_)
  refine step 1 M1 (Or.inr rfl) (fun M2 b1' b2 b3 => ?_)
  refine px_go_ok (inl := []) 60 ?_
  simp only [px_go, px_Q0_at, px_sx_0, px_sx_s, px_cl, px_step, ↓px_ll, px_lg, f4_, ↓px_r1, ↓px_r2, ↓px_r4, ↓px_r5, ↓px_p1, ↓px_p2, ↓px_p3, ↓px_pop, px_k_0, px_k_s, px_k3_0, px_stk_, px_cats, px_ent, px_st1, px_st2, px_mask, ↓px_tsw, ↓px_lsw, ct_, mls_0, mls_1, mls_2, mls_3, mls_4, mls_5, kd_0, kd_1, kd_2, kd_3, ln_0, ln_1, ln_2, ln_3, gf_0, gf_1, gf_2, gf_3, gf_4, gf_7, gf_21, gf_63, dy_0, dy_1, dy_2, dy_3, dy_7, dy_21, px_brT, px_brF, true_and, and_true, and_false, false_and, and_self, true_implies, false_implies, or_true, true_or, or_false, false_or, eq_self, ne_eq, not_false_eq_true, not_true_eq_false, if_true, if_false, List.mem_cons, List.not_mem_nil, List.length_cons, List.length_nil, Nat.reduceEqDiff, Nat.reduceAdd, Nat.reduceSub, Nat.reduceLeDiff, Nat.reduceLT, Int.reduceEq, Int.reduceLT, Int.reduceLE, Int.reduceNeg, Int.reduceAdd, Int.reduceSub, Int.reduceToNat, ↓reduceIte, one_ne_zero_, zero_ne_one_, px_in32L, cd_246]
  rw [Int.add_zero] at a1 a2
  refine h M2 (fun x => ?_) (fun b b0 => by rw [b3 b b0, a3 b b0])
  by_cases q : x = a + 1
  · rw [if_pos (Or.inr q), q, b1', a2 _ (by omega)]
  · by_cases q2 : x = a
    · rw [if_pos (Or.inl q2), b2 x q, q2, a1]
    · rw [if_neg (by omega), b2 x q, a2 x q2]
def rlkI (F F0 : Int → Int) (n t e : Int) : Prop := (∀ i, 0 ≤ i → i < e → F (1294 + 186 * i + 1) = rlk n t (F0 (1294 + 186 * i + 1)) ∧ F (1294 + 186 * i + 2) = rlk n t (F0 (1294 + 186 * i + 2))) ∧ ∀ x, (∀ i, 0 ≤ i → i < e → x ≠ 1294 + 186 * i + 1 ∧ x ≠ 1294 + 186 * i + 2) → F x = F0 x
set_option maxHeartbeats 600000 in
set_option maxRecDepth 100000 in
theorem lp_ga1 {M0 : px_mem} {s n num t : Int} (h5 : M0 128 5 = n) (hn : 0 ≤ n ∧ n ≤ 10) (hx : ∀ M', rlkI (M' 128) (M0 128) num t n → (∀ b, b ≠ 128 → M' b = M0 b) → px_WP 247 0 0 (px_Q0 LAY Q) 29 [(2, 127), (0, s), (0, num), (0, t), (0, n)] [] LAY M' 0 0) (e : Int) (hk_e : e ≤ n) : ∀ (M : px_mem), 0 ≤ e → rlkI (M 128) (M0 128) num t e → (∀ b, b ≠ 128 → M b = M0 b) → px_WP 247 0 0 (px_Q0 LAY Q) 29 [(2, 127), (0, s), (0, num), (0, t), (0, e)] [] LAY M 0 0 := by
  refine up_ind (P := fun e => ∀ (M : px_mem), 0 ≤ e → rlkI (M 128) (M0 128) num t e → (∀ b, b ≠ 128 → M b = M0 b) → px_WP 247 0 0 (px_Q0 LAY Q) 29 [(2, 127), (0, s), (0, num), (0, t), (0, e)] [] LAY M 0 0) (n) (fun e hk_e ih => ?_) e hk_e
  intro M e0 hI hfr
  by_cases hen : e = n
  · subst hen; exact hx M hI hfr
  have e5 : M 128 5 = n := by rw [hI.2 5 (fun i _ _ => by omega)]; exact h5
  refine px_go_ok (inl := [204]) 60 ?_
  simp only [px_go, px_Q0_at, px_sx_0, px_sx_s, px_cl, px_step, ↓px_ll, px_lg, f4_, ↓px_r1, ↓px_r2, ↓px_r4, ↓px_r5, ↓px_p1, ↓px_p2, ↓px_p3, ↓px_pop, px_k_0, px_k_s, px_k3_0, px_stk_, px_cats, px_ent, px_st1, px_st2, px_mask, ↓px_tsw, ↓px_lsw, ct_, mls_0, mls_1, mls_2, mls_3, mls_4, mls_5, kd_0, kd_1, kd_2, kd_3, ln_0, ln_1, ln_2, ln_3, gf_0, gf_1, gf_2, gf_3, gf_4, gf_7, gf_21, gf_63, dy_0, dy_1, dy_2, dy_3, dy_7, dy_21, px_brT, px_brF, true_and, and_true, and_false, false_and, and_self, true_implies, false_implies, or_true, true_or, or_false, false_or, eq_self, ne_eq, not_false_eq_true, not_true_eq_false, if_true, if_false, List.mem_cons, List.not_mem_nil, List.length_cons, List.length_nil, Nat.reduceEqDiff, Nat.reduceAdd, Nat.reduceSub, Nat.reduceLeDiff, Nat.reduceLT, Int.reduceEq, Int.reduceLT, Int.reduceLE, Int.reduceNeg, Int.reduceAdd, Int.reduceSub, Int.reduceToNat, ↓reduceIte, one_ne_zero_, zero_ne_one_, px_in32L, cd_247, cd_204, e5]
  repeat' (first | (with_reducible apply And.intro) | (with_reducible refine px_br_intro (fun _ => ?_) (fun _ => ?_)))
  all_goals (try (first | (unfold px_in32; omega) | omega))
  · rename_i c1
    refine sp_relinks ⟨by omega, by omega⟩ (fun M1 a1 a2 => ?_)
    simp only [px_go, px_Q0_at, px_sx_0, px_sx_s, px_cl, px_step, ↓px_ll, px_lg, f4_, ↓px_r1, ↓px_r2, ↓px_r4, ↓px_r5, ↓px_p1, ↓px_p2, ↓px_p3, ↓px_pop, px_k_0, px_k_s, px_k3_0, px_stk_, px_cats, px_ent, px_st1, px_st2, px_mask, ↓px_tsw, ↓px_lsw, ct_, mls_0, mls_1, mls_2, mls_3, mls_4, mls_5, kd_0, kd_1, kd_2, kd_3, ln_0, ln_1, ln_2, ln_3, gf_0, gf_1, gf_2, gf_3, gf_4, gf_7, gf_21, gf_63, dy_0, dy_1, dy_2, dy_3, dy_7, dy_21, px_brT, px_brF, true_and, and_true, and_false, false_and, and_self, true_implies, false_implies, or_true, true_or, or_false, false_or, eq_self, ne_eq, not_false_eq_true, not_true_eq_false, if_true, if_false, List.mem_cons, List.not_mem_nil, List.length_cons, List.length_nil, Nat.reduceEqDiff, Nat.reduceAdd, Nat.reduceSub, Nat.reduceLeDiff, Nat.reduceLT, Int.reduceEq, Int.reduceLT, Int.reduceLE, Int.reduceNeg, Int.reduceAdd, Int.reduceSub, Int.reduceToNat, ↓reduceIte, one_ne_zero_, zero_ne_one_, px_in32L, cd_247, cd_204]
    repeat' (first | (with_reducible apply And.intro) | (with_reducible refine px_br_intro (fun _ => ?_) (fun _ => ?_)))
    all_goals (try (first | (unfold px_in32; omega) | omega))
    refine ih (by omega) M1 (by omega) ⟨fun i i0 i1 => ?_, fun x x0 => ?_⟩ (fun b b0 => by rw [a2 b b0, hfr b b0])
    · by_cases q : i = e
      · rw [a1, if_pos (by omega), a1, if_pos (by omega), hI.2 _ (fun j j0 j1 => by omega), hI.2 _ (fun j j0 j1 => by omega)]
        exact ⟨rfl, rfl⟩
      · rw [a1, if_neg (by omega), a1, if_neg (by omega)]
        exact hI.1 i i0 (by omega)
    · have := x0 e e0 (by omega)
      rw [a1, if_neg (by omega)]
      exact hI.2 x (fun i i0 i1 => x0 i i0 (by omega))
set_option maxHeartbeats 600000 in
set_option maxRecDepth 100000 in
theorem lp_ga2 {M0 : px_mem} {s m : Int} (h5 : M0 128 5 = m) (hm : 0 ≤ m ∧ m < 10) (hs : 0 ≤ s ∧ s ≤ m) (hx : ∀ M', (∀ x, M' 128 x = if 1294 + 186 * s ≤ x ∧ x < 1294 + 186 * m then M0 128 (x + 186) else M0 128 x) → (∀ b, b ≠ 128 → M' b = M0 b) → px_WP 247 0 0 (px_Q0 LAY Q) 88 [(2, 127), (9, 0), (9, 0), (9, 0), (0, 1294 + 186 * m)] [] LAY M' 0 0) (k : Int) (hk_k : k ≤ 1294+186*m) : ∀ (M : px_mem), 1294 + 186 * s ≤ k → (∀ x, M 128 x = if 1294 + 186 * s ≤ x ∧ x < k then M0 128 (x + 186) else M0 128 x) → (∀ b, b ≠ 128 → M b = M0 b) → px_WP 247 0 0 (px_Q0 LAY Q) 88 [(2, 127), (9, 0), (9, 0), (9, 0), (0, k)] [] LAY M 0 0 := by
  refine up_ind (P := fun k => ∀ (M : px_mem), 1294 + 186 * s ≤ k → (∀ x, M 128 x = if 1294 + 186 * s ≤ x ∧ x < k then M0 128 (x + 186) else M0 128 x) → (∀ b, b ≠ 128 → M b = M0 b) → px_WP 247 0 0 (px_Q0 LAY Q) 88 [(2, 127), (9, 0), (9, 0), (9, 0), (0, k)] [] LAY M 0 0) (1294+186*m) (fun k hk_k ih => ?_) k hk_k
  intro M k0 hv hf
  by_cases hk : k = 1294 + 186 * m
  · subst hk; exact hx M hv hf
  have e5 : M 128 5 = m := by rw [hv, if_neg (by omega)]; exact h5
  refine px_go_ok (inl := [204]) 60 ?_
  simp only [px_go, px_Q0_at, px_sx_0, px_sx_s, px_cl, px_step, ↓px_ll, px_lg, f4_, ↓px_r1, ↓px_r2, ↓px_r4, ↓px_r5, ↓px_p1, ↓px_p2, ↓px_p3, ↓px_pop, px_k_0, px_k_s, px_k3_0, px_stk_, px_cats, px_ent, px_st1, px_st2, px_mask, ↓px_tsw, ↓px_lsw, ct_, mls_0, mls_1, mls_2, mls_3, mls_4, mls_5, kd_0, kd_1, kd_2, kd_3, ln_0, ln_1, ln_2, ln_3, gf_0, gf_1, gf_2, gf_3, gf_4, gf_7, gf_21, gf_63, dy_0, dy_1, dy_2, dy_3, dy_7, dy_21, px_brT, px_brF, true_and, and_true, and_false, false_and, and_self, true_implies, false_implies, or_true, true_or, or_false, false_or, eq_self, ne_eq, not_false_eq_true, not_true_eq_false, if_true, if_false, List.mem_cons, List.not_mem_nil, List.length_cons, List.length_nil, Nat.reduceEqDiff, Nat.reduceAdd, Nat.reduceSub, Nat.reduceLeDiff, Nat.reduceLT, Int.reduceEq, Int.reduceLT, Int.reduceLE, Int.reduceNeg, Int.reduceAdd, Int.reduceSub, Int.reduceToNat, ↓reduceIte, one_ne_zero_, zero_ne_one_, px_in32L, cd_247, cd_204, e5]
  repeat' (first | (with_reducible apply And.intro) | (with_reducible refine px_br_intro (fun _ => ?_) (fun _ => ?_)))
  all_goals (try (first | (unfold px_in32; omega) | omega))
  · rename_i c1
    refine ih (by omega) _ (by omega) (fun x => ?_) (fun b b0 => by rw [row_ne b0]; exact hf b b0)
    have hsrc : M 128 (k + 186) = M0 128 (k + 186) := by rw [hv, if_neg (by omega)]
    rw [px_up_at, hsrc, hv x]
    by_cases q : x = k
    · rw [if_pos ⟨rfl, q⟩, if_pos (by omega), q]
    · rw [if_neg (fun z => q z.2)]
      by_cases r : 1294 + 186 * s ≤ x ∧ x < k
      · rw [if_pos r, if_pos (by omega)]
      · rw [if_neg r, if_neg (by omega)]
end PS
