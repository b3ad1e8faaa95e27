/-! EditionVault.Contents: remembering, restoring -/
section PS
variable {M : px_mem} {Q : Option pv → px_mem → Prop}
set_option maxHeartbeats 600000 in
set_option maxRecDepth 100000 in
theorem lp_remember {M0 : px_mem} (h : ∀ M', (∀ c, 0 ≤ c → c < 40 → M' 109 c = b1 (0 ≤ M0 62 c)) → (∀ b, b ≠ 109 → M' b = M0 b) → Q none M') (k : Int) (hk_k : k ≤ 40) : ∀ M, 0 ≤ k → (∀ c, 0 ≤ c → c < k → M 109 c = b1 (0 ≤ M0 62 c)) → (∀ b, b ≠ 109 → M b = M0 b) → px_WP 20 0 0 (px_Q0 LAY Q) 9 [(2, 56), (0, k)] [] LAY M 0 0 := by
  refine up_ind (P := fun k => ∀ M, 0 ≤ k → (∀ c, 0 ≤ c → c < k → M 109 c = b1 (0 ≤ M0 62 c)) → (∀ b, b ≠ 109 → M b = M0 b) → px_WP 20 0 0 (px_Q0 LAY Q) 9 [(2, 56), (0, k)] [] LAY M 0 0) (40) (fun k hk_k ih => ?_) k hk_k
  intro M k0 hg hf
  refine px_go_ok (inl := [7]) 60 ?_
  simp only [px_go, px_Q0_at, px_sx_0, px_sx_s, px_cl, px_step, ↓px_ll, px_lg, f4_, ↓px_r1, ↓px_r2, ↓px_r4, ↓px_r5, ↓px_p1, ↓px_p2, ↓px_p3, ↓px_pop, px_k_0, px_k_s, px_k3_0, px_stk_, px_cats, px_ent, px_st1, px_st2, px_mask, ↓px_tsw, ↓px_lsw, ct_, mls_0, mls_1, mls_2, mls_3, mls_4, mls_5, kd_0, kd_1, kd_2, kd_3, ln_0, ln_1, ln_2, ln_3, gf_0, gf_1, gf_2, gf_3, gf_4, gf_7, gf_21, gf_63, dy_0, dy_1, dy_2, dy_3, dy_7, dy_21, px_brT, px_brF, true_and, and_true, and_false, false_and, and_self, true_implies, false_implies, or_true, true_or, or_false, false_or, eq_self, ne_eq, not_false_eq_true, not_true_eq_false, if_true, if_false, List.mem_cons, List.not_mem_nil, List.length_cons, List.length_nil, Nat.reduceEqDiff, Nat.reduceAdd, Nat.reduceSub, Nat.reduceLeDiff, Nat.reduceLT, Int.reduceEq, Int.reduceLT, Int.reduceLE, Int.reduceNeg, Int.reduceAdd, Int.reduceSub, Int.reduceToNat, ↓reduceIte, one_ne_zero_, zero_ne_one_, px_in32L, cd_20, cd_7]
  repeat' (first | (with_reducible apply And.intro) | (with_reducible refine px_br_intro (fun _ => ?_) (fun _ => ?_)))
  all_goals (try (unfold px_in32))
  all_goals grind -mbtc  (splits := 20) [px_up_at, row_ne, b1_t, b1_f]
set_option maxHeartbeats 600000 in
set_option maxRecDepth 100000 in
theorem sp_remember (h : ∀ M', (∀ x, 0 ≤ x → x < 400 → M' 55 x = M 53 x) → (∀ c, 0 ≤ c → c < 40 → M' 109 c = b1 (0 ≤ M 62 c)) → (∀ b, b ≠ 55 → b ≠ 109 → M' b = M b) → Q none M') : px_Ok 20 [(2, 56)] LAY M Q := by
  refine px_ok_go (inl := [7]) (ls0 := [(2, 56), (9, 0)]) 60 (by decide) (Nat.le_of_ble_eq_true rfl) rfl ?_
  simp only [px_go, px_Q0_at, px_sx_0, px_sx_s, px_cl, px_step, ↓px_ll, px_lg, f4_, ↓px_r1, ↓px_r2, ↓px_r4, ↓px_r5, ↓px_p1, ↓px_p2, ↓px_p3, ↓px_pop, px_k_0, px_k_s, px_k3_0, px_stk_, px_cats, px_ent, px_st1, px_st2, px_mask, ↓px_tsw, ↓px_lsw, ct_, mls_0, mls_1, mls_2, mls_3, mls_4, mls_5, kd_0, kd_1, kd_2, kd_3, ln_0, ln_1, ln_2, ln_3, gf_0, gf_1, gf_2, gf_3, gf_4, gf_7, gf_21, gf_63, dy_0, dy_1, dy_2, dy_3, dy_7, dy_21, px_brT, px_brF, true_and, and_true, and_false, false_and, and_self, true_implies, false_implies, or_true, true_or, or_false, false_or, eq_self, ne_eq, not_false_eq_true, not_true_eq_false, if_true, if_false, List.mem_cons, List.not_mem_nil, List.length_cons, List.length_nil, Nat.reduceEqDiff, Nat.reduceAdd, Nat.reduceSub, Nat.reduceLeDiff, Nat.reduceLT, Int.reduceEq, Int.reduceLT, Int.reduceLE, Int.reduceNeg, Int.reduceAdd, Int.reduceSub, Int.reduceToNat, ↓reduceIte, one_ne_zero_, zero_ne_one_, px_in32L, cd_20, cd_7]
  repeat' (first | (with_reducible apply And.intro) | (with_reducible refine px_br_intro (fun _ => ?_) (fun _ => ?_)))
  all_goals (try (first | (unfold px_in32; omega) | omega))
  refine sp_rem (fun M1 e1 e2 => ?_)
  simp only [px_go, px_Q0_at, px_sx_0, px_sx_s, px_cl, px_step, ↓px_ll, px_lg, f4_, ↓px_r1, ↓px_r2, ↓px_r4, ↓px_r5, ↓px_p1, ↓px_p2, ↓px_p3, ↓px_pop, px_k_0, px_k_s, px_k3_0, px_stk_, px_cats, px_ent, px_st1, px_st2, px_mask, ↓px_tsw, ↓px_lsw, ct_, mls_0, mls_1, mls_2, mls_3, mls_4, mls_5, kd_0, kd_1, kd_2, kd_3, ln_0, ln_1, ln_2, ln_3, gf_0, gf_1, gf_2, gf_3, gf_4, gf_7, gf_21, gf_63, dy_0, dy_1, dy_2, dy_3, dy_7, dy_21, px_brT, px_brF, true_and, and_true, and_false, false_and, and_self, true_implies, false_implies, or_true, true_or, or_false, false_or, eq_self, ne_eq, not_false_eq_true, not_true_eq_false, if_true, if_false, List.mem_cons, List.not_mem_nil, List.length_cons, List.length_nil, Nat.reduceEqDiff, Nat.reduceAdd, Nat.reduceSub, Nat.reduceLeDiff, Nat.reduceLT, Int.reduceEq, Int.reduceLT, Int.reduceLE, Int.reduceNeg, Int.reduceAdd, Int.reduceSub, Int.reduceToNat, ↓reduceIte, one_ne_zero_, zero_ne_one_, px_in32L, cd_20, cd_7]
  refine lp_remember (M0 := M1) (fun M' g1 g2 => h M' (fun x x0 x1 => by rw [g2 55 (by decide), e1 x, if_pos ⟨x0, x1⟩]) (fun c c0 c1 => by rw [g1 c c0 c1, e2 62 (by decide)]) (fun b b0 b1 => by rw [g2 b b1, e2 b b0])) 0 (by decide) M1 (Int.le_refl 0) (fun c c0 c1 => by omega) (fun _ _ => rfl)
set_option maxHeartbeats 600000 in
set_option maxRecDepth 100000 in
theorem lp_restore {M0 : px_mem} (ho : own M0) (hp : ∀ c, 0 ≤ c → c < 40 → 0 ≤ M0 62 c → 0 ≤ M0 59 c ∧ 0 ≤ M0 60 c ∧ M0 59 c + M0 60 c ≤ 400) (h : ∀ M', gone M0 M' (fun c => M0 109 c = 0) 40 → (∀ b, b ≠ 54 → b ≠ 62 → M' b = M0 b) → Q none M') (k : Int) (hk_k : k ≤ 40) : ∀ (M : px_mem), 0 ≤ k → gone M0 M (fun c => M0 109 c = 0) k → (∀ b, b ≠ 54 → b ≠ 62 → M b = M0 b) → px_WP 21 0 0 (px_Q0 LAY Q) 9 [(2, 56), (0, k)] [] LAY M 0 0 := by
  refine up_ind (P := fun k => ∀ (M : px_mem), 0 ≤ k → gone M0 M (fun c => M0 109 c = 0) k → (∀ b, b ≠ 54 → b ≠ 62 → M b = M0 b) → px_WP 21 0 0 (px_Q0 LAY Q) 9 [(2, 56), (0, k)] [] LAY M 0 0) (40) (fun k hk_k ih => ?_) k hk_k
  intro M k0 hg hf
  have hMv := hf 109 (by decide) (by decide)
  have h62 : M 62 k = M0 62 k := (hg.1 k).2 (by omega)
  refine px_go_ok (inl := [7]) 60 ?_
  simp only [px_go, px_Q0_at, px_sx_0, px_sx_s, px_cl, px_step, ↓px_ll, px_lg, f4_, ↓px_r1, ↓px_r2, ↓px_r4, ↓px_r5, ↓px_p1, ↓px_p2, ↓px_p3, ↓px_pop, px_k_0, px_k_s, px_k3_0, px_stk_, px_cats, px_ent, px_st1, px_st2, px_mask, ↓px_tsw, ↓px_lsw, ct_, mls_0, mls_1, mls_2, mls_3, mls_4, mls_5, kd_0, kd_1, kd_2, kd_3, ln_0, ln_1, ln_2, ln_3, gf_0, gf_1, gf_2, gf_3, gf_4, gf_7, gf_21, gf_63, dy_0, dy_1, dy_2, dy_3, dy_7, dy_21, px_brT, px_brF, true_and, and_true, and_false, false_and, and_self, true_implies, false_implies, or_true, true_or, or_false, false_or, eq_self, ne_eq, not_false_eq_true, not_true_eq_false, if_true, if_false, List.mem_cons, List.not_mem_nil, List.length_cons, List.length_nil, Nat.reduceEqDiff, Nat.reduceAdd, Nat.reduceSub, Nat.reduceLeDiff, Nat.reduceLT, Int.reduceEq, Int.reduceLT, Int.reduceLE, Int.reduceNeg, Int.reduceAdd, Int.reduceSub, Int.reduceToNat, ↓reduceIte, one_ne_zero_, zero_ne_one_, px_in32L, cd_21, cd_7]
  repeat' (first | (with_reducible apply And.intro) | (with_reducible refine px_br_intro (fun _ => ?_) (fun _ => ?_)))
  all_goals (try (first | (unfold px_in32; omega) | omega))
  · rename_i c1
    rw [show k = 40 by omega] at hg
    exact h M hg hf
  · rename_i c1 c2
    exact ih (by omega) M (by omega) (gone_skip ho (by omega) hg) hf
  · rename_i c1 c2 c3
    rw [hMv] at c3
    have h59 := hf 59 (by decide) (by decide)
    have h60 := hf 60 (by decide) (by decide)
    refine sp_lose ⟨k0, by omega⟩ (by rw [h59, h60]; exact hp k k0 (by omega) (by omega)) (fun M' e1 e2 e3 => ?_)
    rw [h59, h60] at e1
    simp only [px_go, px_Q0_at, px_sx_0, px_sx_s, px_cl, px_step, ↓px_ll, px_lg, f4_, ↓px_r1, ↓px_r2, ↓px_r4, ↓px_r5, ↓px_p1, ↓px_p2, ↓px_p3, ↓px_pop, px_k_0, px_k_s, px_k3_0, px_stk_, px_cats, px_ent, px_st1, px_st2, px_mask, ↓px_tsw, ↓px_lsw, ct_, mls_0, mls_1, mls_2, mls_3, mls_4, mls_5, kd_0, kd_1, kd_2, kd_3, ln_0, ln_1, ln_2, ln_3, gf_0, gf_1, gf_2, gf_3, gf_4, gf_7, gf_21, gf_63, dy_0, dy_1, dy_2, dy_3, dy_7, dy_21, px_brT, px_brF, true_and, and_true, and_false, false_and, and_self, true_implies, false_implies, or_true, true_or, or_false, false_or, eq_self, ne_eq, not_false_eq_true, not_true_eq_false, if_true, if_false, List.mem_cons, List.not_mem_nil, List.length_cons, List.length_nil, Nat.reduceEqDiff, Nat.reduceAdd, Nat.reduceSub, Nat.reduceLeDiff, Nat.reduceLT, Int.reduceEq, Int.reduceLT, Int.reduceLE, Int.reduceNeg, Int.reduceAdd, Int.reduceSub, Int.reduceToNat, ↓reduceIte, one_ne_zero_, zero_ne_one_, px_in32L, cd_21, cd_7]
    repeat' (first | (with_reducible apply And.intro) | (with_reducible refine px_br_intro (fun _ => ?_) (fun _ => ?_)))
    all_goals (try (first | (unfold px_in32; omega) | omega))
    exact ih (by omega) M' (by omega) (gone_step ho k0 (by omega) (by omega) c3 hg e1 e2) (fun b b0 b1 => by rw [e3 b b0 b1]; exact hf b b0 b1)
  · rename_i c1 c2 c3
    rw [hMv] at c3
    exact ih (by omega) M (by omega) (gone_skip ho (by omega) hg) hf
theorem own_row {M M' : px_mem} (h : ∀ b, b ≠ 53 → M' b = M b) (ho : own M) : own M' := by
  unfold own at ho ⊢
  rw [h 62 (by decide), h 59 (by decide), h 60 (by decide), h 54 (by decide)]
  exact ho
theorem gone_row {M M1 M' : px_mem} {p : Int → Prop} {k : Int} (h : ∀ b, b ≠ 53 → M1 b = M b) (hg : gone M1 M' p k) : gone M M' p k := by
  unfold gone at hg ⊢
  rw [h 62 (by decide), h 54 (by decide)] at hg
  exact hg
set_option maxHeartbeats 600000 in
set_option maxRecDepth 100000 in
theorem sp_restore (ho : own M) (hp : ∀ c, 0 ≤ c → c < 40 → 0 ≤ M 62 c → 0 ≤ M 59 c ∧ 0 ≤ M 60 c ∧ M 59 c + M 60 c ≤ 400) (h : ∀ M', (∀ x, M' 53 x = if 0 ≤ x ∧ x < 400 then M 55 x else M 53 x) → gone M M' (fun c => M 109 c = 0) 40 → (∀ b, b ≠ 53 → b ≠ 54 → b ≠ 62 → M' b = M b) → Q none M') : px_Ok 21 [(2, 56)] LAY M Q := by
  refine px_ok_go (inl := [7]) (ls0 := [(2, 56), (9, 0)]) 60 (by decide) (Nat.le_of_ble_eq_true rfl) rfl ?_
  simp only [px_go, px_Q0_at, px_sx_0, px_sx_s, px_cl, px_step, ↓px_ll, px_lg, f4_, ↓px_r1, ↓px_r2, ↓px_r4, ↓px_r5, ↓px_p1, ↓px_p2, ↓px_p3, ↓px_pop, px_k_0, px_k_s, px_k3_0, px_stk_, px_cats, px_ent, px_st1, px_st2, px_mask, ↓px_tsw, ↓px_lsw, ct_, mls_0, mls_1, mls_2, mls_3, mls_4, mls_5, kd_0, kd_1, kd_2, kd_3, ln_0, ln_1, ln_2, ln_3, gf_0, gf_1, gf_2, gf_3, gf_4, gf_7, gf_21, gf_63, dy_0, dy_1, dy_2, dy_3, dy_7, dy_21, px_brT, px_brF, true_and, and_true, and_false, false_and, and_self, true_implies, false_implies, or_true, true_or, or_false, false_or, eq_self, ne_eq, not_false_eq_true, not_true_eq_false, if_true, if_false, List.mem_cons, List.not_mem_nil, List.length_cons, List.length_nil, Nat.reduceEqDiff, Nat.reduceAdd, Nat.reduceSub, Nat.reduceLeDiff, Nat.reduceLT, Int.reduceEq, Int.reduceLT, Int.reduceLE, Int.reduceNeg, Int.reduceAdd, Int.reduceSub, Int.reduceToNat, ↓reduceIte, one_ne_zero_, zero_ne_one_, px_in32L, cd_21, cd_7]
  repeat' (first | (with_reducible apply And.intro) | (with_reducible refine px_br_intro (fun _ => ?_) (fun _ => ?_)))
  all_goals (try (first | (unfold px_in32; omega) | omega))
  refine sp_rst (fun M1 e1 e2 => ?_)
  simp only [px_go, px_Q0_at, px_sx_0, px_sx_s, px_cl, px_step, ↓px_ll, px_lg, f4_, ↓px_r1, ↓px_r2, ↓px_r4, ↓px_r5, ↓px_p1, ↓px_p2, ↓px_p3, ↓px_pop, px_k_0, px_k_s, px_k3_0, px_stk_, px_cats, px_ent, px_st1, px_st2, px_mask, ↓px_tsw, ↓px_lsw, ct_, mls_0, mls_1, mls_2, mls_3, mls_4, mls_5, kd_0, kd_1, kd_2, kd_3, ln_0, ln_1, ln_2, ln_3, gf_0, gf_1, gf_2, gf_3, gf_4, gf_7, gf_21, gf_63, dy_0, dy_1, dy_2, dy_3, dy_7, dy_21, px_brT, px_brF, true_and, and_true, and_false, false_and, and_self, true_implies, false_implies, or_true, true_or, or_false, false_or, eq_self, ne_eq, not_false_eq_true, not_true_eq_false, if_true, if_false, List.mem_cons, List.not_mem_nil, List.length_cons, List.length_nil, Nat.reduceEqDiff, Nat.reduceAdd, Nat.reduceSub, Nat.reduceLeDiff, Nat.reduceLT, Int.reduceEq, Int.reduceLT, Int.reduceLE, Int.reduceNeg, Int.reduceAdd, Int.reduceSub, Int.reduceToNat, ↓reduceIte, one_ne_zero_, zero_ne_one_, px_in32L, cd_21, cd_7]
  refine lp_restore (M0 := M1) (own_row e2 ho) (by rw [e2 62 (by decide), e2 59 (by decide), e2 60 (by decide)]; exact hp) (fun M' g1 g2 => h M' (fun x => by rw [g2 53 (by decide) (by decide), e1 x]) ?_ (fun b b0 b1 b2 => by rw [g2 b b1 b2, e2 b b0])) 0 (by decide) M1 (Int.le_refl 0) (gone_0 M1 _) (fun _ _ _ => rfl)
  rw [e2 109 (by decide)] at g1
  exact gone_row e2 g1
end PS
