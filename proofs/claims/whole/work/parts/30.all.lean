/-! EditionVault.Contents: all read anew -/
theorem cw_congr {ct ct' : Int → Int → Int} {dd : Int → Int} (h : ∀ c p, 1 ≤ p → p ≤ 5 → ct' c p = ct c p) (hw : cw ct dd) : cw ct' dd := fun c c0 c1 c2 => by
  have := hw c c0 c1 c2
  unfold cok at this ⊢
  rw [h c 1 (by decide) (by decide), h c 2 (by decide) (by decide), h c 3 (by decide) (by decide), h c 4 (by decide) (by decide), h c 5 (by decide) (by decide)]
  exact this
theorem cokC {M : px_mem} {dd : Int → Int} {c : Int} (h : cok (cC M) dd c) : dd c ≤ 3 ∧ 0 ≤ M 57 c ∧ M 57 c ≤ 40 ∧ 0 ≤ M 58 c ∧ M 58 c < 65521 ∧ 0 ≤ M 59 c ∧ 0 ≤ M 60 c ∧ M 60 c ≤ M 57 c ∧ M 59 c + M 60 c ≤ 400 ∧
  ((M 61 c = -2 ∧ dd c = 0 ∧ M 60 c = M 57 c) ∨ (0 ≤ M 61 c ∧ M 61 c < 40 ∧ 0 ≤ dd (M 61 c) ∧ dd c = dd (M 61 c) + 1)) := h
/-- nothing has changed but what is read -/
def frR (M M0 : px_mem) : Prop := ∀ b, ¬ (64 ≤ b ∧ b < 104) → b ≠ 104 → b ≠ 105 → M b = M0 b
theorem frR_refl (M : px_mem) : frR M M := fun _ _ _ _ => rfl
theorem frR_cw {M M0 : px_mem} (h : frR M M0) (hw : cw (cC M0) (M0 62)) : cw (cC M) (M 62) := by
  rw [h 62 (by omega) (by decide) (by decide)]
  exact cw_congr (cC_congr (fun b b0 b1 => h b (by omega) (by omega) (by omega))) hw
section PS
variable {M : px_mem} {Q : Option pv → px_mem → Prop}
set_option maxHeartbeats 600000 in
set_option maxRecDepth 100000 in
theorem lp_readAll2 {M0 : px_mem} {d : Int} (hw : cw (cC M0) (M0 62)) (hv : bw (M0 53)) (hd : 0 ≤ d ∧ d ≤ 3) (hx : ∀ M, frR M M0 → (∀ x, 0 ≤ x → x < 40 → 0 ≤ M0 62 x → M0 62 x < d + 1 → gd M x) → px_WP 12 0 0 (px_Q0 LAY Q) 2 [(2, 56), (0, d + 1), (9, 0)] [] LAY M 0 0) (c : Int) (hk_c : c ≤ 40) : ∀ M, 0 ≤ c → frR M M0 → (∀ x, 0 ≤ x → x < 40 → 0 ≤ M0 62 x → (M0 62 x < d ∨ (M0 62 x = d ∧ x < c)) → gd M x) → px_WP 12 0 0 (px_Q0 LAY Q) 9 [(2, 56), (0, d), (0, c)] [] LAY M 0 0 := by
  refine up_ind (P := fun c => ∀ M, 0 ≤ c → frR M M0 → (∀ x, 0 ≤ x → x < 40 → 0 ≤ M0 62 x → (M0 62 x < d ∨ (M0 62 x = d ∧ x < c)) → gd M x) → px_WP 12 0 0 (px_Q0 LAY Q) 9 [(2, 56), (0, d), (0, c)] [] LAY M 0 0) (40) (fun c hk_c ih => ?_) c hk_c
  intro M hc0 hf hg
  refine px_go_ok (inl := []) 60 ?_
  simp only [px_go, px_Q0_at, px_sx_0, px_sx_s, px_cl, px_step, ↓px_ll, px_lg, f4_, ↓px_r1, ↓px_r2, ↓px_r4, ↓px_r5, ↓px_p1, ↓px_p2, ↓px_p3, ↓px_pop, px_k_0, px_k_s, px_k3_0, px_stk_, px_cats, px_ent, px_st1, px_st2, px_mask, ↓px_tsw, ↓px_lsw, ct_, mls_0, mls_1, mls_2, mls_3, mls_4, mls_5, kd_0, kd_1, kd_2, kd_3, ln_0, ln_1, ln_2, ln_3, gf_0, gf_1, gf_2, gf_3, gf_4, gf_7, gf_21, gf_63, dy_0, dy_1, dy_2, dy_3, dy_7, dy_21, px_brT, px_brF, true_and, and_true, and_false, false_and, and_self, true_implies, false_implies, or_true, true_or, or_false, false_or, eq_self, ne_eq, not_false_eq_true, not_true_eq_false, if_true, if_false, List.mem_cons, List.not_mem_nil, List.length_cons, List.length_nil, Nat.reduceEqDiff, Nat.reduceAdd, Nat.reduceSub, Nat.reduceLeDiff, Nat.reduceLT, Int.reduceEq, Int.reduceLT, Int.reduceLE, Int.reduceNeg, Int.reduceAdd, Int.reduceSub, Int.reduceToNat, ↓reduceIte, one_ne_zero_, zero_ne_one_, px_in32L, cd_12]
  repeat' (first | (with_reducible apply And.intro) | (with_reducible refine px_br_intro (fun _ => ?_) (fun _ => ?_)))
  all_goals (try (first | (unfold px_in32; omega) | omega))
  · exact hx M hf (fun x x0 x1 x2 x3 => hg x x0 x1 x2 (by omega))
  · rename_i c1 c2
    have e62 : M 62 = M0 62 := hf 62 (by omega) (by decide) (by decide)
    have e53 : M 53 = M0 53 := hf 53 (by omega) (by decide) (by decide)
    have e61 : M 61 = M0 61 := hf 61 (by omega) (by decide) (by decide)
    rw [e62] at c2
    have hk := cokC (hw c hc0 (by omega) (by omega))
    refine sp_readOne ⟨hc0, by omega⟩ (frR_cw hf hw) (by rw [e53]; exact hv) (by rw [e62]; omega) (fun h => ?_) (fun M' g1 g2 g3 => ?_)
    · rw [e61] at h ⊢
      exact hg _ h (by omega) (by omega) (by omega)
    · simp only [px_go, px_Q0_at, px_sx_0, px_sx_s, px_cl, px_step, ↓px_ll, px_lg, f4_, ↓px_r1, ↓px_r2, ↓px_r4, ↓px_r5, ↓px_p1, ↓px_p2, ↓px_p3, ↓px_pop, px_k_0, px_k_s, px_k3_0, px_stk_, px_cats, px_ent, px_st1, px_st2, px_mask, ↓px_tsw, ↓px_lsw, ct_, mls_0, mls_1, mls_2, mls_3, mls_4, mls_5, kd_0, kd_1, kd_2, kd_3, ln_0, ln_1, ln_2, ln_3, gf_0, gf_1, gf_2, gf_3, gf_4, gf_7, gf_21, gf_63, dy_0, dy_1, dy_2, dy_3, dy_7, dy_21, px_brT, px_brF, true_and, and_true, and_false, false_and, and_self, true_implies, false_implies, or_true, true_or, or_false, false_or, eq_self, ne_eq, not_false_eq_true, not_true_eq_false, if_true, if_false, List.mem_cons, List.not_mem_nil, List.length_cons, List.length_nil, Nat.reduceEqDiff, Nat.reduceAdd, Nat.reduceSub, Nat.reduceLeDiff, Nat.reduceLT, Int.reduceEq, Int.reduceLT, Int.reduceLE, Int.reduceNeg, Int.reduceAdd, Int.reduceSub, Int.reduceToNat, ↓reduceIte, one_ne_zero_, zero_ne_one_, px_in32L, cd_12]
      repeat' (first | (with_reducible apply And.intro) | (with_reducible refine px_br_intro (fun _ => ?_) (fun _ => ?_)))
      all_goals (try (first | (unfold px_in32; omega) | omega))
      refine ih (by omega) M' (by omega) (fun b b0 b1 b2 => by rw [g2 b (by omega) b1 b2]; exact hf b b0 b1 b2) (fun x x0 x1 x2 x3 => ?_)
      by_cases e : x = c
      · rw [e]; exact g1
      · have g3x := g3 x e
        exact gd_keep (hg x x0 x1 x2 (by omega)) (fun b b0 b1 => g2 b (by omega) (by omega) (by omega)) (g2 53 (by omega) (by decide) (by decide)) (g2 (64 + x) (by omega) (by omega) (by omega)) g3x.1 g3x.2
  · rename_i c1 c2
    have e62 : M 62 = M0 62 := hf 62 (by omega) (by decide) (by decide)
    rw [e62] at c2
    exact ih (by omega) M (by omega) hf (fun x x0 x1 x2 x3 => hg x x0 x1 x2 (by
      by_cases e : x = c
      · subst e; omega
      · omega))
set_option maxHeartbeats 600000 in
set_option maxRecDepth 100000 in
theorem lp_readAll {M0 : px_mem} (hw : cw (cC M0) (M0 62)) (hv : bw (M0 53)) (h : ∀ M', frR M' M0 → (∀ x, 0 ≤ x → x < 40 → 0 ≤ M0 62 x → gd M' x) → Q none M') (d : Int) (hk_d : d ≤ 4) : ∀ M, 0 ≤ d → frR M M0 → (∀ x, 0 ≤ x → x < 40 → 0 ≤ M0 62 x → M0 62 x < d → gd M x) → px_WP 12 0 0 (px_Q0 LAY Q) 2 [(2, 56), (0, d), (9, 0)] [] LAY M 0 0 := by
  refine up_ind (P := fun d => ∀ M, 0 ≤ d → frR M M0 → (∀ x, 0 ≤ x → x < 40 → 0 ≤ M0 62 x → M0 62 x < d → gd M x) → px_WP 12 0 0 (px_Q0 LAY Q) 2 [(2, 56), (0, d), (9, 0)] [] LAY M 0 0) (4) (fun d hk_d ih => ?_) d hk_d
  intro M hd0 hf hg
  refine px_go_ok (inl := []) 60 ?_
  simp only [px_go, px_Q0_at, px_sx_0, px_sx_s, px_cl, px_step, ↓px_ll, px_lg, f4_, ↓px_r1, ↓px_r2, ↓px_r4, ↓px_r5, ↓px_p1, ↓px_p2, ↓px_p3, ↓px_pop, px_k_0, px_k_s, px_k3_0, px_stk_, px_cats, px_ent, px_st1, px_st2, px_mask, ↓px_tsw, ↓px_lsw, ct_, mls_0, mls_1, mls_2, mls_3, mls_4, mls_5, kd_0, kd_1, kd_2, kd_3, ln_0, ln_1, ln_2, ln_3, gf_0, gf_1, gf_2, gf_3, gf_4, gf_7, gf_21, gf_63, dy_0, dy_1, dy_2, dy_3, dy_7, dy_21, px_brT, px_brF, true_and, and_true, and_false, false_and, and_self, true_implies, false_implies, or_true, true_or, or_false, false_or, eq_self, ne_eq, not_false_eq_true, not_true_eq_false, if_true, if_false, List.mem_cons, List.not_mem_nil, List.length_cons, List.length_nil, Nat.reduceEqDiff, Nat.reduceAdd, Nat.reduceSub, Nat.reduceLeDiff, Nat.reduceLT, Int.reduceEq, Int.reduceLT, Int.reduceLE, Int.reduceNeg, Int.reduceAdd, Int.reduceSub, Int.reduceToNat, ↓reduceIte, one_ne_zero_, zero_ne_one_, px_in32L, cd_12]
  repeat' (first | (with_reducible apply And.intro) | (with_reducible refine px_br_intro (fun _ => ?_) (fun _ => ?_)))
  all_goals (try (first | (unfold px_in32; omega) | omega))
  · refine h M hf (fun x x0 x1 x2 => hg x x0 x1 x2 ?_)
    have := hw x x0 x1 x2
    unfold cok at this
    omega
  · exact lp_readAll2 hw hv (by omega) (fun M' f1 g1 => ih (by omega) M' (by omega) f1 g1) 0 (by decide) M (Int.le_refl 0) hf (fun x x0 x1 x2 x3 => hg x x0 x1 x2 (by omega))
set_option maxHeartbeats 600000 in
set_option maxRecDepth 100000 in
theorem sp_readAll (hw : cw (cC M) (M 62)) (hv : bw (M 53)) (h : ∀ M', frR M' M → (∀ x, 0 ≤ x → x < 40 → 0 ≤ M 62 x → gd M' x) → Q none M') : px_Ok 12 [(2, 56)] LAY M Q := by
  refine px_ok_go (inl := []) (ls0 := [(2, 56), (9, 0), (9, 0)]) 60 (by decide) (Nat.le_of_ble_eq_true rfl) rfl ?_
  simp only [px_go, px_Q0_at, px_sx_0, px_sx_s, px_cl, px_step, ↓px_ll, px_lg, f4_, ↓px_r1, ↓px_r2, ↓px_r4, ↓px_r5, ↓px_p1, ↓px_p2, ↓px_p3, ↓px_pop, px_k_0, px_k_s, px_k3_0, px_stk_, px_cats, px_ent, px_st1, px_st2, px_mask, ↓px_tsw, ↓px_lsw, ct_, mls_0, mls_1, mls_2, mls_3, mls_4, mls_5, kd_0, kd_1, kd_2, kd_3, ln_0, ln_1, ln_2, ln_3, gf_0, gf_1, gf_2, gf_3, gf_4, gf_7, gf_21, gf_63, dy_0, dy_1, dy_2, dy_3, dy_7, dy_21, px_brT, px_brF, true_and, and_true, and_false, false_and, and_self, true_implies, false_implies, or_true, true_or, or_false, false_or, eq_self, ne_eq, not_false_eq_true, not_true_eq_false, if_true, if_false, List.mem_cons, List.not_mem_nil, List.length_cons, List.length_nil, Nat.reduceEqDiff, Nat.reduceAdd, Nat.reduceSub, Nat.reduceLeDiff, Nat.reduceLT, Int.reduceEq, Int.reduceLT, Int.reduceLE, Int.reduceNeg, Int.reduceAdd, Int.reduceSub, Int.reduceToNat, ↓reduceIte, one_ne_zero_, zero_ne_one_, px_in32L, cd_12]
  repeat' (first | (with_reducible apply And.intro) | (with_reducible refine px_br_intro (fun _ => ?_) (fun _ => ?_)))
  all_goals (try (first | (unfold px_in32; omega) | omega))
  exact lp_readAll hw hv h 0 (by decide) M (Int.le_refl 0) (frR_refl M) (fun x x0 x1 x2 x3 => by omega)
end PS
