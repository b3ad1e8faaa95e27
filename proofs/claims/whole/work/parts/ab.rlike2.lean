/-! the reference: like, second half (draft: lk3's kernel check explodes) -/
section PS
variable {M : px_mem} {Q : Option pv → px_mem → Prop}
set_option maxHeartbeats 4000000 in
set_option maxRecDepth 100000 in
theorem lk3_t {a n k v i : Int} (hi : 0 < i ∧ i ≤ 12) (h : px_WP 274 0 0 (px_Q0 LAY Q) 132 [(2, 127), (0, a), (0, n), (0, k), (0, v), (0, i - 1)] [] LAY (px_up M 150 i 1) 0 0) : px_WP 274 0 0 (px_Q0 LAY Q) 194 [(2, 127), (0, a), (0, n), (0, k), (0, v), (0, i)] [(0, i), (2, 150)] LAY M 0 0 := by
  refine px_go_ok (inl := []) 60 ?_
  simp only [px_go, px_Q0_at, px_sx_0, px_sx_s, px_cl, px_step, ↓px_ll, px_lg, f4_, ↓px_r1, ↓px_r2, ↓px_r4, ↓px_r5, ↓px_p1, ↓px_p2, ↓px_p3, ↓px_pop, px_k_0, px_k_s, px_k3_0, px_stk_, px_cats, px_ent, px_st1, px_st2, px_mask, ↓px_tsw, ↓px_lsw, ct_, mls_0, mls_1, mls_2, mls_3, mls_4, mls_5, kd_0, kd_1, kd_2, kd_3, ln_0, ln_1, ln_2, ln_3, gf_0, gf_1, gf_2, gf_3, gf_4, gf_7, gf_21, gf_63, dy_0, dy_1, dy_2, dy_3, dy_7, dy_21, px_brT, px_brF, true_and, and_true, and_false, false_and, and_self, true_implies, false_implies, or_true, true_or, or_false, false_or, eq_self, ne_eq, not_false_eq_true, not_true_eq_false, if_true, if_false, List.mem_cons, List.not_mem_nil, List.length_cons, List.length_nil, Nat.reduceEqDiff, Nat.reduceAdd, Nat.reduceSub, Nat.reduceLeDiff, Nat.reduceLT, Int.reduceEq, Int.reduceLT, Int.reduceLE, Int.reduceNeg, Int.reduceAdd, Int.reduceSub, Int.reduceToNat, ↓reduceIte, one_ne_zero_, zero_ne_one_, px_in32L, cd_274]
  repeat' (first | (with_reducible apply And.intro) | (with_reducible refine px_br_intro (fun _ => ?_) (fun _ => ?_)))
  all_goals (try (first | (unfold px_in32; omega) | omega))
  exact h
set_option maxHeartbeats 4000000 in
set_option maxRecDepth 100000 in
theorem lk3_f {a n k v i : Int} (hi : 0 < i ∧ i ≤ 12) (h : px_WP 274 0 0 (px_Q0 LAY Q) 132 [(2, 127), (0, a), (0, n), (0, k), (0, v), (0, i - 1)] [] LAY (px_up M 150 i 0) 0 0) : px_WP 274 0 0 (px_Q0 LAY Q) 198 [(2, 127), (0, a), (0, n), (0, k), (0, v), (0, i)] [(0, i), (2, 150)] LAY M 0 0 := by
  refine px_go_ok (inl := []) 60 ?_
  simp only [px_go, px_Q0_at, px_sx_0, px_sx_s, px_cl, px_step, ↓px_ll, px_lg, f4_, ↓px_r1, ↓px_r2, ↓px_r4, ↓px_r5, ↓px_p1, ↓px_p2, ↓px_p3, ↓px_pop, px_k_0, px_k_s, px_k3_0, px_stk_, px_cats, px_ent, px_st1, px_st2, px_mask, ↓px_tsw, ↓px_lsw, ct_, mls_0, mls_1, mls_2, mls_3, mls_4, mls_5, kd_0, kd_1, kd_2, kd_3, ln_0, ln_1, ln_2, ln_3, gf_0, gf_1, gf_2, gf_3, gf_4, gf_7, gf_21, gf_63, dy_0, dy_1, dy_2, dy_3, dy_7, dy_21, px_brT, px_brF, true_and, and_true, and_false, false_and, and_self, true_implies, false_implies, or_true, true_or, or_false, false_or, eq_self, ne_eq, not_false_eq_true, not_true_eq_false, if_true, if_false, List.mem_cons, List.not_mem_nil, List.length_cons, List.length_nil, Nat.reduceEqDiff, Nat.reduceAdd, Nat.reduceSub, Nat.reduceLeDiff, Nat.reduceLT, Int.reduceEq, Int.reduceLT, Int.reduceLE, Int.reduceNeg, Int.reduceAdd, Int.reduceSub, Int.reduceToNat, ↓reduceIte, one_ne_zero_, zero_ne_one_, px_in32L, cd_274]
  repeat' (first | (with_reducible apply And.intro) | (with_reducible refine px_br_intro (fun _ => ?_) (fun _ => ?_)))
  all_goals (try (first | (unfold px_in32; omega) | omega))
  exact h
set_option maxHeartbeats 4000000 in
set_option maxRecDepth 100000 in
theorem lk3_g {a n k v i : Int} (h : px_WP 274 0 0 (px_Q0 LAY Q) 194 [(2, 127), (0, a), (0, n), (0, k), (0, v), (0, i)] [(0, i), (2, 150)] LAY M 0 0) : px_WP 274 0 0 (px_Q0 LAY Q) 177 [(2, 127), (0, a), (0, n), (0, k), (0, v), (0, i)] [(0, i), (2, 150)] LAY M 0 0 := by
  refine px_go_ok (inl := []) 0 ?_
  simp only [px_go, px_Q0_at, px_sx_0, px_sx_s, px_cl, px_step, ↓px_ll, px_lg, f4_, ↓px_r1, ↓px_r2, ↓px_r4, ↓px_r5, ↓px_p1, ↓px_p2, ↓px_p3, ↓px_pop, px_k_0, px_k_s, px_k3_0, px_stk_, px_cats, px_ent, px_st1, px_st2, px_mask, ↓px_tsw, ↓px_lsw, ct_, mls_0, mls_1, mls_2, mls_3, mls_4, mls_5, kd_0, kd_1, kd_2, kd_3, ln_0, ln_1, ln_2, ln_3, gf_0, gf_1, gf_2, gf_3, gf_4, gf_7, gf_21, gf_63, dy_0, dy_1, dy_2, dy_3, dy_7, dy_21, px_brT, px_brF, true_and, and_true, and_false, false_and, and_self, true_implies, false_implies, or_true, true_or, or_false, false_or, eq_self, ne_eq, not_false_eq_true, not_true_eq_false, if_true, if_false, List.mem_cons, List.not_mem_nil, List.length_cons, List.length_nil, Nat.reduceEqDiff, Nat.reduceAdd, Nat.reduceSub, Nat.reduceLeDiff, Nat.reduceLT, Int.reduceEq, Int.reduceLT, Int.reduceLE, Int.reduceNeg, Int.reduceAdd, Int.reduceSub, Int.reduceToNat, ↓reduceIte, one_ne_zero_, zero_ne_one_, px_in32L, cd_274]
  exact h
set_option maxHeartbeats 4000000 in
set_option maxRecDepth 100000 in
theorem lk3_a {a n k v i r y : Int} (hi : 0 < i ∧ i ≤ 12) (hr : (r = 0 ∧ y = 0) ∨ (r = 1 ∧ y = 1)) (h : px_WP 274 0 0 (px_Q0 LAY Q) 132 [(2, 127), (0, a), (0, n), (0, k), (0, v), (0, i - 1)] [] LAY (px_up M 150 i y) 0 0) : px_WP 274 0 0 (px_Q0 LAY Q) 174 [(2, 127), (0, a), (0, n), (0, k), (0, v), (0, i)] [(0, r), (0, i), (2, 150)] LAY M 0 0 := by
  rcases hr with ⟨e1, e2⟩ | ⟨e1, e2⟩ <;> subst e1 <;> subst e2
  · refine px_go_ok (inl := []) 0 ?_
    simp only [px_go, px_Q0_at, px_sx_0, px_sx_s, px_cl, px_step, ↓px_ll, px_lg, f4_, ↓px_r1, ↓px_r2, ↓px_r4, ↓px_r5, ↓px_p1, ↓px_p2, ↓px_p3, ↓px_pop, px_k_0, px_k_s, px_k3_0, px_stk_, px_cats, px_ent, px_st1, px_st2, px_mask, ↓px_tsw, ↓px_lsw, ct_, mls_0, mls_1, mls_2, mls_3, mls_4, mls_5, kd_0, kd_1, kd_2, kd_3, ln_0, ln_1, ln_2, ln_3, gf_0, gf_1, gf_2, gf_3, gf_4, gf_7, gf_21, gf_63, dy_0, dy_1, dy_2, dy_3, dy_7, dy_21, px_brT, px_brF, true_and, and_true, and_false, false_and, and_self, true_implies, false_implies, or_true, true_or, or_false, false_or, eq_self, ne_eq, not_false_eq_true, not_true_eq_false, if_true, if_false, List.mem_cons, List.not_mem_nil, List.length_cons, List.length_nil, Nat.reduceEqDiff, Nat.reduceAdd, Nat.reduceSub, Nat.reduceLeDiff, Nat.reduceLT, Int.reduceEq, Int.reduceLT, Int.reduceLE, Int.reduceNeg, Int.reduceAdd, Int.reduceSub, Int.reduceToNat, ↓reduceIte, one_ne_zero_, zero_ne_one_, px_in32L, cd_274]
    exact lk3_f hi h
  · refine px_go_ok (inl := []) 0 ?_
    simp only [px_go, px_Q0_at, px_sx_0, px_sx_s, px_cl, px_step, ↓px_ll, px_lg, f4_, ↓px_r1, ↓px_r2, ↓px_r4, ↓px_r5, ↓px_p1, ↓px_p2, ↓px_p3, ↓px_pop, px_k_0, px_k_s, px_k3_0, px_stk_, px_cats, px_ent, px_st1, px_st2, px_mask, ↓px_tsw, ↓px_lsw, ct_, mls_0, mls_1, mls_2, mls_3, mls_4, mls_5, kd_0, kd_1, kd_2, kd_3, ln_0, ln_1, ln_2, ln_3, gf_0, gf_1, gf_2, gf_3, gf_4, gf_7, gf_21, gf_63, dy_0, dy_1, dy_2, dy_3, dy_7, dy_21, px_brT, px_brF, true_and, and_true, and_false, false_and, and_self, true_implies, false_implies, or_true, true_or, or_false, false_or, eq_self, ne_eq, not_false_eq_true, not_true_eq_false, if_true, if_false, List.mem_cons, List.not_mem_nil, List.length_cons, List.length_nil, Nat.reduceEqDiff, Nat.reduceAdd, Nat.reduceSub, Nat.reduceLeDiff, Nat.reduceLT, Int.reduceEq, Int.reduceLT, Int.reduceLE, Int.reduceNeg, Int.reduceAdd, Int.reduceSub, Int.reduceToNat, ↓reduceIte, one_ne_zero_, zero_ne_one_, px_in32L, cd_274]
    exact lk3_g (lk3_t hi h)
set_option maxHeartbeats 4000000 in
set_option maxRecDepth 100000 in
theorem lk3_b {a n k v i x y : Int} (hi : 0 < i ∧ i ≤ 12) (hr : (v = x ∧ y = 1) ∨ (¬ v = x ∧ y = 0)) (h : px_WP 274 0 0 (px_Q0 LAY Q) 132 [(2, 127), (0, a), (0, n), (0, k), (0, v), (0, i - 1)] [] LAY (px_up M 150 i y) 0 0) : px_WP 274 0 0 (px_Q0 LAY Q) 191 [(2, 127), (0, a), (0, n), (0, k), (0, v), (0, i)] [(0, x), (0, v), (0, i), (2, 150)] LAY M 0 0 := by
  refine px_go_ok (inl := []) 0 ?_
  simp only [px_go, px_Q0_at, px_sx_0, px_sx_s, px_cl, px_step, ↓px_ll, px_lg, f4_, ↓px_r1, ↓px_r2, ↓px_r4, ↓px_r5, ↓px_p1, ↓px_p2, ↓px_p3, ↓px_pop, px_k_0, px_k_s, px_k3_0, px_stk_, px_cats, px_ent, px_st1, px_st2, px_mask, ↓px_tsw, ↓px_lsw, ct_, mls_0, mls_1, mls_2, mls_3, mls_4, mls_5, kd_0, kd_1, kd_2, kd_3, ln_0, ln_1, ln_2, ln_3, gf_0, gf_1, gf_2, gf_3, gf_4, gf_7, gf_21, gf_63, dy_0, dy_1, dy_2, dy_3, dy_7, dy_21, px_brT, px_brF, true_and, and_true, and_false, false_and, and_self, true_implies, false_implies, or_true, true_or, or_false, false_or, eq_self, ne_eq, not_false_eq_true, not_true_eq_false, if_true, if_false, List.mem_cons, List.not_mem_nil, List.length_cons, List.length_nil, Nat.reduceEqDiff, Nat.reduceAdd, Nat.reduceSub, Nat.reduceLeDiff, Nat.reduceLT, Int.reduceEq, Int.reduceLT, Int.reduceLE, Int.reduceNeg, Int.reduceAdd, Int.reduceSub, Int.reduceToNat, ↓reduceIte, one_ne_zero_, zero_ne_one_, px_in32L, cd_274]
  repeat' (first | (with_reducible apply And.intro) | (with_reducible refine px_br_intro (fun _ => ?_) (fun _ => ?_)))
  · rcases hr with z | z
    · rw [z.2] at h; exact lk3_t hi h
    · exact absurd (by assumption) z.1
  · rcases hr with z | z
    · exact absurd z.1 (by assumption)
    · rw [z.2] at h; exact lk3_f hi h
set_option maxHeartbeats 600000 in
set_option maxRecDepth 100000 in
theorem lp_lk3 {M0 : px_mem} {a n k v : Int} {l : List Int} {W : Int → Prop} (hl : pby (M0 128) a n l) (hk : 0 ≤ k ∧ k ≤ 12) (hv : v ≠ 42) (hx : ∀ M, frl M M0 → rwI M (fun j => fs l v W j.toNat) n → px_WP 274 0 0 (px_Q0 LAY Q) 37 [(2, 127), (0, a), (0, n), (0, k + 1), (9, 0), (9, 0)] [] LAY M 0 0) (i : Int) (hk_i : 0 ≤ i) : ∀ M, i ≤ n → frl M M0 → (∀ j, i < j → j ≤ n → M 150 j = b1 (fs l v W j.toNat)) → (∀ j, 0 ≤ j → j ≤ i → M 150 j = b1 (W j)) → px_WP 274 0 0 (px_Q0 LAY Q) 132 [(2, 127), (0, a), (0, n), (0, k), (0, v), (0, i)] [] LAY M 0 0 := by
  refine dn_ind (P := fun i => ∀ M, i ≤ n → frl M M0 → (∀ j, i < j → j ≤ n → M 150 j = b1 (fs l v W j.toNat)) → (∀ j, 0 ≤ j → j ≤ i → M 150 j = b1 (W j)) → px_WP 274 0 0 (px_Q0 LAY Q) 132 [(2, 127), (0, a), (0, n), (0, k), (0, v), (0, i)] [] LAY M 0 0) (0) (fun i hk_i ih => ?_) i hk_i
  intro M i1 hf hlo hhi
  have e128 : M 128 = M0 128 := hf 128 (by decide)
  have hn := hl.2.1
  have hb := hl.2.2.1
  have hj := fun q => hl.2.2.2.2 (i - 1) q (by omega)
  rw [show a + 1 + (i - 1) = a + i by omega] at hj
  have hW := fun q => hhi (i - 1) q (by omega)
  have hfs := fun q : 0 ≤ i - 1 => fs_s l v W q
  rw [show i - 1 + 1 = i by omega] at hfs
  have hsg : 1 < sg (M0 128 (a + i)) ↔ (97 ≤ M0 128 (a + i) ∧ M0 128 (a + i) ≤ 122) := by unfold sg; split <;> (try split) <;> omega
  have hgo : 0 < i → ∀ y, y = b1 (fs l v W i.toNat) → px_WP 274 0 0 (px_Q0 LAY Q) 132 [(2, 127), (0, a), (0, n), (0, k), (0, v), (0, i - 1)] [] LAY (px_up M 150 i y) 0 0 := fun q y ey => by
    refine ih (by omega) _ (by omega) (frl_up hf) (fun j j0 j1 => ?_) (fun j j0 j1 => ?_)
    · by_cases z : j = i
      · rw [z, upe]; exact ey
      · rw [upn z]; exact hlo j (by omega) j1
    · rw [upn (by omega)]; exact hhi j j0 (by omega)
  have hW0 : 0 ≤ i - 1 → (M 150 (i - 1) = 0 ↔ ¬ W (i - 1)) := fun q => by
    rw [hW q]
    exact ⟨fun z y => by rw [b1_t y] at z; omega, fun z => b1_f z⟩
  clear ih
  refine px_go_ok (inl := []) 21 ?_
  simp only [px_go, px_Q0_at, px_sx_0, px_sx_s, px_cl, px_step, ↓px_ll, px_lg, f4_, ↓px_r1, ↓px_r2, ↓px_r4, ↓px_r5, ↓px_p1, ↓px_p2, ↓px_p3, ↓px_pop, px_k_0, px_k_s, px_k3_0, px_stk_, px_cats, px_ent, px_st1, px_st2, px_mask, ↓px_tsw, ↓px_lsw, ct_, mls_0, mls_1, mls_2, mls_3, mls_4, mls_5, kd_0, kd_1, kd_2, kd_3, ln_0, ln_1, ln_2, ln_3, gf_0, gf_1, gf_2, gf_3, gf_4, gf_7, gf_21, gf_63, dy_0, dy_1, dy_2, dy_3, dy_7, dy_21, px_brT, px_brF, true_and, and_true, and_false, false_and, and_self, true_implies, false_implies, or_true, true_or, or_false, false_or, eq_self, ne_eq, not_false_eq_true, not_true_eq_false, if_true, if_false, List.mem_cons, List.not_mem_nil, List.length_cons, List.length_nil, Nat.reduceEqDiff, Nat.reduceAdd, Nat.reduceSub, Nat.reduceLeDiff, Nat.reduceLT, Int.reduceEq, Int.reduceLT, Int.reduceLE, Int.reduceNeg, Int.reduceAdd, Int.reduceSub, Int.reduceToNat, ↓reduceIte, one_ne_zero_, zero_ne_one_, px_in32L, cd_274, e128]
  repeat' (first | (with_reducible apply And.intro) | (with_reducible refine px_br_intro (fun _ => ?_) (fun _ => ?_)))
  all_goals (try (clear hlo hhi hx hf hl e128 hgo hW0 hW hfs hsg hj; first | (unfold px_in32; omega) | omega))
  · rename_i c1
    refine hx _ (frl_up hf) (fun j j0 j1 => ?_)
    by_cases q : j = 0
    · rw [q, upe, b1_f (fun z => hv z.1)]
    · rw [upn q]; exact hlo j (by omega) j1
  · rename_i c1 c2
    refine hgo (by omega) 0 (b1_f (fun z => ?_)).symm
    rcases (hfs (by omega)).mp z with y | y | y
    · exact hv y.1
    · exact (hW0 (by omega)).mp c2 y.2.1
    · exact (hW0 (by omega)).mp c2 y.2.2.1
  · rename_i c1 c2 c3
    refine sp_isLetter (fun c4 => ?_) (fun c4 => ?_)
    · refine lk3_a ⟨by omega, by omega⟩ (Or.inr ⟨rfl, rfl⟩) (hgo (by omega) 1 (b1_t ?_).symm)
      refine (hfs (by omega)).mpr (Or.inr (Or.inl ⟨c3, Classical.byContradiction (fun z => c2 ((hW0 (by omega)).mpr z)), ?_⟩))
      rw [(hj (by omega)).1]
      exact hsg.mpr c4
    · refine lk3_a ⟨by omega, by omega⟩ (Or.inl ⟨rfl, rfl⟩) (hgo (by omega) 0 (b1_f (fun z => ?_)).symm)
      rcases (hfs (by omega)).mp z with y | y | y
      · exact hv y.1
      · have := y.2.2
        rw [(hj (by omega)).1] at this
        exact c4 (hsg.mp this)
      · exact y.2.1 c3
  · rename_i c1 c2 c3
    by_cases c4 : v = M0 128 (a + i)
    · refine lk3_b ⟨by omega, by omega⟩ (Or.inl ⟨c4, rfl⟩) (hgo (by omega) 1 (b1_t ?_).symm)
      refine (hfs (by omega)).mpr (Or.inr (Or.inr ⟨hv, c3, Classical.byContradiction (fun z => c2 ((hW0 (by omega)).mpr z)), ?_⟩))
      rw [(hj (by omega)).1]
      exact ⟨(hj (by omega)).2, by rw [c4]⟩
    · refine lk3_b ⟨by omega, by omega⟩ (Or.inr ⟨c4, rfl⟩) (hgo (by omega) 0 (b1_f (fun z => ?_)).symm)
      rcases (hfs (by omega)).mp z with y | y | y
      · exact hv y.1
      · exact c3 y.1
      · have h1 := y.2.2.2.2
        rw [(hj (by omega)).1] at h1
        exact c4 (sg_inj h1 (hj (by omega)).2).symm
set_option maxHeartbeats 600000 in
set_option maxRecDepth 100000 in
theorem lp_lk1 {M0 : px_mem} {a n q : Int} {l : List Int} {p : Int → Int} (hl : pby (M0 128) a n l) (hq : 0 ≤ q ∧ q ≤ 12) (hp0 : M0 131 0 = q) (hp : ∀ j, 0 ≤ j → j < q → M0 131 (1 + j) = p j) (h1 : ∀ M, frl M M0 → ftK l p q.toNat n → Q (some (0, 1)) M) (h0 : ∀ M, frl M M0 → ¬ ftK l p q.toNat n → Q (some (0, 0)) M) (k : Int) (hk_k : k ≤ q+1) : ∀ M, 1 ≤ k → frl M M0 → rwI M (fun j => ftK l p (k - 1).toNat j) n → px_WP 274 0 0 (px_Q0 LAY Q) 37 [(2, 127), (0, a), (0, n), (0, k), (9, 0), (9, 0)] [] LAY M 0 0 := by
  refine up_ind (P := fun k => ∀ M, 1 ≤ k → frl M M0 → rwI M (fun j => ftK l p (k - 1).toNat j) n → px_WP 274 0 0 (px_Q0 LAY Q) 37 [(2, 127), (0, a), (0, n), (0, k), (9, 0), (9, 0)] [] LAY M 0 0) (q+1) (fun k hk_k ih => ?_) k hk_k
  intro M k1 hf hm
  have hn := hl.2.1
  have e131 : M 131 = M0 131 := hf 131 (by decide)
  have hpk := hp (k - 1) (by omega)
  rw [show 1 + (k - 1) = k by omega] at hpk
  have hstep : ∀ M1, frl M1 M0 → rwI M1 (fun j => fs l (p (k - 1)) (ftK l p (k - 1).toNat) j.toNat) n → rwI M1 (fun j => ftK l p (k + 1 - 1).toNat j) n := fun M1 a1 a2 j j0 j1 => by
    rw [a2 j j0 j1]
    refine b1_congr ?_
    show fs l (p (k - 1)) (ftK l p (k - 1).toNat) j.toNat ↔ ftK l p (k + 1 - 1).toNat j
    rw [show k + 1 - 1 = (k - 1) + 1 by omega, ftK_s l p (by omega)]
    exact ⟨fun z => ⟨j0, z⟩, fun z => z.2⟩
  have hr := b1_rng (ftK l p (k - 1).toNat n)
  refine px_go_ok (inl := []) 60 ?_
  simp only [px_go, px_Q0_at, px_sx_0, px_sx_s, px_cl, px_step, ↓px_ll, px_lg, f4_, ↓px_r1, ↓px_r2, ↓px_r4, ↓px_r5, ↓px_p1, ↓px_p2, ↓px_p3, ↓px_pop, px_k_0, px_k_s, px_k3_0, px_stk_, px_cats, px_ent, px_st1, px_st2, px_mask, ↓px_tsw, ↓px_lsw, ct_, mls_0, mls_1, mls_2, mls_3, mls_4, mls_5, kd_0, kd_1, kd_2, kd_3, ln_0, ln_1, ln_2, ln_3, gf_0, gf_1, gf_2, gf_3, gf_4, gf_7, gf_21, gf_63, dy_0, dy_1, dy_2, dy_3, dy_7, dy_21, px_brT, px_brF, true_and, and_true, and_false, false_and, and_self, true_implies, false_implies, or_true, true_or, or_false, false_or, eq_self, ne_eq, not_false_eq_true, not_true_eq_false, if_true, if_false, List.mem_cons, List.not_mem_nil, List.length_cons, List.length_nil, Nat.reduceEqDiff, Nat.reduceAdd, Nat.reduceSub, Nat.reduceLeDiff, Nat.reduceLT, Int.reduceEq, Int.reduceLT, Int.reduceLE, Int.reduceNeg, Int.reduceAdd, Int.reduceSub, Int.reduceToNat, ↓reduceIte, one_ne_zero_, zero_ne_one_, px_in32L, cd_274, e131, hp0]
  repeat' (first | (with_reducible apply And.intro) | (with_reducible refine px_br_intro (fun _ => ?_) (fun _ => ?_)))
  all_goals (try (first | (unfold px_in32; omega) | omega))
  · rename_i c1
    have := hm n hn.1 (Int.le_refl n)
    have := b1_rng ((fun j => ftK l p (k - 1).toNat j) n)
    omega
  · rename_i c1
    have ek : k - 1 = q := by omega
    have := hm n hn.1 (Int.le_refl n)
    rw [ek] at this
    by_cases z : ftK l p q.toNat n
    · have h1 := h1 M hf z
      rw [this, b1_t z]; exact h1
    · have h0 := h0 M hf z
      rw [this, b1_f z]; exact h0
  · rename_i c1 c2
    have ep : p (k - 1) = 42 := by rw [← hpk (by omega)]; exact c2
    rw [ep] at hstep
    refine lp_lk2 hl (by omega) (fun M1 a1 a2 => ih (by omega) M1 (by omega) a1 (hstep M1 a1 a2)) 1 (by omega) M (Int.le_refl 1) hf (fun j j0 j1 => ?_) (fun j j0 j1 => hm j (by omega) j1)
    have ej : j = 0 := by omega
    rw [ej, hm 0 (Int.le_refl 0) hn.1]
    exact b1_congr ⟨fun z => ⟨rfl, z⟩, fun z => z.2⟩
  · rename_i c1 c2
    have ep : p (k - 1) = M0 131 k := (hpk (by omega)).symm
    rw [ep] at hstep
    exact lp_lk3 hl (by omega) c2 (fun M1 a1 a2 => ih (by omega) M1 (by omega) a1 (hstep M1 a1 a2)) n hn.1 M (Int.le_refl n) hf (fun j j0 j1 => by omega) (fun j j0 j1 => hm j j0 j1)
set_option maxHeartbeats 600000 in
set_option maxRecDepth 100000 in
theorem sp_isLike {a n q : Int} {l : List Int} {p : Int → Int} (hl : pby (M 128) a n l) (hq : 0 ≤ q ∧ q ≤ 12) (hp0 : M 131 0 = q) (hp : ∀ j, 0 ≤ j → j < q → M 131 (1 + j) = p j) (h1 : ∀ M', frl M' M → ftK l p q.toNat n → Q (some (0, 1)) M') (h0 : ∀ M', frl M' M → ¬ ftK l p q.toNat n → Q (some (0, 0)) M') : px_Ok 274 [(2, 127), (0, a)] LAY M Q := by
  have e0 := hl.1
  have hb := hl.2.2.1
  have hn := hl.2.1
  refine px_ok_go (inl := []) (ls0 := [(2, 127), (0, a), (9, 0), (9, 0), (9, 0), (9, 0)]) 60 (by decide) (Nat.le_of_ble_eq_true rfl) rfl ?_
  simp only [px_go, px_Q0_at, px_sx_0, px_sx_s, px_cl, px_step, ↓px_ll, px_lg, f4_, ↓px_r1, ↓px_r2, ↓px_r4, ↓px_r5, ↓px_p1, ↓px_p2, ↓px_p3, ↓px_pop, px_k_0, px_k_s, px_k3_0, px_stk_, px_cats, px_ent, px_st1, px_st2, px_mask, ↓px_tsw, ↓px_lsw, ct_, mls_0, mls_1, mls_2, mls_3, mls_4, mls_5, kd_0, kd_1, kd_2, kd_3, ln_0, ln_1, ln_2, ln_3, gf_0, gf_1, gf_2, gf_3, gf_4, gf_7, gf_21, gf_63, dy_0, dy_1, dy_2, dy_3, dy_7, dy_21, px_brT, px_brF, true_and, and_true, and_false, false_and, and_self, true_implies, false_implies, or_true, true_or, or_false, false_or, eq_self, ne_eq, not_false_eq_true, not_true_eq_false, if_true, if_false, List.mem_cons, List.not_mem_nil, List.length_cons, List.length_nil, Nat.reduceEqDiff, Nat.reduceAdd, Nat.reduceSub, Nat.reduceLeDiff, Nat.reduceLT, Int.reduceEq, Int.reduceLT, Int.reduceLE, Int.reduceNeg, Int.reduceAdd, Int.reduceSub, Int.reduceToNat, ↓reduceIte, one_ne_zero_, zero_ne_one_, px_in32L, cd_274, e0]
  repeat' (first | (with_reducible apply And.intro) | (with_reducible refine px_br_intro (fun _ => ?_) (fun _ => ?_)))
  all_goals (try (first | (unfold px_in32; omega) | omega))
  exact lp_lk0 hn (fun M1 a1 a2 => lp_lk1 (M0 := M) hl hq hp0 hp h1 h0 1 (by omega) M1 (Int.le_refl 1) a1 a2) 0 (by omega) M (Int.le_refl 0) (frl_refl M) (fun j j0 j1 => by omega)
end PS
