/-! EditionVault.Stage: renaming, doubling, filling -/
theorem stF_frame {M M' : px_mem} {n : Int} {g : Int → fe} (h : stC M n g) (hf : ∀ b, 4 ≤ b → b < 20 → M' b = M b) : stC M' n g := by
  obtain ⟨a1, a2, a3, a4, a5⟩ := h
  have e7 := hf 7 (by decide) (by decide)
  refine ⟨by rw [hf 4 (by decide) (by decide)]; exact a1, a2, a3, by unfold rwC at a4 ⊢; rw [e7]; exact a4, fun i i0 i1 => ?_⟩
  have := a4.1 i i0 (by omega)
  exact fC_frame (a5 i i0 i1) (by rw [hf 5 (by decide) (by decide)]) (by rw [hf 6 (by decide) (by decide)]) e7 (hf _ (by omega) (by omega))
theorem stC_congr {M : px_mem} {n : Int} {g g' : Int → fe} (h : stC M n g) (e : ∀ i, 0 ≤ i → i < n → g' i = g i) : stC M n g' :=
  ⟨h.1, h.2.1, h.2.2.1, h.2.2.2.1, fun i i0 i1 => by rw [e i i0 i1]; exact h.2.2.2.2 i i0 i1⟩
theorem isM_congr {n : Int} {g g' : Int → fe} (e : ∀ i, 0 ≤ i → i < n → g' i = g i) (y : fe) : isM n g' y ↔ isM n g y := by
  unfold isM
  constructor
  · rintro ⟨i, i0, i1, i2⟩; exact ⟨i, i0, i1, by rw [← e i i0 i1]; exact i2⟩
  · rintro ⟨i, i0, i1, i2⟩; exact ⟨i, i0, i1, by rw [e i i0 i1]; exact i2⟩
theorem dst_congr {n : Int} {g g' : Int → fe} (h : dst n g) (e : ∀ i, 0 ≤ i → i < n → g' i = g i) : dst n g' := fun i j i0 i1 j0 j1 q => by
  rw [e i i0 i1, e j j0 j1] at q
  exact h i j i0 i1 j0 j1 q
section PS
variable {M : px_mem} {Q : Option pv → px_mem → Prop}
set_option maxHeartbeats 600000 in
set_option maxRecDepth 100000 in
theorem lp_canR {n : Int} {g : Int → fe} {f t q : List Int} (hst : stC M n g) (hp : okp f) (ht : okp t) (htn : t ≠ []) (hq : okp q) (h1 : canR n g f t q → Q (some (0, 1)) M) (h0 : ¬ canR n g f t q → Q (some (0, 0)) M) (k : Int) (hk_k : k ≤ n) : 0 ≤ k → (∀ i, 0 ≤ i → i < k → wi (g i).1 f → ((g i).1.length : Int) - f.length + t.length ≤ 12 ∧ ¬ mtg n g (rnp f t (g i).1) q) → px_WP 94 0 0 (px_Q0 LAY Q) 3 [(2, 4), (1, enc f), (9, 0), (1, enc t), (9, 0), (1, enc q), (9, 0), (0, k), (9, 0), (9, 0)] [] LAY M 0 0 := by
  refine up_ind (P := fun k => 0 ≤ k → (∀ i, 0 ≤ i → i < k → wi (g i).1 f → ((g i).1.length : Int) - f.length + t.length ≤ 12 ∧ ¬ mtg n g (rnp f t (g i).1) q) → px_WP 94 0 0 (px_Q0 LAY Q) 3 [(2, 4), (1, enc f), (9, 0), (1, enc t), (9, 0), (1, enc q), (9, 0), (0, k), (9, 0), (9, 0)] [] LAY M 0 0) (n) (fun k hk_k ih => ?_) k hk_k
  intro k0 hl
  have hM := hst.1
  have hn := hst.2.1
  have hn2 := hst.2.2.1
  have hnx : (wi (g k).1 f → ((g k).1.length : Int) - f.length + t.length ≤ 12 ∧ ¬ mtg n g (rnp f t (g k).1) q) → ∀ i, 0 ≤ i → i < k + 1 → wi (g i).1 f → ((g i).1.length : Int) - f.length + t.length ≤ 12 ∧ ¬ mtg n g (rnp f t (g i).1) q := fun z i i0 i1 => by
    by_cases e : i = k
    · rw [e]; exact z
    · exact hl i i0 (by omega)
  refine px_go_ok (inl := []) 60 ?_
  simp only [px_go, px_Q0_at, px_sx_0, px_sx_s, px_cl, px_step, ↓px_ll, px_lg, f4_, ↓px_r1, ↓px_r2, ↓px_r4, ↓px_r5, ↓px_p1, ↓px_p2, ↓px_p3, ↓px_pop, px_k_0, px_k_s, px_k3_0, px_stk_, px_cats, px_ent, px_st1, px_st2, px_mask, ↓px_tsw, ↓px_lsw, ct_, mls_0, mls_1, mls_2, mls_3, mls_4, mls_5, kd_0, kd_1, kd_2, kd_3, ln_0, ln_1, ln_2, ln_3, gf_0, gf_1, gf_2, gf_3, gf_4, gf_7, gf_21, gf_63, dy_0, dy_1, dy_2, dy_3, dy_7, dy_21, px_brT, px_brF, true_and, and_true, and_false, false_and, and_self, true_implies, false_implies, or_true, true_or, or_false, false_or, eq_self, ne_eq, not_false_eq_true, not_true_eq_false, if_true, if_false, List.mem_cons, List.not_mem_nil, List.length_cons, List.length_nil, Nat.reduceEqDiff, Nat.reduceAdd, Nat.reduceSub, Nat.reduceLeDiff, Nat.reduceLT, Int.reduceEq, Int.reduceLT, Int.reduceLE, Int.reduceNeg, Int.reduceAdd, Int.reduceSub, Int.reduceToNat, ↓reduceIte, one_ne_zero_, zero_ne_one_, px_in32L, cd_94, hM]
  repeat' (first | (with_reducible apply And.intro) | (with_reducible refine px_br_intro (fun _ => ?_) (fun _ => ?_)))
  all_goals (try (first | (unfold px_in32; omega) | omega))
  · rename_i c1
    exact h1 (fun i i0 i1 => hl i i0 (by omega))
  · rename_i c1
    have fk := hst.2.2.2.2 k k0 (by omega)
    rw [fk.2.1]
    refine sp_isWithin fk.1 hp (fun w1 => ?_) (fun w1 => ?_)
    · simp only [px_go, px_Q0_at, px_sx_0, px_sx_s, px_cl, px_step, ↓px_ll, px_lg, f4_, ↓px_r1, ↓px_r2, ↓px_r4, ↓px_r5, ↓px_p1, ↓px_p2, ↓px_p3, ↓px_pop, px_k_0, px_k_s, px_k3_0, px_stk_, px_cats, px_ent, px_st1, px_st2, px_mask, ↓px_tsw, ↓px_lsw, ct_, mls_0, mls_1, mls_2, mls_3, mls_4, mls_5, kd_0, kd_1, kd_2, kd_3, ln_0, ln_1, ln_2, ln_3, gf_0, gf_1, gf_2, gf_3, gf_4, gf_7, gf_21, gf_63, dy_0, dy_1, dy_2, dy_3, dy_7, dy_21, px_brT, px_brF, true_and, and_true, and_false, false_and, and_self, true_implies, false_implies, or_true, true_or, or_false, false_or, eq_self, ne_eq, not_false_eq_true, not_true_eq_false, if_true, if_false, List.mem_cons, List.not_mem_nil, List.length_cons, List.length_nil, Nat.reduceEqDiff, Nat.reduceAdd, Nat.reduceSub, Nat.reduceLeDiff, Nat.reduceLT, Int.reduceEq, Int.reduceLT, Int.reduceLE, Int.reduceNeg, Int.reduceAdd, Int.reduceSub, Int.reduceToNat, ↓reduceIte, one_ne_zero_, zero_ne_one_, px_in32L, cd_94]
      repeat' (first | (with_reducible apply And.intro) | (with_reducible refine px_br_intro (fun _ => ?_) (fun _ => ?_)))
      all_goals (try (first | (unfold px_in32; omega) | omega))
      rw [fk.2.1]
      refine sp_renamed fk.1 hp ht (wi_len w1) ?_
      by_cases hlen : ((g k).1.length : Int) - f.length + t.length > 12
      · rw [if_pos hlen]
        have hlc := (lcmp_lt 0 0).2.1
        simp only [px_go, px_Q0_at, px_sx_0, px_sx_s, px_cl, px_step, ↓px_ll, px_lg, f4_, ↓px_r1, ↓px_r2, ↓px_r4, ↓px_r5, ↓px_p1, ↓px_p2, ↓px_p3, ↓px_pop, px_k_0, px_k_s, px_k3_0, px_stk_, px_cats, px_ent, px_st1, px_st2, px_mask, ↓px_tsw, ↓px_lsw, ct_, mls_0, mls_1, mls_2, mls_3, mls_4, mls_5, kd_0, kd_1, kd_2, kd_3, ln_0, ln_1, ln_2, ln_3, gf_0, gf_1, gf_2, gf_3, gf_4, gf_7, gf_21, gf_63, dy_0, dy_1, dy_2, dy_3, dy_7, dy_21, px_brT, px_brF, true_and, and_true, and_false, false_and, and_self, true_implies, false_implies, or_true, true_or, or_false, false_or, eq_self, ne_eq, not_false_eq_true, not_true_eq_false, if_true, if_false, List.mem_cons, List.not_mem_nil, List.length_cons, List.length_nil, Nat.reduceEqDiff, Nat.reduceAdd, Nat.reduceSub, Nat.reduceLeDiff, Nat.reduceLT, Int.reduceEq, Int.reduceLT, Int.reduceLE, Int.reduceNeg, Int.reduceAdd, Int.reduceSub, Int.reduceToNat, ↓reduceIte, one_ne_zero_, zero_ne_one_, px_in32L, cd_94]
        repeat' (first | (with_reducible apply And.intro) | (with_reducible refine px_br_intro (fun _ => ?_) (fun _ => ?_)))
        all_goals (try (first | (unfold px_in32; omega) | omega))
        all_goals first
          | exact h0 (fun z => by have := (z k k0 (by omega) w1).1; omega)
          | (rename_i c3; exact absurd (hlc.mpr rfl) c3)
      · rw [if_neg hlen]
        have hok := rnp_okp fk.1 ht (by omega) w1
        have hlc := (lcmp_lt (enc (rnp f t (g k).1)) 0).2.1
        have he0 := enc_0 hok.1 hok.2
        have hne : rnp f t (g k).1 ≠ [] := fun z => by
          unfold rnp at z
          exact htn (List.append_eq_nil_iff.mp z).1
        rw [show t ++ (g k).1.drop f.length = rnp f t (g k).1 from rfl]
        simp only [px_go, px_Q0_at, px_sx_0, px_sx_s, px_cl, px_step, ↓px_ll, px_lg, f4_, ↓px_r1, ↓px_r2, ↓px_r4, ↓px_r5, ↓px_p1, ↓px_p2, ↓px_p3, ↓px_pop, px_k_0, px_k_s, px_k3_0, px_stk_, px_cats, px_ent, px_st1, px_st2, px_mask, ↓px_tsw, ↓px_lsw, ct_, mls_0, mls_1, mls_2, mls_3, mls_4, mls_5, kd_0, kd_1, kd_2, kd_3, ln_0, ln_1, ln_2, ln_3, gf_0, gf_1, gf_2, gf_3, gf_4, gf_7, gf_21, gf_63, dy_0, dy_1, dy_2, dy_3, dy_7, dy_21, px_brT, px_brF, true_and, and_true, and_false, false_and, and_self, true_implies, false_implies, or_true, true_or, or_false, false_or, eq_self, ne_eq, not_false_eq_true, not_true_eq_false, if_true, if_false, List.mem_cons, List.not_mem_nil, List.length_cons, List.length_nil, Nat.reduceEqDiff, Nat.reduceAdd, Nat.reduceSub, Nat.reduceLeDiff, Nat.reduceLT, Int.reduceEq, Int.reduceLT, Int.reduceLE, Int.reduceNeg, Int.reduceAdd, Int.reduceSub, Int.reduceToNat, ↓reduceIte, one_ne_zero_, zero_ne_one_, px_in32L, cd_94]
        repeat' (first | (with_reducible apply And.intro) | (with_reducible refine px_br_intro (fun _ => ?_) (fun _ => ?_)))
        all_goals (try (first | (unfold px_in32; omega) | omega))
        · rename_i c3; exact absurd (he0.mp (hlc.mp c3)) hne
        · refine sp_meets hst hok hq (fun m => ?_) (fun m => ?_)
          · simp only [px_go, px_Q0_at, px_sx_0, px_sx_s, px_cl, px_step, ↓px_ll, px_lg, f4_, ↓px_r1, ↓px_r2, ↓px_r4, ↓px_r5, ↓px_p1, ↓px_p2, ↓px_p3, ↓px_pop, px_k_0, px_k_s, px_k3_0, px_stk_, px_cats, px_ent, px_st1, px_st2, px_mask, ↓px_tsw, ↓px_lsw, ct_, mls_0, mls_1, mls_2, mls_3, mls_4, mls_5, kd_0, kd_1, kd_2, kd_3, ln_0, ln_1, ln_2, ln_3, gf_0, gf_1, gf_2, gf_3, gf_4, gf_7, gf_21, gf_63, dy_0, dy_1, dy_2, dy_3, dy_7, dy_21, px_brT, px_brF, true_and, and_true, and_false, false_and, and_self, true_implies, false_implies, or_true, true_or, or_false, false_or, eq_self, ne_eq, not_false_eq_true, not_true_eq_false, if_true, if_false, List.mem_cons, List.not_mem_nil, List.length_cons, List.length_nil, Nat.reduceEqDiff, Nat.reduceAdd, Nat.reduceSub, Nat.reduceLeDiff, Nat.reduceLT, Int.reduceEq, Int.reduceLT, Int.reduceLE, Int.reduceNeg, Int.reduceAdd, Int.reduceSub, Int.reduceToNat, ↓reduceIte, one_ne_zero_, zero_ne_one_, px_in32L, cd_94]
            exact h0 (fun z => (z k k0 (by omega) w1).2 m)
          · simp only [px_go, px_Q0_at, px_sx_0, px_sx_s, px_cl, px_step, ↓px_ll, px_lg, f4_, ↓px_r1, ↓px_r2, ↓px_r4, ↓px_r5, ↓px_p1, ↓px_p2, ↓px_p3, ↓px_pop, px_k_0, px_k_s, px_k3_0, px_stk_, px_cats, px_ent, px_st1, px_st2, px_mask, ↓px_tsw, ↓px_lsw, ct_, mls_0, mls_1, mls_2, mls_3, mls_4, mls_5, kd_0, kd_1, kd_2, kd_3, ln_0, ln_1, ln_2, ln_3, gf_0, gf_1, gf_2, gf_3, gf_4, gf_7, gf_21, gf_63, dy_0, dy_1, dy_2, dy_3, dy_7, dy_21, px_brT, px_brF, true_and, and_true, and_false, false_and, and_self, true_implies, false_implies, or_true, true_or, or_false, false_or, eq_self, ne_eq, not_false_eq_true, not_true_eq_false, if_true, if_false, List.mem_cons, List.not_mem_nil, List.length_cons, List.length_nil, Nat.reduceEqDiff, Nat.reduceAdd, Nat.reduceSub, Nat.reduceLeDiff, Nat.reduceLT, Int.reduceEq, Int.reduceLT, Int.reduceLE, Int.reduceNeg, Int.reduceAdd, Int.reduceSub, Int.reduceToNat, ↓reduceIte, one_ne_zero_, zero_ne_one_, px_in32L, cd_94]
            repeat' (first | (with_reducible apply And.intro) | (with_reducible refine px_br_intro (fun _ => ?_) (fun _ => ?_)))
            all_goals (try (first | (unfold px_in32; omega) | omega))
            exact ih (by omega) (by omega) (hnx (fun _ => ⟨by omega, m⟩))
    · simp only [px_go, px_Q0_at, px_sx_0, px_sx_s, px_cl, px_step, ↓px_ll, px_lg, f4_, ↓px_r1, ↓px_r2, ↓px_r4, ↓px_r5, ↓px_p1, ↓px_p2, ↓px_p3, ↓px_pop, px_k_0, px_k_s, px_k3_0, px_stk_, px_cats, px_ent, px_st1, px_st2, px_mask, ↓px_tsw, ↓px_lsw, ct_, mls_0, mls_1, mls_2, mls_3, mls_4, mls_5, kd_0, kd_1, kd_2, kd_3, ln_0, ln_1, ln_2, ln_3, gf_0, gf_1, gf_2, gf_3, gf_4, gf_7, gf_21, gf_63, dy_0, dy_1, dy_2, dy_3, dy_7, dy_21, px_brT, px_brF, true_and, and_true, and_false, false_and, and_self, true_implies, false_implies, or_true, true_or, or_false, false_or, eq_self, ne_eq, not_false_eq_true, not_true_eq_false, if_true, if_false, List.mem_cons, List.not_mem_nil, List.length_cons, List.length_nil, Nat.reduceEqDiff, Nat.reduceAdd, Nat.reduceSub, Nat.reduceLeDiff, Nat.reduceLT, Int.reduceEq, Int.reduceLT, Int.reduceLE, Int.reduceNeg, Int.reduceAdd, Int.reduceSub, Int.reduceToNat, ↓reduceIte, one_ne_zero_, zero_ne_one_, px_in32L, cd_94]
      repeat' (first | (with_reducible apply And.intro) | (with_reducible refine px_br_intro (fun _ => ?_) (fun _ => ?_)))
      all_goals (try (first | (unfold px_in32; omega) | omega))
      exact ih (by omega) (by omega) (hnx (fun z => absurd z w1))
set_option maxHeartbeats 600000 in
set_option maxRecDepth 100000 in
theorem sp_canRename {n : Int} {g : Int → fe} {f t q : List Int} (hst : stC M n g) (hp : okp f) (ht : okp t) (htn : t ≠ []) (hq : okp q) (h1 : canR n g f t q → Q (some (0, 1)) M) (h0 : ¬ canR n g f t q → Q (some (0, 0)) M) : px_Ok 94 [(2, 4), (1, enc f), (1, enc t), (1, enc q)] LAY M Q := by
  refine px_ok_go (inl := []) (ls0 := [(2, 4), (1, enc f), (9, 0), (1, enc t), (9, 0), (1, enc q), (9, 0), (9, 0), (9, 0), (9, 0)]) 60 (by decide) (Nat.le_of_ble_eq_true rfl) rfl ?_
  simp only [px_go, px_Q0_at, px_sx_0, px_sx_s, px_cl, px_step, ↓px_ll, px_lg, f4_, ↓px_r1, ↓px_r2, ↓px_r4, ↓px_r5, ↓px_p1, ↓px_p2, ↓px_p3, ↓px_pop, px_k_0, px_k_s, px_k3_0, px_stk_, px_cats, px_ent, px_st1, px_st2, px_mask, ↓px_tsw, ↓px_lsw, ct_, mls_0, mls_1, mls_2, mls_3, mls_4, mls_5, kd_0, kd_1, kd_2, kd_3, ln_0, ln_1, ln_2, ln_3, gf_0, gf_1, gf_2, gf_3, gf_4, gf_7, gf_21, gf_63, dy_0, dy_1, dy_2, dy_3, dy_7, dy_21, px_brT, px_brF, true_and, and_true, and_false, false_and, and_self, true_implies, false_implies, or_true, true_or, or_false, false_or, eq_self, ne_eq, not_false_eq_true, not_true_eq_false, if_true, if_false, List.mem_cons, List.not_mem_nil, List.length_cons, List.length_nil, Nat.reduceEqDiff, Nat.reduceAdd, Nat.reduceSub, Nat.reduceLeDiff, Nat.reduceLT, Int.reduceEq, Int.reduceLT, Int.reduceLE, Int.reduceNeg, Int.reduceAdd, Int.reduceSub, Int.reduceToNat, ↓reduceIte, one_ne_zero_, zero_ne_one_, px_in32L, cd_94]
  repeat' (first | (with_reducible apply And.intro) | (with_reducible refine px_br_intro (fun _ => ?_) (fun _ => ?_)))
  all_goals (try (first | (unfold px_in32; omega) | omega))
  exact lp_canR hst hp ht htn hq h1 h0 0 hst.2.1 (Int.le_refl 0) (fun i i0 i1 => by omega)
set_option maxHeartbeats 600000 in
set_option maxRecDepth 100000 in
theorem lp_renameW {M0 : px_mem} {n : Int} {g : Int → fe} {f t : List Int} (hp : okp f) (ht : okp t) (hc : ∀ i, 0 ≤ i → i < n → wi (g i).1 f → ((g i).1.length : Int) - f.length + t.length ≤ 12) (hd : dst n (fun i => rnF f t (g i))) (h : ∀ M' g', stC M' n g' → srt n g' → (∀ y, isM n g' y ↔ isM n (fun i => rnF f t (g i)) y) → frS M' M0 → Q none M') (k : Int) (hk_k : k ≤ n) : ∀ (M : px_mem), 0 ≤ k → stC M n (fun i => if i < k then rnF f t (g i) else g i) → (∀ b, b ≠ 5 → M b = M0 b) → px_WP 95 0 0 (px_Q0 LAY Q) 3 [(2, 4), (1, enc f), (9, 0), (1, enc t), (9, 0), (0, k)] [] LAY M 0 0 := by
  refine up_ind (P := fun k => ∀ (M : px_mem), 0 ≤ k → stC M n (fun i => if i < k then rnF f t (g i) else g i) → (∀ b, b ≠ 5 → M b = M0 b) → px_WP 95 0 0 (px_Q0 LAY Q) 3 [(2, 4), (1, enc f), (9, 0), (1, enc t), (9, 0), (0, k)] [] LAY M 0 0) (n) (fun k hk_k ih => ?_) k hk_k
  intro M k0 hst hf
  have hM := hst.1
  have hn := hst.2.1
  have hn2 := hst.2.2.1
  refine px_go_ok (inl := []) 60 ?_
  simp only [px_go, px_Q0_at, px_sx_0, px_sx_s, px_cl, px_step, ↓px_ll, px_lg, f4_, ↓px_r1, ↓px_r2, ↓px_r4, ↓px_r5, ↓px_p1, ↓px_p2, ↓px_p3, ↓px_pop, px_k_0, px_k_s, px_k3_0, px_stk_, px_cats, px_ent, px_st1, px_st2, px_mask, ↓px_tsw, ↓px_lsw, ct_, mls_0, mls_1, mls_2, mls_3, mls_4, mls_5, kd_0, kd_1, kd_2, kd_3, ln_0, ln_1, ln_2, ln_3, gf_0, gf_1, gf_2, gf_3, gf_4, gf_7, gf_21, gf_63, dy_0, dy_1, dy_2, dy_3, dy_7, dy_21, px_brT, px_brF, true_and, and_true, and_false, false_and, and_self, true_implies, false_implies, or_true, true_or, or_false, false_or, eq_self, ne_eq, not_false_eq_true, not_true_eq_false, if_true, if_false, List.mem_cons, List.not_mem_nil, List.length_cons, List.length_nil, Nat.reduceEqDiff, Nat.reduceAdd, Nat.reduceSub, Nat.reduceLeDiff, Nat.reduceLT, Int.reduceEq, Int.reduceLT, Int.reduceLE, Int.reduceNeg, Int.reduceAdd, Int.reduceSub, Int.reduceToNat, ↓reduceIte, one_ne_zero_, zero_ne_one_, px_in32L, cd_95, hM]
  repeat' (first | (with_reducible apply And.intro) | (with_reducible refine px_br_intro (fun _ => ?_) (fun _ => ?_)))
  all_goals (try (first | (unfold px_in32; omega) | omega))
  · rename_i c1
    have hg : ∀ i, 0 ≤ i → i < n → (fun i => rnF f t (g i)) i = (fun i => if i < k then rnF f t (g i) else g i) i := fun i i0 i1 => by
      show _ = if i < k then _ else _
      rw [if_pos (by omega)]
    refine sp_sort (stC_congr hst hg) hd (fun M' g' q1 q2 q3 q4 => ?_)
    simp only [px_go, px_Q0_at, px_sx_0, px_sx_s, px_cl, px_step, ↓px_ll, px_lg, f4_, ↓px_r1, ↓px_r2, ↓px_r4, ↓px_r5, ↓px_p1, ↓px_p2, ↓px_p3, ↓px_pop, px_k_0, px_k_s, px_k3_0, px_stk_, px_cats, px_ent, px_st1, px_st2, px_mask, ↓px_tsw, ↓px_lsw, ct_, mls_0, mls_1, mls_2, mls_3, mls_4, mls_5, kd_0, kd_1, kd_2, kd_3, ln_0, ln_1, ln_2, ln_3, gf_0, gf_1, gf_2, gf_3, gf_4, gf_7, gf_21, gf_63, dy_0, dy_1, dy_2, dy_3, dy_7, dy_21, px_brT, px_brF, true_and, and_true, and_false, false_and, and_self, true_implies, false_implies, or_true, true_or, or_false, false_or, eq_self, ne_eq, not_false_eq_true, not_true_eq_false, if_true, if_false, List.mem_cons, List.not_mem_nil, List.length_cons, List.length_nil, Nat.reduceEqDiff, Nat.reduceAdd, Nat.reduceSub, Nat.reduceLeDiff, Nat.reduceLT, Int.reduceEq, Int.reduceLT, Int.reduceLE, Int.reduceNeg, Int.reduceAdd, Int.reduceSub, Int.reduceToNat, ↓reduceIte, one_ne_zero_, zero_ne_one_, px_in32L, cd_95]
    exact h M' g' q1 q2 q3 ⟨fun j j0 => by rw [q4 4 (by decide) (by decide) (by decide), hf 4 (by decide)], fun b b0 b1 b2 b3 _ => by rw [q4 b b1 b2 b3, hf b b1]⟩
  · rename_i c1
    have fk : fC M k (g k) := by
      have := hst.2.2.2.2 k k0 (by omega)
      dsimp only at this
      rw [if_neg (by omega)] at this
      exact this
    rw [fk.2.1]
    refine sp_isWithin fk.1 hp (fun w1 => ?_) (fun w1 => ?_)
    · simp only [px_go, px_Q0_at, px_sx_0, px_sx_s, px_cl, px_step, ↓px_ll, px_lg, f4_, ↓px_r1, ↓px_r2, ↓px_r4, ↓px_r5, ↓px_p1, ↓px_p2, ↓px_p3, ↓px_pop, px_k_0, px_k_s, px_k3_0, px_stk_, px_cats, px_ent, px_st1, px_st2, px_mask, ↓px_tsw, ↓px_lsw, ct_, mls_0, mls_1, mls_2, mls_3, mls_4, mls_5, kd_0, kd_1, kd_2, kd_3, ln_0, ln_1, ln_2, ln_3, gf_0, gf_1, gf_2, gf_3, gf_4, gf_7, gf_21, gf_63, dy_0, dy_1, dy_2, dy_3, dy_7, dy_21, px_brT, px_brF, true_and, and_true, and_false, false_and, and_self, true_implies, false_implies, or_true, true_or, or_false, false_or, eq_self, ne_eq, not_false_eq_true, not_true_eq_false, if_true, if_false, List.mem_cons, List.not_mem_nil, List.length_cons, List.length_nil, Nat.reduceEqDiff, Nat.reduceAdd, Nat.reduceSub, Nat.reduceLeDiff, Nat.reduceLT, Int.reduceEq, Int.reduceLT, Int.reduceLE, Int.reduceNeg, Int.reduceAdd, Int.reduceSub, Int.reduceToNat, ↓reduceIte, one_ne_zero_, zero_ne_one_, px_in32L, cd_95]
      repeat' (first | (with_reducible apply And.intro) | (with_reducible refine px_br_intro (fun _ => ?_) (fun _ => ?_)))
      all_goals (try (first | (unfold px_in32; omega) | omega))
      rw [fk.2.1]
      refine sp_renamed fk.1 hp ht (wi_len w1) ?_
      have hlen := hc k k0 (by omega) w1
      rw [if_neg (by omega)]
      have hok := rnp_okp fk.1 ht hlen w1
      rw [show t ++ (g k).1.drop f.length = rnp f t (g k).1 from rfl]
      simp only [px_go, px_Q0_at, px_sx_0, px_sx_s, px_cl, px_step, ↓px_ll, px_lg, f4_, ↓px_r1, ↓px_r2, ↓px_r4, ↓px_r5, ↓px_p1, ↓px_p2, ↓px_p3, ↓px_pop, px_k_0, px_k_s, px_k3_0, px_stk_, px_cats, px_ent, px_st1, px_st2, px_mask, ↓px_tsw, ↓px_lsw, ct_, mls_0, mls_1, mls_2, mls_3, mls_4, mls_5, kd_0, kd_1, kd_2, kd_3, ln_0, ln_1, ln_2, ln_3, gf_0, gf_1, gf_2, gf_3, gf_4, gf_7, gf_21, gf_63, dy_0, dy_1, dy_2, dy_3, dy_7, dy_21, px_brT, px_brF, true_and, and_true, and_false, false_and, and_self, true_implies, false_implies, or_true, true_or, or_false, false_or, eq_self, ne_eq, not_false_eq_true, not_true_eq_false, if_true, if_false, List.mem_cons, List.not_mem_nil, List.length_cons, List.length_nil, Nat.reduceEqDiff, Nat.reduceAdd, Nat.reduceSub, Nat.reduceLeDiff, Nat.reduceLT, Int.reduceEq, Int.reduceLT, Int.reduceLE, Int.reduceNeg, Int.reduceAdd, Int.reduceSub, Int.reduceToNat, ↓reduceIte, one_ne_zero_, zero_ne_one_, px_in32L, cd_95]
      repeat' (first | (with_reducible apply And.intro) | (with_reducible refine px_br_intro (fun _ => ?_) (fun _ => ?_)))
      all_goals (try (first | (unfold px_in32; omega) | omega))
      refine ih (by omega) _ (by omega) ?_ (fun b b0 => by rw [row_ne b0]; exact hf b b0)
      refine stC_congr (g := stF (fun i => if i < k then rnF f t (g i) else g i) k (rnF f t (g k))) ?_ (fun i i0 i1 => ?_)
      · have e1 := rnF_t (t := t) w1
        refine stC_put hst (Or.inl rfl) ⟨k0, by omega, by omega⟩ (fun _ => by omega) (fun q => by omega) (by rw [row_ne (by decide)]; exact hM) (fun i => ?_) (fun i => ?_) ?_ ?_ (fun b b0 b1 b2 b3 => row_ne b1)
        · rw [px_up_at, e1]
          by_cases e : i = k
          · rw [if_pos e, if_pos ⟨rfl, e⟩]
          · rw [if_neg e, if_neg (fun q => e q.2)]
        · rw [row_ne (by decide), e1]
          by_cases e : i = k
          · rw [if_pos e, e]; exact fk.2.2.1
          · rw [if_neg e]
        · rw [e1]
          exact ⟨hok, by have := fk.2.2.1; have := fk.2.2.2.1; show (g k).2.length ≤ 40; omega, fk.2.2.2.2.2⟩
        · have hrw := hst.2.2.2.1.1 k k0 (by omega)
          rw [e1, row_ne (by omega)]
          show lst (M (M 7 k)) ((g k).2.length : Int) = (g k).2
          rw [← fk.2.2.1]; exact fk.2.2.2.2.1
      · show (if i < k + 1 then _ else _) = (if i = k then _ else if i < k then _ else _)
        by_cases e : i = k
        · rw [if_pos (by omega), if_pos e, e]
        · by_cases e2 : i < k
          · rw [if_pos (by omega), if_neg e, if_pos e2]
          · rw [if_neg (by omega), if_neg e, if_neg e2]
    · simp only [px_go, px_Q0_at, px_sx_0, px_sx_s, px_cl, px_step, ↓px_ll, px_lg, f4_, ↓px_r1, ↓px_r2, ↓px_r4, ↓px_r5, ↓px_p1, ↓px_p2, ↓px_p3, ↓px_pop, px_k_0, px_k_s, px_k3_0, px_stk_, px_cats, px_ent, px_st1, px_st2, px_mask, ↓px_tsw, ↓px_lsw, ct_, mls_0, mls_1, mls_2, mls_3, mls_4, mls_5, kd_0, kd_1, kd_2, kd_3, ln_0, ln_1, ln_2, ln_3, gf_0, gf_1, gf_2, gf_3, gf_4, gf_7, gf_21, gf_63, dy_0, dy_1, dy_2, dy_3, dy_7, dy_21, px_brT, px_brF, true_and, and_true, and_false, false_and, and_self, true_implies, false_implies, or_true, true_or, or_false, false_or, eq_self, ne_eq, not_false_eq_true, not_true_eq_false, if_true, if_false, List.mem_cons, List.not_mem_nil, List.length_cons, List.length_nil, Nat.reduceEqDiff, Nat.reduceAdd, Nat.reduceSub, Nat.reduceLeDiff, Nat.reduceLT, Int.reduceEq, Int.reduceLT, Int.reduceLE, Int.reduceNeg, Int.reduceAdd, Int.reduceSub, Int.reduceToNat, ↓reduceIte, one_ne_zero_, zero_ne_one_, px_in32L, cd_95]
      repeat' (first | (with_reducible apply And.intro) | (with_reducible refine px_br_intro (fun _ => ?_) (fun _ => ?_)))
      all_goals (try (first | (unfold px_in32; omega) | omega))
      refine ih (by omega) M (by omega) (stC_congr hst (fun i i0 i1 => ?_)) hf
      by_cases e : i = k
      · rw [if_pos (by omega), if_neg (by omega), e]; exact rnF_f w1
      · by_cases e2 : i < k
        · rw [if_pos (by omega), if_pos e2]
        · rw [if_neg (by omega), if_neg e2]
set_option maxHeartbeats 600000 in
set_option maxRecDepth 100000 in
theorem sp_renameWithin {n : Int} {g : Int → fe} {f t : List Int} (hst : stC M n g) (hp : okp f) (ht : okp t) (hc : ∀ i, 0 ≤ i → i < n → wi (g i).1 f → ((g i).1.length : Int) - f.length + t.length ≤ 12) (hd : dst n (fun i => rnF f t (g i))) (h : ∀ M' g', stC M' n g' → srt n g' → (∀ y, isM n g' y ↔ isM n (fun i => rnF f t (g i)) y) → frS M' M → Q none M') : px_Ok 95 [(2, 4), (1, enc f), (1, enc t)] LAY M Q := by
  refine px_ok_go (inl := []) (ls0 := [(2, 4), (1, enc f), (9, 0), (1, enc t), (9, 0), (9, 0)]) 60 (by decide) (Nat.le_of_ble_eq_true rfl) rfl ?_
  simp only [px_go, px_Q0_at, px_sx_0, px_sx_s, px_cl, px_step, ↓px_ll, px_lg, f4_, ↓px_r1, ↓px_r2, ↓px_r4, ↓px_r5, ↓px_p1, ↓px_p2, ↓px_p3, ↓px_pop, px_k_0, px_k_s, px_k3_0, px_stk_, px_cats, px_ent, px_st1, px_st2, px_mask, ↓px_tsw, ↓px_lsw, ct_, mls_0, mls_1, mls_2, mls_3, mls_4, mls_5, kd_0, kd_1, kd_2, kd_3, ln_0, ln_1, ln_2, ln_3, gf_0, gf_1, gf_2, gf_3, gf_4, gf_7, gf_21, gf_63, dy_0, dy_1, dy_2, dy_3, dy_7, dy_21, px_brT, px_brF, true_and, and_true, and_false, false_and, and_self, true_implies, false_implies, or_true, true_or, or_false, false_or, eq_self, ne_eq, not_false_eq_true, not_true_eq_false, if_true, if_false, List.mem_cons, List.not_mem_nil, List.length_cons, List.length_nil, Nat.reduceEqDiff, Nat.reduceAdd, Nat.reduceSub, Nat.reduceLeDiff, Nat.reduceLT, Int.reduceEq, Int.reduceLT, Int.reduceLE, Int.reduceNeg, Int.reduceAdd, Int.reduceSub, Int.reduceToNat, ↓reduceIte, one_ne_zero_, zero_ne_one_, px_in32L, cd_95]
  repeat' (first | (with_reducible apply And.intro) | (with_reducible refine px_br_intro (fun _ => ?_) (fun _ => ?_)))
  all_goals (try (first | (unfold px_in32; omega) | omega))
  exact lp_renameW (M0 := M) hp ht hc hd h 0 hst.2.1 M (Int.le_refl 0) (stC_congr hst (fun i i0 i1 => by rw [if_neg (by omega)])) (fun _ _ => rfl)
set_option maxHeartbeats 600000 in
set_option maxRecDepth 100000 in
theorem lp_doubleW {M0 : px_mem} {n : Int} {g : Int → fe} {f t : List Int} (hp : okp f) (ht : okp t) (hso : srt n g) (hn0 : 0 ≤ n) (hc : ∀ i, 0 ≤ i → i < n → wi (g i).1 f → ((g i).1.length : Int) - f.length + t.length ≤ 12 ∧ ∀ j, 0 ≤ j → j < n → (g j).1 ≠ rnp f t (g i).1) (hroom : n + sm n (fun i => b1 (wi (g i).1 f)) ≤ 12) (h : ∀ M' g', stC M' (n + sm n (fun i => b1 (wi (g i).1 f))) g' → srt (n + sm n (fun i => b1 (wi (g i).1 f))) g' → (∀ y, isM (n + sm n (fun i => b1 (wi (g i).1 f))) g' y ↔ (isM n g y ∨ ∃ i, 0 ≤ i ∧ i < n ∧ wi (g i).1 f ∧ y = (rnp f t (g i).1, (g i).2))) → frS M' M0 → Q none M') (k : Int) (hk_k : k ≤ n) : ∀ (M : px_mem) (g' : Int → fe) (m : Int), 0 ≤ k → stC M m g' → n ≤ m → m = n + sm k (fun i => b1 (wi (g i).1 f)) → (∀ i, 0 ≤ i → i < n → g' i = g i) → (∀ y, isM m g' y ↔ (isM n g y ∨ ∃ i, 0 ≤ i ∧ i < k ∧ wi (g i).1 f ∧ y = (rnp f t (g i).1, (g i).2))) → dst m g' → frS M M0 → px_WP 96 0 0 (px_Q0 LAY Q) 9 [(2, 4), (1, enc f), (9, 0), (1, enc t), (9, 0), (0, n), (0, k)] [] LAY M 0 0 := by
  refine up_ind (P := fun k => ∀ (M : px_mem) (g' : Int → fe) (m : Int), 0 ≤ k → stC M m g' → n ≤ m → m = n + sm k (fun i => b1 (wi (g i).1 f)) → (∀ i, 0 ≤ i → i < n → g' i = g i) → (∀ y, isM m g' y ↔ (isM n g y ∨ ∃ i, 0 ≤ i ∧ i < k ∧ wi (g i).1 f ∧ y = (rnp f t (g i).1, (g i).2))) → dst m g' → frS M M0 → px_WP 96 0 0 (px_Q0 LAY Q) 9 [(2, 4), (1, enc f), (9, 0), (1, enc t), (9, 0), (0, n), (0, k)] [] LAY M 0 0) (n) (fun k hk_k ih => ?_) k hk_k
  intro M g' m k0 hst hnm hmk hgg hmem hd hf
  have hM := hst.1
  have hn := hst.2.1
  have hn2 := hst.2.2.1
  have hb := sm_mono (f := fun i => b1 (wi (g i).1 f)) (n := n) (fun j _ _ => (b1_rng _).1) (i := k + 1)
  have hs := sm_s k0 (fun i => b1 (wi (g i).1 f))
  refine px_go_ok (inl := []) 60 ?_
  simp only [px_go, px_Q0_at, px_sx_0, px_sx_s, px_cl, px_step, ↓px_ll, px_lg, f4_, ↓px_r1, ↓px_r2, ↓px_r4, ↓px_r5, ↓px_p1, ↓px_p2, ↓px_p3, ↓px_pop, px_k_0, px_k_s, px_k3_0, px_stk_, px_cats, px_ent, px_st1, px_st2, px_mask, ↓px_tsw, ↓px_lsw, ct_, mls_0, mls_1, mls_2, mls_3, mls_4, mls_5, kd_0, kd_1, kd_2, kd_3, ln_0, ln_1, ln_2, ln_3, gf_0, gf_1, gf_2, gf_3, gf_4, gf_7, gf_21, gf_63, dy_0, dy_1, dy_2, dy_3, dy_7, dy_21, px_brT, px_brF, true_and, and_true, and_false, false_and, and_self, true_implies, false_implies, or_true, true_or, or_false, false_or, eq_self, ne_eq, not_false_eq_true, not_true_eq_false, if_true, if_false, List.mem_cons, List.not_mem_nil, List.length_cons, List.length_nil, Nat.reduceEqDiff, Nat.reduceAdd, Nat.reduceSub, Nat.reduceLeDiff, Nat.reduceLT, Int.reduceEq, Int.reduceLT, Int.reduceLE, Int.reduceNeg, Int.reduceAdd, Int.reduceSub, Int.reduceToNat, ↓reduceIte, one_ne_zero_, zero_ne_one_, px_in32L, cd_96, hM]
  repeat' (first | (with_reducible apply And.intro) | (with_reducible refine px_br_intro (fun _ => ?_) (fun _ => ?_)))
  all_goals (try (first | (unfold px_in32; omega) | omega))
  · rename_i c1
    have e : k = n := by omega
    subst e
    rw [hmk] at hst hd hmem
    refine sp_sort hst hd (fun M' g2 q1 q2 q3 q4 => ?_)
    simp only [px_go, px_Q0_at, px_sx_0, px_sx_s, px_cl, px_step, ↓px_ll, px_lg, f4_, ↓px_r1, ↓px_r2, ↓px_r4, ↓px_r5, ↓px_p1, ↓px_p2, ↓px_p3, ↓px_pop, px_k_0, px_k_s, px_k3_0, px_stk_, px_cats, px_ent, px_st1, px_st2, px_mask, ↓px_tsw, ↓px_lsw, ct_, mls_0, mls_1, mls_2, mls_3, mls_4, mls_5, kd_0, kd_1, kd_2, kd_3, ln_0, ln_1, ln_2, ln_3, gf_0, gf_1, gf_2, gf_3, gf_4, gf_7, gf_21, gf_63, dy_0, dy_1, dy_2, dy_3, dy_7, dy_21, px_brT, px_brF, true_and, and_true, and_false, false_and, and_self, true_implies, false_implies, or_true, true_or, or_false, false_or, eq_self, ne_eq, not_false_eq_true, not_true_eq_false, if_true, if_false, List.mem_cons, List.not_mem_nil, List.length_cons, List.length_nil, Nat.reduceEqDiff, Nat.reduceAdd, Nat.reduceSub, Nat.reduceLeDiff, Nat.reduceLT, Int.reduceEq, Int.reduceLT, Int.reduceLE, Int.reduceNeg, Int.reduceAdd, Int.reduceSub, Int.reduceToNat, ↓reduceIte, one_ne_zero_, zero_ne_one_, px_in32L, cd_96]
    exact h M' g2 q1 q2 (fun y => by rw [q3 y]; exact hmem y) ⟨fun j j0 => by rw [q4 4 (by decide) (by decide) (by decide)]; exact hf.1 j j0, fun b b0 b1 b2 b3 b4 => by rw [q4 b b1 b2 b3]; exact hf.2 b b0 b1 b2 b3 b4⟩
  · rename_i c1
    have fk : fC M k (g k) := by
      have := hst.2.2.2.2 k k0 (by omega)
      rw [hgg k k0 (by omega)] at this
      exact this
    rw [fk.2.1]
    refine sp_isWithin fk.1 hp (fun w1 => ?_) (fun w1 => ?_)
    · simp only [px_go, px_Q0_at, px_sx_0, px_sx_s, px_cl, px_step, ↓px_ll, px_lg, f4_, ↓px_r1, ↓px_r2, ↓px_r4, ↓px_r5, ↓px_p1, ↓px_p2, ↓px_p3, ↓px_pop, px_k_0, px_k_s, px_k3_0, px_stk_, px_cats, px_ent, px_st1, px_st2, px_mask, ↓px_tsw, ↓px_lsw, ct_, mls_0, mls_1, mls_2, mls_3, mls_4, mls_5, kd_0, kd_1, kd_2, kd_3, ln_0, ln_1, ln_2, ln_3, gf_0, gf_1, gf_2, gf_3, gf_4, gf_7, gf_21, gf_63, dy_0, dy_1, dy_2, dy_3, dy_7, dy_21, px_brT, px_brF, true_and, and_true, and_false, false_and, and_self, true_implies, false_implies, or_true, true_or, or_false, false_or, eq_self, ne_eq, not_false_eq_true, not_true_eq_false, if_true, if_false, List.mem_cons, List.not_mem_nil, List.length_cons, List.length_nil, Nat.reduceEqDiff, Nat.reduceAdd, Nat.reduceSub, Nat.reduceLeDiff, Nat.reduceLT, Int.reduceEq, Int.reduceLT, Int.reduceLE, Int.reduceNeg, Int.reduceAdd, Int.reduceSub, Int.reduceToNat, ↓reduceIte, one_ne_zero_, zero_ne_one_, px_in32L, cd_96]
      repeat' (first | (with_reducible apply And.intro) | (with_reducible refine px_br_intro (fun _ => ?_) (fun _ => ?_)))
      all_goals (try (first | (unfold px_in32; omega) | omega))
      rw [fk.2.1]
      refine sp_renamed fk.1 hp ht (wi_len w1) ?_
      have hlen := hc k k0 (by omega) w1
      rw [if_neg (by omega)]
      have hok := rnp_okp fk.1 ht hlen.1 w1
      rw [show t ++ (g k).1.drop f.length = rnp f t (g k).1 from rfl]
      rw [b1_t w1] at hs
      have hb2 := hb (by omega) (by omega)
      have hrk := hst.2.2.2.1.1 k k0 (by omega)
      have hrl := row_lay (v := M 7 k) (Or.inl hrk)
      have hinj := hst.2.2.2.1.2
      simp only [px_go, px_Q0_at, px_sx_0, px_sx_s, px_cl, px_step, ↓px_ll, px_lg, f4_, ↓px_r1, ↓px_r2, ↓px_r4, ↓px_r5, ↓px_p1, ↓px_p2, ↓px_p3, ↓px_pop, px_k_0, px_k_s, px_k3_0, px_stk_, px_cats, px_ent, px_st1, px_st2, px_mask, ↓px_tsw, ↓px_lsw, ct_, mls_0, mls_1, mls_2, mls_3, mls_4, mls_5, kd_0, kd_1, kd_2, kd_3, ln_0, ln_1, ln_2, ln_3, gf_0, gf_1, gf_2, gf_3, gf_4, gf_7, gf_21, gf_63, dy_0, dy_1, dy_2, dy_3, dy_7, dy_21, px_brT, px_brF, true_and, and_true, and_false, false_and, and_self, true_implies, false_implies, or_true, true_or, or_false, false_or, eq_self, ne_eq, not_false_eq_true, not_true_eq_false, if_true, if_false, List.mem_cons, List.not_mem_nil, List.length_cons, List.length_nil, Nat.reduceEqDiff, Nat.reduceAdd, Nat.reduceSub, Nat.reduceLeDiff, Nat.reduceLT, Int.reduceEq, Int.reduceLT, Int.reduceLE, Int.reduceNeg, Int.reduceAdd, Int.reduceSub, Int.reduceToNat, ↓reduceIte, one_ne_zero_, zero_ne_one_, px_in32L, cd_96]
      repeat' (first | (with_reducible apply And.intro) | (with_reducible refine px_br_intro (fun _ => ?_) (fun _ => ?_)))
      all_goals (try (first | (unfold px_in32; omega) | omega))
      refine sp_sAppend (x := (rnp f t (g k).1, (g k).2)) hst (by omega) ⟨hok, by have := fk.2.2.1; have := fk.2.2.2.1; show (g k).2.length ≤ 40; omega, fk.2.2.2.2.2⟩ hrl.1 (Int.le_refl 0) fk.2.2.1 (by have := fk.2.2.2.1; omega) (by omega) (fun q => by have := hinj k m k0 (by omega) hn (by omega) q; omega) (by omega) ?_ (fun M1 q1 q2 q3 => ?_)
      · show _ = (g k).2
        rw [← fk.2.2.2.2.1]
        exact lst_congr (fun j _ _ => by rw [Int.zero_add])
      · simp only [px_go, px_Q0_at, px_sx_0, px_sx_s, px_cl, px_step, ↓px_ll, px_lg, f4_, ↓px_r1, ↓px_r2, ↓px_r4, ↓px_r5, ↓px_p1, ↓px_p2, ↓px_p3, ↓px_pop, px_k_0, px_k_s, px_k3_0, px_stk_, px_cats, px_ent, px_st1, px_st2, px_mask, ↓px_tsw, ↓px_lsw, ct_, mls_0, mls_1, mls_2, mls_3, mls_4, mls_5, kd_0, kd_1, kd_2, kd_3, ln_0, ln_1, ln_2, ln_3, gf_0, gf_1, gf_2, gf_3, gf_4, gf_7, gf_21, gf_63, dy_0, dy_1, dy_2, dy_3, dy_7, dy_21, px_brT, px_brF, true_and, and_true, and_false, false_and, and_self, true_implies, false_implies, or_true, true_or, or_false, false_or, eq_self, ne_eq, not_false_eq_true, not_true_eq_false, if_true, if_false, List.mem_cons, List.not_mem_nil, List.length_cons, List.length_nil, Nat.reduceEqDiff, Nat.reduceAdd, Nat.reduceSub, Nat.reduceLeDiff, Nat.reduceLT, Int.reduceEq, Int.reduceLT, Int.reduceLE, Int.reduceNeg, Int.reduceAdd, Int.reduceSub, Int.reduceToNat, ↓reduceIte, one_ne_zero_, zero_ne_one_, px_in32L, cd_96]
        repeat' (first | (with_reducible apply And.intro) | (with_reducible refine px_br_intro (fun _ => ?_) (fun _ => ?_)))
        all_goals (try (first | (unfold px_in32; omega) | omega))
        have hnew : ∀ j, 0 ≤ j → j < m → (g' j).1 ≠ rnp f t (g k).1 := fun j j0 j1 e => by
          rcases (hmem (g' j)).mp ⟨j, j0, j1, rfl⟩ with ⟨i, i0, i1, i2⟩ | ⟨i, i0, i1, i2, i3⟩
          · rw [← i2] at e; exact hlen.2 i i0 i1 e
          · rw [i3] at e
            have := rnp_inj i2 w1 e
            have := srt_ne hso i0 (by omega) k0 (by omega) (by rw [this])
            omega
        refine ih (by omega) M1 (stF g' m (rnp f t (g k).1, (g k).2)) (m + 1) (by omega) q1 (by omega) (by omega) (fun i i0 i1 => ?_) (fun y => ?_) (fun i j i0 i1 j0 j1 e => ?_) (frS_trans q2 hf)
        · unfold stF; rw [if_neg (by omega)]; exact hgg i i0 i1
        · rw [stF_isM hn, hmem y]
          constructor
          · rintro ((a | ⟨i, i0, i1, i2⟩) | a)
            · exact Or.inl a
            · exact Or.inr ⟨i, i0, by omega, i2⟩
            · exact Or.inr ⟨k, k0, by omega, w1, a⟩
          · rintro (a | ⟨i, i0, i1, i2, i3⟩)
            · exact Or.inl (Or.inl a)
            · by_cases e : i = k
              · subst e; exact Or.inr i3
              · exact Or.inl (Or.inr ⟨i, i0, by omega, i2, i3⟩)
        · unfold stF at e
          have okj : ∀ j, 0 ≤ j → j < m → okp (g' j).1 := fun j j0 j1 => (hst.2.2.2.2 j j0 j1).1
          by_cases ei : i = m
          · by_cases ej : j = m
            · omega
            · rw [if_pos ei, if_neg ej] at e
              have o := okj j j0 (by omega)
              exact absurd (enc_inj hok.1 o.1 hok.2 o.2 e).symm (hnew j j0 (by omega))
          · by_cases ej : j = m
            · rw [if_neg ei, if_pos ej] at e
              have o := okj i i0 (by omega)
              exact absurd (enc_inj o.1 hok.1 o.2 hok.2 e) (hnew i i0 (by omega))
            · rw [if_neg ei, if_neg ej] at e
              exact hd i j i0 (by omega) j0 (by omega) e
    · simp only [px_go, px_Q0_at, px_sx_0, px_sx_s, px_cl, px_step, ↓px_ll, px_lg, f4_, ↓px_r1, ↓px_r2, ↓px_r4, ↓px_r5, ↓px_p1, ↓px_p2, ↓px_p3, ↓px_pop, px_k_0, px_k_s, px_k3_0, px_stk_, px_cats, px_ent, px_st1, px_st2, px_mask, ↓px_tsw, ↓px_lsw, ct_, mls_0, mls_1, mls_2, mls_3, mls_4, mls_5, kd_0, kd_1, kd_2, kd_3, ln_0, ln_1, ln_2, ln_3, gf_0, gf_1, gf_2, gf_3, gf_4, gf_7, gf_21, gf_63, dy_0, dy_1, dy_2, dy_3, dy_7, dy_21, px_brT, px_brF, true_and, and_true, and_false, false_and, and_self, true_implies, false_implies, or_true, true_or, or_false, false_or, eq_self, ne_eq, not_false_eq_true, not_true_eq_false, if_true, if_false, List.mem_cons, List.not_mem_nil, List.length_cons, List.length_nil, Nat.reduceEqDiff, Nat.reduceAdd, Nat.reduceSub, Nat.reduceLeDiff, Nat.reduceLT, Int.reduceEq, Int.reduceLT, Int.reduceLE, Int.reduceNeg, Int.reduceAdd, Int.reduceSub, Int.reduceToNat, ↓reduceIte, one_ne_zero_, zero_ne_one_, px_in32L, cd_96]
      repeat' (first | (with_reducible apply And.intro) | (with_reducible refine px_br_intro (fun _ => ?_) (fun _ => ?_)))
      all_goals (try (first | (unfold px_in32; omega) | omega))
      rw [b1_f w1] at hs
      refine ih (by omega) M g' m (by omega) hst (by omega) (by omega) hgg (fun y => ?_) hd hf
      rw [hmem y]
      constructor
      · rintro (a | ⟨i, i0, i1, i2⟩)
        · exact Or.inl a
        · exact Or.inr ⟨i, i0, by omega, i2⟩
      · rintro (a | ⟨i, i0, i1, i2, i3⟩)
        · exact Or.inl a
        · refine Or.inr ⟨i, i0, ?_, i2, i3⟩
          by_cases e : i = k
          · rw [e] at i2; exact absurd i2 w1
          · omega
set_option maxHeartbeats 600000 in
set_option maxRecDepth 100000 in
theorem sp_doubleWithin {n : Int} {g : Int → fe} {f t : List Int} (hst : stC M n g) (hp : okp f) (ht : okp t) (hso : srt n g) (hc : ∀ i, 0 ≤ i → i < n → wi (g i).1 f → ((g i).1.length : Int) - f.length + t.length ≤ 12 ∧ ∀ j, 0 ≤ j → j < n → (g j).1 ≠ rnp f t (g i).1) (hroom : n + sm n (fun i => b1 (wi (g i).1 f)) ≤ 12) (h : ∀ M' g', stC M' (n + sm n (fun i => b1 (wi (g i).1 f))) g' → srt (n + sm n (fun i => b1 (wi (g i).1 f))) g' → (∀ y, isM (n + sm n (fun i => b1 (wi (g i).1 f))) g' y ↔ (isM n g y ∨ ∃ i, 0 ≤ i ∧ i < n ∧ wi (g i).1 f ∧ y = (rnp f t (g i).1, (g i).2))) → frS M' M → Q none M') : px_Ok 96 [(2, 4), (1, enc f), (1, enc t)] LAY M Q := by
  refine px_ok_go (inl := []) (ls0 := [(2, 4), (1, enc f), (9, 0), (1, enc t), (9, 0), (9, 0), (9, 0)]) 60 (by decide) (Nat.le_of_ble_eq_true rfl) rfl ?_
  simp only [px_go, px_Q0_at, px_sx_0, px_sx_s, px_cl, px_step, ↓px_ll, px_lg, f4_, ↓px_r1, ↓px_r2, ↓px_r4, ↓px_r5, ↓px_p1, ↓px_p2, ↓px_p3, ↓px_pop, px_k_0, px_k_s, px_k3_0, px_stk_, px_cats, px_ent, px_st1, px_st2, px_mask, ↓px_tsw, ↓px_lsw, ct_, mls_0, mls_1, mls_2, mls_3, mls_4, mls_5, kd_0, kd_1, kd_2, kd_3, ln_0, ln_1, ln_2, ln_3, gf_0, gf_1, gf_2, gf_3, gf_4, gf_7, gf_21, gf_63, dy_0, dy_1, dy_2, dy_3, dy_7, dy_21, px_brT, px_brF, true_and, and_true, and_false, false_and, and_self, true_implies, false_implies, or_true, true_or, or_false, false_or, eq_self, ne_eq, not_false_eq_true, not_true_eq_false, if_true, if_false, List.mem_cons, List.not_mem_nil, List.length_cons, List.length_nil, Nat.reduceEqDiff, Nat.reduceAdd, Nat.reduceSub, Nat.reduceLeDiff, Nat.reduceLT, Int.reduceEq, Int.reduceLT, Int.reduceLE, Int.reduceNeg, Int.reduceAdd, Int.reduceSub, Int.reduceToNat, ↓reduceIte, one_ne_zero_, zero_ne_one_, px_in32L, cd_96]
  repeat' (first | (with_reducible apply And.intro) | (with_reducible refine px_br_intro (fun _ => ?_) (fun _ => ?_)))
  all_goals (try (first | (unfold px_in32; omega) | omega))
  rw [hst.1]
  exact lp_doubleW (M0 := M) hp ht hso hst.2.1 hc hroom h 0 hst.2.1 M g n (Int.le_refl 0) hst (Int.le_refl n) (by rw [sm_0]; omega) (fun _ _ _ => rfl) (fun y => ⟨fun a => Or.inl a, fun a => by
    rcases a with a | ⟨i, i0, i1, _⟩
    · exact a
    · omega⟩) (srt_dst hso) (frS_refl M)
set_option maxHeartbeats 600000 in
set_option maxRecDepth 100000 in
theorem lp_fill {M0 : px_mem} {v w n : Int} {g : Int → fe} (hv : 20 ≤ v ∧ px_kd LAY v = 1 ∧ n ≤ px_ln LAY v) (hw : 20 ≤ w ∧ px_kd LAY w = 0 ∧ n ≤ px_ln LAY w) (hn : n ≤ 12) (hg : ∀ i, 0 ≤ i → i < n → okp (g i).1 ∧ M0 v i = enc (g i).1 ∧ (0 ≤ M0 w i ∧ M0 w i < 40) ∧ M0 57 (M0 w i) = ((g i).2.length : Int) ∧ (g i).2.length ≤ 40 ∧ lst (M0 (64 + M0 w i)) ((g i).2.length : Int) = (g i).2 ∧ ∀ b ∈ (g i).2, 0 ≤ b ∧ b < 256) (h : ∀ M', stC M' n g → frS M' M0 → Q none M') (k : Int) (hk_k : k ≤ n) : ∀ (M : px_mem), 0 ≤ k → stC M k g → frS M M0 → px_WP 97 0 0 (px_Q0 LAY Q) 8 [(2, 4), (2, v), (2, w), (0, n), (2, 56), (0, k)] [] LAY M 0 0 := by
  refine up_ind (P := fun k => ∀ (M : px_mem), 0 ≤ k → stC M k g → frS M M0 → px_WP 97 0 0 (px_Q0 LAY Q) 8 [(2, 4), (2, v), (2, w), (0, n), (2, 56), (0, k)] [] LAY M 0 0) (n) (fun k hk_k ih => ?_) k hk_k
  intro M k0 hst hf
  have hn2 := hst.2.2.1
  have hv1 := hv.2.1
  have hw1 := hw.2.1
  have fv := hf.2 v (by omega) (by omega) (by omega) (by omega) (by omega)
  have fw := hf.2 w (by omega) (by omega) (by omega) (by omega) (by omega)
  have f57 := hf.2 57 (by decide) (by decide) (by decide) (by decide) (by decide)
  have hgk : k < n → okp (g k).1 ∧ M v k = enc (g k).1 ∧ (0 ≤ M w k ∧ M w k < 40) ∧ M 57 (M w k) = ((g k).2.length : Int) ∧ (g k).2.length ≤ 40 ∧ lst (M (64 + M w k)) ((g k).2.length : Int) = (g k).2 ∧ ∀ b ∈ (g k).2, 0 ≤ b ∧ b < 256 := fun q => by
    have a := hg k k0 q
    rw [fv, fw, f57, hf.2 (64 + M0 w k) (by omega) (by omega) (by omega) (by omega) (by omega)]; exact a
  refine px_go_ok (inl := []) 60 ?_
  simp only [px_go, px_Q0_at, px_sx_0, px_sx_s, px_cl, px_step, ↓px_ll, px_lg, f4_, ↓px_r1, ↓px_r2, ↓px_r4, ↓px_r5, ↓px_p1, ↓px_p2, ↓px_p3, ↓px_pop, px_k_0, px_k_s, px_k3_0, px_stk_, px_cats, px_ent, px_st1, px_st2, px_mask, ↓px_tsw, ↓px_lsw, ct_, mls_0, mls_1, mls_2, mls_3, mls_4, mls_5, kd_0, kd_1, kd_2, kd_3, ln_0, ln_1, ln_2, ln_3, gf_0, gf_1, gf_2, gf_3, gf_4, gf_7, gf_21, gf_63, dy_0, dy_1, dy_2, dy_3, dy_7, dy_21, px_brT, px_brF, true_and, and_true, and_false, false_and, and_self, true_implies, false_implies, or_true, true_or, or_false, false_or, eq_self, ne_eq, not_false_eq_true, not_true_eq_false, if_true, if_false, List.mem_cons, List.not_mem_nil, List.length_cons, List.length_nil, Nat.reduceEqDiff, Nat.reduceAdd, Nat.reduceSub, Nat.reduceLeDiff, Nat.reduceLT, Int.reduceEq, Int.reduceLT, Int.reduceLE, Int.reduceNeg, Int.reduceAdd, Int.reduceSub, Int.reduceToNat, ↓reduceIte, one_ne_zero_, zero_ne_one_, px_in32L, cd_97, hv1, hw1]
  repeat' (first | (with_reducible apply And.intro) | (with_reducible refine px_br_intro (fun _ => ?_) (fun _ => ?_)))
  all_goals (try (first | (unfold px_in32; omega) | omega))
  · rename_i c1
    have e : k = n := by omega
    subst e
    exact h M hst hf
  · rename_i c1
    obtain ⟨a1, a2, a3, a4, a5, a6, a7⟩ := hgk (by omega)
    rw [a2, a4]
    have hr := row_lay (v := 64 + M w k) (Or.inr (by omega))
    have hrow := hst.2.2.2.1.1 k k0 (by omega)
    refine sp_sAppend (x := g k) hst (by omega) ⟨a1, a5, a7⟩ hr.1 (Int.le_refl 0) rfl (by omega) (by omega) (by omega) (by omega) ?_ (fun M1 q1 q2 q3 => ?_)
    · refine Eq.trans ?_ a6
      exact lst_congr (fun j _ _ => by rw [Int.zero_add])
    · simp only [px_go, px_Q0_at, px_sx_0, px_sx_s, px_cl, px_step, ↓px_ll, px_lg, f4_, ↓px_r1, ↓px_r2, ↓px_r4, ↓px_r5, ↓px_p1, ↓px_p2, ↓px_p3, ↓px_pop, px_k_0, px_k_s, px_k3_0, px_stk_, px_cats, px_ent, px_st1, px_st2, px_mask, ↓px_tsw, ↓px_lsw, ct_, mls_0, mls_1, mls_2, mls_3, mls_4, mls_5, kd_0, kd_1, kd_2, kd_3, ln_0, ln_1, ln_2, ln_3, gf_0, gf_1, gf_2, gf_3, gf_4, gf_7, gf_21, gf_63, dy_0, dy_1, dy_2, dy_3, dy_7, dy_21, px_brT, px_brF, true_and, and_true, and_false, false_and, and_self, true_implies, false_implies, or_true, true_or, or_false, false_or, eq_self, ne_eq, not_false_eq_true, not_true_eq_false, if_true, if_false, List.mem_cons, List.not_mem_nil, List.length_cons, List.length_nil, Nat.reduceEqDiff, Nat.reduceAdd, Nat.reduceSub, Nat.reduceLeDiff, Nat.reduceLT, Int.reduceEq, Int.reduceLT, Int.reduceLE, Int.reduceNeg, Int.reduceAdd, Int.reduceSub, Int.reduceToNat, ↓reduceIte, one_ne_zero_, zero_ne_one_, px_in32L, cd_97]
      repeat' (first | (with_reducible apply And.intro) | (with_reducible refine px_br_intro (fun _ => ?_) (fun _ => ?_)))
      all_goals (try (first | (unfold px_in32; omega) | omega))
      refine ih (by omega) M1 (by omega) (stC_congr q1 (fun i i0 i1 => ?_)) (frS_trans q2 hf)
      unfold stF
      by_cases e : i = k
      · rw [if_pos e, e]
      · rw [if_neg e]
set_option maxHeartbeats 600000 in
set_option maxRecDepth 100000 in
theorem sp_fillFrom {v w n N : Int} {g g0 : Int → fe} (hst : stC M N g0) (hv : 20 ≤ v ∧ px_kd LAY v = 1 ∧ n ≤ px_ln LAY v) (hw : 20 ≤ w ∧ px_kd LAY w = 0 ∧ n ≤ px_ln LAY w) (hn : 0 ≤ n ∧ n ≤ 12) (hg : ∀ i, 0 ≤ i → i < n → okp (g i).1 ∧ M v i = enc (g i).1 ∧ (0 ≤ M w i ∧ M w i < 40) ∧ M 57 (M w i) = ((g i).2.length : Int) ∧ (g i).2.length ≤ 40 ∧ lst (M (64 + M w i)) ((g i).2.length : Int) = (g i).2 ∧ ∀ b ∈ (g i).2, 0 ≤ b ∧ b < 256) (h : ∀ M', stC M' n g → frS M' M → Q none M') : px_Ok 97 [(2, 4), (2, v), (2, w), (0, n), (2, 56)] LAY M Q := by
  refine px_ok_go (inl := []) (ls0 := [(2, 4), (2, v), (2, w), (0, n), (2, 56), (9, 0)]) 60 (by decide) (Nat.le_of_ble_eq_true rfl) rfl ?_
  simp only [px_go, px_Q0_at, px_sx_0, px_sx_s, px_cl, px_step, ↓px_ll, px_lg, f4_, ↓px_r1, ↓px_r2, ↓px_r4, ↓px_r5, ↓px_p1, ↓px_p2, ↓px_p3, ↓px_pop, px_k_0, px_k_s, px_k3_0, px_stk_, px_cats, px_ent, px_st1, px_st2, px_mask, ↓px_tsw, ↓px_lsw, ct_, mls_0, mls_1, mls_2, mls_3, mls_4, mls_5, kd_0, kd_1, kd_2, kd_3, ln_0, ln_1, ln_2, ln_3, gf_0, gf_1, gf_2, gf_3, gf_4, gf_7, gf_21, gf_63, dy_0, dy_1, dy_2, dy_3, dy_7, dy_21, px_brT, px_brF, true_and, and_true, and_false, false_and, and_self, true_implies, false_implies, or_true, true_or, or_false, false_or, eq_self, ne_eq, not_false_eq_true, not_true_eq_false, if_true, if_false, List.mem_cons, List.not_mem_nil, List.length_cons, List.length_nil, Nat.reduceEqDiff, Nat.reduceAdd, Nat.reduceSub, Nat.reduceLeDiff, Nat.reduceLT, Int.reduceEq, Int.reduceLT, Int.reduceLE, Int.reduceNeg, Int.reduceAdd, Int.reduceSub, Int.reduceToNat, ↓reduceIte, one_ne_zero_, zero_ne_one_, px_in32L, cd_97]
  repeat' (first | (with_reducible apply And.intro) | (with_reducible refine px_br_intro (fun _ => ?_) (fun _ => ?_)))
  all_goals (try (first | (unfold px_in32; omega) | omega))
  exact lp_fill (M0 := M) hv hw hn.2 hg h 0 hn.1 _ (Int.le_refl 0) (stC_congr (stC_less hst (Int.le_refl 0) hst.2.1) (fun i i0 i1 => by omega)) ⟨fun j j0 => by rw [px_up_at, if_neg (fun q => j0 q.2)], fun b b0 _ _ _ _ => row_ne b0⟩
end PS
