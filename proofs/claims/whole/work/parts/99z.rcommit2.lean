/-! the reference: commit, its beginning -/
section PS
variable {M : px_mem} {Q : Option pv → px_mem → Prop}
set_option maxHeartbeats 600000 in
set_option maxRecDepth 100000 in
theorem sp_rcommit0 {Mc : px_mem} {N : Int} {g : Int → fe} {pl : Int → Int → List Int} {nm : Int → List Int} (hT : TE Mc pl nm (M 128)) (hnum : numI Mc) (hst : sR (M 128) N g) (h1 : M 128 1 = Mc 4 4) (h2' : M 128 2 = Mc 4 5) (h3' : M 128 3 = Mc 20 2) (h2 : ∀ M', uncS Mc N pl g → M' 128 = M 128 → out M' M → Q (some (0, -2)) M') (h3 : ∀ M', ¬ uncS Mc N pl g → (10 ≤ Mc 20 1 ∨ 100 ≤ Mc 20 2) → M' 128 = M 128 → out M' M → Q (some (0, -3)) M') (hx : ∀ M', ¬ uncS Mc N pl g → Mc 20 1 < 10 → Mc 20 2 < 100 → M' 128 = M 128 → (∀ x, 0 ≤ x → x < 3154 → M' 129 x = M 128 x) → out M' M → px_WP 235 0 0 (px_Q0 LAY Q) 98 [(2, 127), (9, 0), (0, Mc 20 1), (0, 1294 + 186 * Mc 20 1), (0, 0), (9, 0)] [] LAY M' 0 0) : px_Ok 235 [(2, 127)] LAY M Q := by
  have h5 := (TE_n hT).1
  have hb := (TE_n hT).2
  have hnx := hnum.1
  have hsb := slot_bd Mc (Mc 4 4)
  have eM : M 128 = M 128 := rfl
  have hu0 : Mc 4 4 = -2 → ¬ uncS Mc N pl g := fun c1 z => by have := slot_neg hnum (show Mc 4 4 < 0 by omega); have := z.1; omega
  refine px_ok_go (inl := [204]) (ls0 := [(2, 127), (9, 0), (9, 0), (9, 0), (9, 0), (9, 0)]) 100 (by decide) (Nat.le_of_ble_eq_true rfl) rfl ?_
  simp only [px_go, px_Q0_at, px_sx_0, px_sx_s, px_cl, px_step, ↓px_ll, px_lg, f4_, ↓px_r1, ↓px_r2, ↓px_r4, ↓px_r5, ↓px_p1, ↓px_p2, ↓px_p3, ↓px_pop, px_k_0, px_k_s, px_k3_0, px_stk_, px_cats, px_ent, px_st1, px_st2, px_mask, ↓px_tsw, ↓px_lsw, ct_, mls_0, mls_1, mls_2, mls_3, mls_4, mls_5, kd_0, kd_1, kd_2, kd_3, ln_0, ln_1, ln_2, ln_3, gf_0, gf_1, gf_2, gf_3, gf_4, gf_7, gf_21, gf_63, dy_0, dy_1, dy_2, dy_3, dy_7, dy_21, px_brT, px_brF, true_and, and_true, and_false, false_and, and_self, true_implies, false_implies, or_true, true_or, or_false, false_or, eq_self, ne_eq, not_false_eq_true, not_true_eq_false, if_true, if_false, List.mem_cons, List.not_mem_nil, List.length_cons, List.length_nil, Nat.reduceEqDiff, Nat.reduceAdd, Nat.reduceSub, Nat.reduceLeDiff, Nat.reduceLT, Int.reduceEq, Int.reduceLT, Int.reduceLE, Int.reduceNeg, Int.reduceAdd, Int.reduceSub, Int.reduceToNat, ↓reduceIte, one_ne_zero_, zero_ne_one_, px_in32L, cd_235, cd_204, h1, h2', h3', h5]
  repeat' (first | (with_reducible apply And.intro) | (with_reducible refine px_br_intro (fun _ => ?_) (fun _ => ?_)))
  all_goals (try (first | (unfold px_in32; omega) | omega))
  · rename_i c1 d1
    exact h3 M (hu0 c1) (Or.inl (by omega)) eM (out_refl M)
  · rename_i c1 d1 d2
    have hu := hu0 c1
    refine sp_beside (fun M9 a1 a2 => ?_)
    have g5 : M9 128 5 = Mc 20 1 := by rw [a2 128 (by decide), eM]; exact h5
    simp only [px_go, px_Q0_at, px_sx_0, px_sx_s, px_cl, px_step, ↓px_ll, px_lg, f4_, ↓px_r1, ↓px_r2, ↓px_r4, ↓px_r5, ↓px_p1, ↓px_p2, ↓px_p3, ↓px_pop, px_k_0, px_k_s, px_k3_0, px_stk_, px_cats, px_ent, px_st1, px_st2, px_mask, ↓px_tsw, ↓px_lsw, ct_, mls_0, mls_1, mls_2, mls_3, mls_4, mls_5, kd_0, kd_1, kd_2, kd_3, ln_0, ln_1, ln_2, ln_3, gf_0, gf_1, gf_2, gf_3, gf_4, gf_7, gf_21, gf_63, dy_0, dy_1, dy_2, dy_3, dy_7, dy_21, px_brT, px_brF, true_and, and_true, and_false, false_and, and_self, true_implies, false_implies, or_true, true_or, or_false, false_or, eq_self, ne_eq, not_false_eq_true, not_true_eq_false, if_true, if_false, List.mem_cons, List.not_mem_nil, List.length_cons, List.length_nil, Nat.reduceEqDiff, Nat.reduceAdd, Nat.reduceSub, Nat.reduceLeDiff, Nat.reduceLT, Int.reduceEq, Int.reduceLT, Int.reduceLE, Int.reduceNeg, Int.reduceAdd, Int.reduceSub, Int.reduceToNat, ↓reduceIte, one_ne_zero_, zero_ne_one_, px_in32L, cd_235, cd_204, g5]
    repeat' (first | (with_reducible apply And.intro) | (with_reducible refine px_br_intro (fun _ => ?_) (fun _ => ?_)))
    all_goals (try (first | (unfold px_in32; omega) | omega))
    exact hx M9 hu (by omega) (by omega) (by rw [a2 128 (by decide), eM]) (fun x x0 x1 => by rw [a1 x x0 x1, eM]) (out_trans ⟨fun b b0 => a2 b (by omega), a2 130 (by decide), by rw [a2 127 (by decide)]⟩ (out_refl M))
  · rename_i c1 d1 d2
    exact h3 M (hu0 c1) (Or.inr (by omega)) eM (out_refl M)
  · refine sp_slotT hT ?_
    simp only [px_go, px_Q0_at, px_sx_0, px_sx_s, px_cl, px_step, ↓px_ll, px_lg, f4_, ↓px_r1, ↓px_r2, ↓px_r4, ↓px_r5, ↓px_p1, ↓px_p2, ↓px_p3, ↓px_pop, px_k_0, px_k_s, px_k3_0, px_stk_, px_cats, px_ent, px_st1, px_st2, px_mask, ↓px_tsw, ↓px_lsw, ct_, mls_0, mls_1, mls_2, mls_3, mls_4, mls_5, kd_0, kd_1, kd_2, kd_3, ln_0, ln_1, ln_2, ln_3, gf_0, gf_1, gf_2, gf_3, gf_4, gf_7, gf_21, gf_63, dy_0, dy_1, dy_2, dy_3, dy_7, dy_21, px_brT, px_brF, true_and, and_true, and_false, false_and, and_self, true_implies, false_implies, or_true, true_or, or_false, false_or, eq_self, ne_eq, not_false_eq_true, not_true_eq_false, if_true, if_false, List.mem_cons, List.not_mem_nil, List.length_cons, List.length_nil, Nat.reduceEqDiff, Nat.reduceAdd, Nat.reduceSub, Nat.reduceLeDiff, Nat.reduceLT, Int.reduceEq, Int.reduceLT, Int.reduceLE, Int.reduceNeg, Int.reduceAdd, Int.reduceSub, Int.reduceToNat, ↓reduceIte, one_ne_zero_, zero_ne_one_, px_in32L, cd_235, cd_204, h1, h2', h3', h5]
    refine px_br_intro (fun c2 => ?_) (fun c2 => ?_)
    · have hu : ¬ uncS Mc N pl g := fun z => by have := z.1; omega
      repeat' (first | (with_reducible apply And.intro) | (with_reducible refine px_br_intro (fun _ => ?_) (fun _ => ?_)))
      all_goals (try (first | (unfold px_in32; omega) | omega))
      · exact h3 M hu (Or.inl (by omega)) eM (out_refl M)
      · rename_i d1 d2
        refine sp_beside (fun M9 a1 a2 => ?_)
        have g5 : M9 128 5 = Mc 20 1 := by rw [a2 128 (by decide), eM]; exact h5
        simp only [px_go, px_Q0_at, px_sx_0, px_sx_s, px_cl, px_step, ↓px_ll, px_lg, f4_, ↓px_r1, ↓px_r2, ↓px_r4, ↓px_r5, ↓px_p1, ↓px_p2, ↓px_p3, ↓px_pop, px_k_0, px_k_s, px_k3_0, px_stk_, px_cats, px_ent, px_st1, px_st2, px_mask, ↓px_tsw, ↓px_lsw, ct_, mls_0, mls_1, mls_2, mls_3, mls_4, mls_5, kd_0, kd_1, kd_2, kd_3, ln_0, ln_1, ln_2, ln_3, gf_0, gf_1, gf_2, gf_3, gf_4, gf_7, gf_21, gf_63, dy_0, dy_1, dy_2, dy_3, dy_7, dy_21, px_brT, px_brF, true_and, and_true, and_false, false_and, and_self, true_implies, false_implies, or_true, true_or, or_false, false_or, eq_self, ne_eq, not_false_eq_true, not_true_eq_false, if_true, if_false, List.mem_cons, List.not_mem_nil, List.length_cons, List.length_nil, Nat.reduceEqDiff, Nat.reduceAdd, Nat.reduceSub, Nat.reduceLeDiff, Nat.reduceLT, Int.reduceEq, Int.reduceLT, Int.reduceLE, Int.reduceNeg, Int.reduceAdd, Int.reduceSub, Int.reduceToNat, ↓reduceIte, one_ne_zero_, zero_ne_one_, px_in32L, cd_235, cd_204, g5]
        repeat' (first | (with_reducible apply And.intro) | (with_reducible refine px_br_intro (fun _ => ?_) (fun _ => ?_)))
        all_goals (try (first | (unfold px_in32; omega) | omega))
        exact hx M9 hu (by omega) (by omega) (by rw [a2 128 (by decide), eM]) (fun x x0 x1 => by rw [a1 x x0 x1, eM]) (out_trans ⟨fun b b0 => a2 b (by omega), a2 130 (by decide), by rw [a2 127 (by decide)]⟩ (out_refl M))
      · exact h3 M hu (Or.inr (by omega)) eM (out_refl M)
    · refine px_br_intro (fun c3 => ?_) (fun c3 => ?_)
      · refine sp_isAs hT hst (by omega) (fun M1 w f => ?_) (fun M1 w f => ?_)
        · simp only [px_go, px_Q0_at, px_sx_0, px_sx_s, px_cl, px_step, ↓px_ll, px_lg, f4_, ↓px_r1, ↓px_r2, ↓px_r4, ↓px_r5, ↓px_p1, ↓px_p2, ↓px_p3, ↓px_pop, px_k_0, px_k_s, px_k3_0, px_stk_, px_cats, px_ent, px_st1, px_st2, px_mask, ↓px_tsw, ↓px_lsw, ct_, mls_0, mls_1, mls_2, mls_3, mls_4, mls_5, kd_0, kd_1, kd_2, kd_3, ln_0, ln_1, ln_2, ln_3, gf_0, gf_1, gf_2, gf_3, gf_4, gf_7, gf_21, gf_63, dy_0, dy_1, dy_2, dy_3, dy_7, dy_21, px_brT, px_brF, true_and, and_true, and_false, false_and, and_self, true_implies, false_implies, or_true, true_or, or_false, false_or, eq_self, ne_eq, not_false_eq_true, not_true_eq_false, if_true, if_false, List.mem_cons, List.not_mem_nil, List.length_cons, List.length_nil, Nat.reduceEqDiff, Nat.reduceAdd, Nat.reduceSub, Nat.reduceLeDiff, Nat.reduceLT, Int.reduceEq, Int.reduceLT, Int.reduceLE, Int.reduceNeg, Int.reduceAdd, Int.reduceSub, Int.reduceToNat, ↓reduceIte, one_ne_zero_, zero_ne_one_, px_in32L, cd_235, cd_204]
          exact h2 M1 ⟨by omega, c3, w⟩ (frE_128 f) (frE_out f)
        · have e1 := frE_128 f
          have k5 : M1 128 5 = Mc 20 1 := by rw [e1]; exact h5
          have k3 : M1 128 3 = Mc 20 2 := by rw [e1]; exact h3'
          have o1 := frE_out f
          have hu : ¬ uncS Mc N pl g := fun z => w z.2.2
          simp only [px_go, px_Q0_at, px_sx_0, px_sx_s, px_cl, px_step, ↓px_ll, px_lg, f4_, ↓px_r1, ↓px_r2, ↓px_r4, ↓px_r5, ↓px_p1, ↓px_p2, ↓px_p3, ↓px_pop, px_k_0, px_k_s, px_k3_0, px_stk_, px_cats, px_ent, px_st1, px_st2, px_mask, ↓px_tsw, ↓px_lsw, ct_, mls_0, mls_1, mls_2, mls_3, mls_4, mls_5, kd_0, kd_1, kd_2, kd_3, ln_0, ln_1, ln_2, ln_3, gf_0, gf_1, gf_2, gf_3, gf_4, gf_7, gf_21, gf_63, dy_0, dy_1, dy_2, dy_3, dy_7, dy_21, px_brT, px_brF, true_and, and_true, and_false, false_and, and_self, true_implies, false_implies, or_true, true_or, or_false, false_or, eq_self, ne_eq, not_false_eq_true, not_true_eq_false, if_true, if_false, List.mem_cons, List.not_mem_nil, List.length_cons, List.length_nil, Nat.reduceEqDiff, Nat.reduceAdd, Nat.reduceSub, Nat.reduceLeDiff, Nat.reduceLT, Int.reduceEq, Int.reduceLT, Int.reduceLE, Int.reduceNeg, Int.reduceAdd, Int.reduceSub, Int.reduceToNat, ↓reduceIte, one_ne_zero_, zero_ne_one_, px_in32L, cd_235, cd_204, k5, k3]
          repeat' (first | (with_reducible apply And.intro) | (with_reducible refine px_br_intro (fun _ => ?_) (fun _ => ?_)))
          all_goals (try (first | (unfold px_in32; omega) | omega))
          · exact h3 M1 hu (Or.inl (by omega)) e1 o1
          · rename_i d1 d2
            refine sp_beside (fun M9 a1 a2 => ?_)
            have g5 : M9 128 5 = Mc 20 1 := by rw [a2 128 (by decide), e1]; exact h5
            simp only [px_go, px_Q0_at, px_sx_0, px_sx_s, px_cl, px_step, ↓px_ll, px_lg, f4_, ↓px_r1, ↓px_r2, ↓px_r4, ↓px_r5, ↓px_p1, ↓px_p2, ↓px_p3, ↓px_pop, px_k_0, px_k_s, px_k3_0, px_stk_, px_cats, px_ent, px_st1, px_st2, px_mask, ↓px_tsw, ↓px_lsw, ct_, mls_0, mls_1, mls_2, mls_3, mls_4, mls_5, kd_0, kd_1, kd_2, kd_3, ln_0, ln_1, ln_2, ln_3, gf_0, gf_1, gf_2, gf_3, gf_4, gf_7, gf_21, gf_63, dy_0, dy_1, dy_2, dy_3, dy_7, dy_21, px_brT, px_brF, true_and, and_true, and_false, false_and, and_self, true_implies, false_implies, or_true, true_or, or_false, false_or, eq_self, ne_eq, not_false_eq_true, not_true_eq_false, if_true, if_false, List.mem_cons, List.not_mem_nil, List.length_cons, List.length_nil, Nat.reduceEqDiff, Nat.reduceAdd, Nat.reduceSub, Nat.reduceLeDiff, Nat.reduceLT, Int.reduceEq, Int.reduceLT, Int.reduceLE, Int.reduceNeg, Int.reduceAdd, Int.reduceSub, Int.reduceToNat, ↓reduceIte, one_ne_zero_, zero_ne_one_, px_in32L, cd_235, cd_204, g5]
            repeat' (first | (with_reducible apply And.intro) | (with_reducible refine px_br_intro (fun _ => ?_) (fun _ => ?_)))
            all_goals (try (first | (unfold px_in32; omega) | omega))
            exact hx M9 hu (by omega) (by omega) (by rw [a2 128 (by decide), e1]) (fun x x0 x1 => by rw [a1 x x0 x1, e1]) (out_trans ⟨fun b b0 => a2 b (by omega), a2 130 (by decide), by rw [a2 127 (by decide)]⟩ o1)
          · exact h3 M1 hu (Or.inr (by omega)) e1 o1
      · have hu : ¬ uncS Mc N pl g := fun z => c3 z.2.1
        repeat' (first | (with_reducible apply And.intro) | (with_reducible refine px_br_intro (fun _ => ?_) (fun _ => ?_)))
        all_goals (try (first | (unfold px_in32; omega) | omega))
        · exact h3 M hu (Or.inl (by omega)) eM (out_refl M)
        · rename_i d1 d2
          refine sp_beside (fun M9 a1 a2 => ?_)
          have g5 : M9 128 5 = Mc 20 1 := by rw [a2 128 (by decide), eM]; exact h5
          simp only [px_go, px_Q0_at, px_sx_0, px_sx_s, px_cl, px_step, ↓px_ll, px_lg, f4_, ↓px_r1, ↓px_r2, ↓px_r4, ↓px_r5, ↓px_p1, ↓px_p2, ↓px_p3, ↓px_pop, px_k_0, px_k_s, px_k3_0, px_stk_, px_cats, px_ent, px_st1, px_st2, px_mask, ↓px_tsw, ↓px_lsw, ct_, mls_0, mls_1, mls_2, mls_3, mls_4, mls_5, kd_0, kd_1, kd_2, kd_3, ln_0, ln_1, ln_2, ln_3, gf_0, gf_1, gf_2, gf_3, gf_4, gf_7, gf_21, gf_63, dy_0, dy_1, dy_2, dy_3, dy_7, dy_21, px_brT, px_brF, true_and, and_true, and_false, false_and, and_self, true_implies, false_implies, or_true, true_or, or_false, false_or, eq_self, ne_eq, not_false_eq_true, not_true_eq_false, if_true, if_false, List.mem_cons, List.not_mem_nil, List.length_cons, List.length_nil, Nat.reduceEqDiff, Nat.reduceAdd, Nat.reduceSub, Nat.reduceLeDiff, Nat.reduceLT, Int.reduceEq, Int.reduceLT, Int.reduceLE, Int.reduceNeg, Int.reduceAdd, Int.reduceSub, Int.reduceToNat, ↓reduceIte, one_ne_zero_, zero_ne_one_, px_in32L, cd_235, cd_204, g5]
          repeat' (first | (with_reducible apply And.intro) | (with_reducible refine px_br_intro (fun _ => ?_) (fun _ => ?_)))
          all_goals (try (first | (unfold px_in32; omega) | omega))
          exact hx M9 hu (by omega) (by omega) (by rw [a2 128 (by decide), eM]) (fun x x0 x1 => by rw [a1 x x0 x1, eM]) (out_trans ⟨fun b b0 => a2 b (by omega), a2 130 (by decide), by rw [a2 127 (by decide)]⟩ (out_refl M))
        · exact h3 M hu (Or.inr (by omega)) eM (out_refl M)
set_option maxHeartbeats 600000 in
set_option maxRecDepth 100000 in
theorem sp_rcommit {Mc : px_mem} {Ms : Nat → px_mem} {k : Nat} {N : Int} {g : Int → fe} {pl : Int → Int → List Int} {nm : Int → List Int} (hT : TE Mc pl nm (M 128)) (hnum : numI Mc) (hst : sR (M 128) N g) (h1 : M 128 1 = Mc 4 4) (h2' : M 128 2 = Mc 4 5) (h3' : M 128 3 = Mc 20 2) (hM0 : tieC (Ms 0) (M 128)) (hch : ∀ i : Nat, i < k → ∃ c, kst (Ms i) (Ms (i + 1)) (g (i : Int)).2 i c) (hkN : (k : Int) ≤ N) (hen : (k : Int) = N ∨ ((k : Int) < N ∧ kfl (Ms k) (g (k : Int)).2)) (hnu : ¬ uncS Mc N pl g) (hn : Mc 20 1 < 10) (hx : Mc 20 2 < 100) (h4 : ∀ M', (k : Int) < N → (∀ x, 0 ≤ x → x < 3154 → M' 128 x = M 128 x) → out M' M → Q (some (0, -4)) M') (h6 : ∀ M', (k : Int) = N → tieC (Ms k) (M' 128) → (∀ x, 4 ≤ x → x < 654 → x ≠ 5 → M' 128 x = M 128 x) → M' 128 0 = N → M' 128 1 = Mc 20 2 → M' 128 2 = -2 → M' 128 3 = Mc 20 2 + 1 → M' 128 5 = Mc 20 1 + 1 → (∀ x, 1294 ≤ x → ¬ (1294 + 186 * Mc 20 1 ≤ x ∧ x < 1294 + 186 * Mc 20 1 + 186) → M' 128 x = M 128 x) → rE (M' 128) (Mc 20 1) 0 = Mc 20 2 → rE (M' 128) (Mc 20 1) 1 = Mc 4 4 → rE (M' 128) (Mc 20 1) 2 = Mc 4 5 → rE (M' 128) (Mc 20 1) 3 = 0 → rE (M' 128) (Mc 20 1) 17 = N → (∀ y, 4 ≤ y → y < 17 → M' 128 (1294 + 186 * Mc 20 1 + y) = 0) → (∀ j, 0 ≤ j → j < N → rpl (M' 128) (Mc 20 1) j = (g j).1 ∧ pok (M' 128) (1294 + 186 * Mc 20 1 + 18 + 14 * j) 3154 ∧ rcf (M' 128) (Mc 20 1) j = Ms k 126 j) → out M' M → Q (some (0, Mc 20 2)) M') : px_Ok 235 [(2, 127)] LAY M Q := by
  have hb := (TE_n hT).2
  have h5 := (TE_n hT).1
  have hnx := hnum.1
  refine sp_rcommit0 hT hnum hst h1 h2' h3' (fun M' z _ _ => absurd z hnu) (fun M' _ z _ _ => by omega) (fun M' _ _ _ e1 e2 o => ?_)
  have hst1 : sR (M' 128) N g := by rw [e1]; exact hst
  refine lp_cm1 (M0 := M') ⟨by omega, hn⟩ rfl (fun M2 a1 a2 => ?_) 0 (by decide) M' (Int.le_refl 0) (fun x => by rw [if_neg (by omega)]) (fun _ _ => rfl)
  have hcm : cmI (M2 128) (M' 128) (Mc 20 1) := ⟨fun x x0 => by rw [a1, if_neg (by omega)], fun x x0 x1 => by rw [a1, if_neg (by omega)]⟩
  refine lp_cm2 (M0 := M') (Ms := Ms) (k := k) ⟨by omega, hn⟩ rfl hst1 hch hkN hen ⟨by rw [e1]; omega, by rw [e1]; omega⟩ (fun x x0 x1 => by rw [e2 x x0 x1, e1]) (fun M3 z1 z2 z3 => h4 M3 z1 (fun x x0 x1 => by rw [z2 x x0 x1, e1]) (out_trans z3 o)) (fun M3 z1 z2 z3 z4 z5 z6 z7 z8 z9 y1 y2 y3 y4 y5 y6 y7 y8 => ?_) 0 hst.2.1 M2 (Int.le_refl 0) (by omega) ?_ ⟨fun y y0 y1 => by rw [a1, if_pos (by omega)], fun j j0 j1 => by omega⟩ hcm (fr8_C a2)
  · rw [e1, h3'] at z5 z7 y1
    rw [e1, h1] at y2
    rw [e1, h2'] at y3
    rw [e1] at z3 z9
    rw [e1, h3']
    exact h6 M3 z1 z2 z3 z4 z5 z6 z7 z8 z9 y1 y2 y3 y4 y5 y6 y7 (out_trans y8 o)
  · show tieC (Ms 0) _
    exact tieC_frame hM0 (fun x x0 x1 => by rw [a1, if_neg (by omega), e1])
end PS
