/-! EditionVault.Contents: keepNew -/
theorem kn_mem {M M1 M2 M3 : px_mem} {c v n m b l p d s : Int} (hc : 0 ≤ c ∧ c < 40) (hv : v < 53) (e3 : ∀ b, b ≠ 106 → b ≠ 107 → M1 b = M b) (p1 : ∀ x, M2 53 x = if p ≤ x ∧ x < p + l then M1 s (x - p) else M1 53 x) (p2 : ∀ b, b ≠ 53 → M2 b = M1 b) (o1 : ∀ x, M3 54 x = if p ≤ x ∧ x < p + l then c else M2 54 x) (o2 : ∀ b, b ≠ 54 → M3 b = M2 b) (hd : d = if b < 0 then 0 else M 62 b + 1) : kept M (px_up (px_up (px_up (px_up (px_up (px_up M3 57 c n) 58 c m) 59 c p) 60 c l) 61 c b) 62 c d) c n m b l p (M1 s) ∧ ∀ x, x ≠ 53 → x ≠ 54 → x ≠ 57 → x ≠ 58 → x ≠ 59 → x ≠ 60 → x ≠ 61 → x ≠ 62 → x ≠ 106 → x ≠ 107 → px_up (px_up (px_up (px_up (px_up (px_up M3 57 c n) 58 c m) 59 c p) 60 c l) 61 c b) 62 c d x = M x := by
  have f3 : ∀ x, x ≠ 53 → x ≠ 54 → x ≠ 106 → x ≠ 107 → M3 x = M x := fun x a1 a2 a3 a4 => by rw [o2 x a2, p2 x a1, e3 x a3 a4]
  have g57 := f3 57 (by decide) (by decide) (by decide) (by decide)
  have g58 := f3 58 (by decide) (by decide) (by decide) (by decide)
  have g59 := f3 59 (by decide) (by decide) (by decide) (by decide)
  have g60 := f3 60 (by decide) (by decide) (by decide) (by decide)
  have g61 := f3 61 (by decide) (by decide) (by decide) (by decide)
  have g62 := f3 62 (by decide) (by decide) (by decide) (by decide)
  refine ⟨⟨fun x => ?_, fun x => ?_, fun x => ?_, fun x => ?_, fun x => ?_, fun x => ?_, fun x => ?_, fun x => ?_⟩, fun x a1 a2 a3 a4 a5 a6 a7 a8 a9 a10 => ?_⟩
  · simp only [px_up_at, g57, Int.reduceEq, false_and, true_and, if_false]
  · simp only [px_up_at, g58, Int.reduceEq, false_and, true_and, if_false]
  · simp only [px_up_at, g59, Int.reduceEq, false_and, true_and, if_false]
  · simp only [px_up_at, g60, Int.reduceEq, false_and, true_and, if_false]
  · simp only [px_up_at, g61, Int.reduceEq, false_and, true_and, if_false]
  · simp only [px_up_at, g62, hd, Int.reduceEq, false_and, true_and, if_false]
  · simp only [px_up_at, Int.reduceEq, false_and, if_false]
    rw [o2 53 (by decide), p1 x, e3 53 (by decide) (by decide)]
  · simp only [px_up_at, Int.reduceEq, false_and, if_false]
    rw [o1 x, p2 54 (by decide), e3 54 (by decide) (by decide)]
  · rw [row_ne a8, row_ne a7, row_ne a6, row_ne a5, row_ne a4, row_ne a3]
    exact f3 x a1 a2 a9 a10
section PS
variable {M : px_mem} {Q : Option pv → px_mem → Prop}
set_option maxHeartbeats 600000 in
set_option maxRecDepth 100000 in
theorem sp_keepNew {v n : Int} (hci : ci M) (hv : 8 ≤ v ∧ v < 20) (hn : 0 ≤ n ∧ n ≤ 40) (hbv : ∀ j, 0 ≤ j → j < n → 0 ≤ M v j ∧ M v j < 256) (h1 : fnd 40 (fun c => M 62 c < 0) = -1 → Q (some (0, -1)) M) (h2 : ∀ M' b l, isBest M v n 62 40 b l → rmF (fun k => M 54 k < 0) l = -1 → (∀ b, b ≠ 106 → b ≠ 107 → M' b = M b) → Q (some (0, -1)) M') (h3 : ∀ M' c b l p P, fnd 40 (fun c => M 62 c < 0) = c → 0 ≤ c → c < 40 → M 62 c < 0 → isBest M v n 62 40 b l → rmF (fun k => M 54 k < 0) l = p → 0 ≤ p → (b < 0 → P = M v) → (0 ≤ b → lst P l = pcs M v n b) → kept M M' c n (mk (M v) n) b l p P → ci M' → (∀ x, x ≠ 53 → x ≠ 54 → ¬ (57 ≤ x ∧ x ≤ 62) → x ≠ 64 + c → ¬ (104 ≤ x ∧ x ≤ 107) → M' x = M x) → (∀ x, x ≠ c → M' 104 x = M 104 x ∧ M' 105 x = M 105 x) → Q (some (0, c)) M') : px_Ok 18 [(2, 56), (2, v), (0, n)] LAY M Q := by
  refine px_ok_go (inl := []) (ls0 := [(2, 56), (2, v), (0, n), (9, 0), (9, 0), (9, 0), (9, 0)]) 120 (by decide) (Nat.le_of_ble_eq_true rfl) rfl ?_
  simp only [px_go, px_Q0_at, px_sx_0, px_sx_s, px_cl, px_step, ↓px_ll, px_lg, f4_, ↓px_r1, ↓px_r2, ↓px_r4, ↓px_r5, ↓px_p1, ↓px_p2, ↓px_p3, ↓px_pop, px_k_0, px_k_s, px_k3_0, px_stk_, px_cats, px_ent, px_st1, px_st2, px_mask, ↓px_tsw, ↓px_lsw, ct_, mls_0, mls_1, mls_2, mls_3, mls_4, mls_5, kd_0, kd_1, kd_2, kd_3, ln_0, ln_1, ln_2, ln_3, gf_0, gf_1, gf_2, gf_3, gf_4, gf_7, gf_21, gf_63, dy_0, dy_1, dy_2, dy_3, dy_7, dy_21, px_brT, px_brF, true_and, and_true, and_false, false_and, and_self, true_implies, false_implies, or_true, true_or, or_false, false_or, eq_self, ne_eq, not_false_eq_true, not_true_eq_false, if_true, if_false, List.mem_cons, List.not_mem_nil, List.length_cons, List.length_nil, Nat.reduceEqDiff, Nat.reduceAdd, Nat.reduceSub, Nat.reduceLeDiff, Nat.reduceLT, Int.reduceEq, Int.reduceLT, Int.reduceLE, Int.reduceNeg, Int.reduceAdd, Int.reduceSub, Int.reduceToNat, ↓reduceIte, one_ne_zero_, zero_ne_one_, px_in32L, cd_18]
  repeat' (first | (with_reducible apply And.intro) | (with_reducible refine px_br_intro (fun _ => ?_) (fun _ => ?_)))
  all_goals (try (first | (unfold px_in32; omega) | omega))
  refine sp_leastFree ?_
  have hlay := row_lay (v := v) (Or.inl hv)
  obtain ⟨i1, i2, i3, i4, i5⟩ := hci
  have hci : ci M := ⟨i1, i2, i3, i4, i5⟩
  rcases fnd_spec 40 (fun c => M 62 c < 0) with hq | ⟨q0, q1, q2, q3⟩
  · rw [hq.1] at h1 ⊢
    simp only [px_go, px_Q0_at, px_sx_0, px_sx_s, px_cl, px_step, ↓px_ll, px_lg, f4_, ↓px_r1, ↓px_r2, ↓px_r4, ↓px_r5, ↓px_p1, ↓px_p2, ↓px_p3, ↓px_pop, px_k_0, px_k_s, px_k3_0, px_stk_, px_cats, px_ent, px_st1, px_st2, px_mask, ↓px_tsw, ↓px_lsw, ct_, mls_0, mls_1, mls_2, mls_3, mls_4, mls_5, kd_0, kd_1, kd_2, kd_3, ln_0, ln_1, ln_2, ln_3, gf_0, gf_1, gf_2, gf_3, gf_4, gf_7, gf_21, gf_63, dy_0, dy_1, dy_2, dy_3, dy_7, dy_21, px_brT, px_brF, true_and, and_true, and_false, false_and, and_self, true_implies, false_implies, or_true, true_or, or_false, false_or, eq_self, ne_eq, not_false_eq_true, not_true_eq_false, if_true, if_false, List.mem_cons, List.not_mem_nil, List.length_cons, List.length_nil, Nat.reduceEqDiff, Nat.reduceAdd, Nat.reduceSub, Nat.reduceLeDiff, Nat.reduceLT, Int.reduceEq, Int.reduceLT, Int.reduceLE, Int.reduceNeg, Int.reduceAdd, Int.reduceSub, Int.reduceToNat, ↓reduceIte, one_ne_zero_, zero_ne_one_, px_in32L, cd_18]
    exact h1 rfl
  · generalize hqq : fnd 40 (fun c => M 62 c < 0) = c at *
    have q2 : M 62 c < 0 := q2
    simp only [px_go, px_Q0_at, px_sx_0, px_sx_s, px_cl, px_step, ↓px_ll, px_lg, f4_, ↓px_r1, ↓px_r2, ↓px_r4, ↓px_r5, ↓px_p1, ↓px_p2, ↓px_p3, ↓px_pop, px_k_0, px_k_s, px_k3_0, px_stk_, px_cats, px_ent, px_st1, px_st2, px_mask, ↓px_tsw, ↓px_lsw, ct_, mls_0, mls_1, mls_2, mls_3, mls_4, mls_5, kd_0, kd_1, kd_2, kd_3, ln_0, ln_1, ln_2, ln_3, gf_0, gf_1, gf_2, gf_3, gf_4, gf_7, gf_21, gf_63, dy_0, dy_1, dy_2, dy_3, dy_7, dy_21, px_brT, px_brF, true_and, and_true, and_false, false_and, and_self, true_implies, false_implies, or_true, true_or, or_false, false_or, eq_self, ne_eq, not_false_eq_true, not_true_eq_false, if_true, if_false, List.mem_cons, List.not_mem_nil, List.length_cons, List.length_nil, Nat.reduceEqDiff, Nat.reduceAdd, Nat.reduceSub, Nat.reduceLeDiff, Nat.reduceLT, Int.reduceEq, Int.reduceLT, Int.reduceLE, Int.reduceNeg, Int.reduceAdd, Int.reduceSub, Int.reduceToNat, ↓reduceIte, one_ne_zero_, zero_ne_one_, px_in32L, cd_18]
    repeat' (first | (with_reducible apply And.intro) | (with_reducible refine px_br_intro (fun _ => ?_) (fun _ => ?_)))
    all_goals (try (first | (unfold px_in32; omega) | omega))
    refine sp_bestBase hlay.1 (by omega) (by omega) rfl rfl (by decide) hn.1 hn.2 (fun x x0 x1 x2 => by have := cokC (i1 x x0 x1 x2.1); omega) hbv (fun M1 b l e1 e2 e3 => ?_)
    have f62 := e3 62 (by decide) (by decide)
    have f54 := e3 54 (by decide) (by decide)
    have hb : (b = -2 ∧ l = n) ∨ (0 ≤ b ∧ b < 40 ∧ 0 ≤ M 62 b ∧ M 62 b < 3 ∧ l < n ∧ 0 ≤ l) := by
      rcases e1 with x | ⟨x0, x1, x2, x3, x4, x5, x6⟩
      · exact Or.inl ⟨x.1, x.2.1⟩
      · exact Or.inr ⟨x0, x1, x2.1, x2.2.1, x4, by rw [← x3]; exact Int.natCast_nonneg _⟩
    simp only [px_go, px_Q0_at, px_sx_0, px_sx_s, px_cl, px_step, ↓px_ll, px_lg, f4_, ↓px_r1, ↓px_r2, ↓px_r4, ↓px_r5, ↓px_p1, ↓px_p2, ↓px_p3, ↓px_pop, px_k_0, px_k_s, px_k3_0, px_stk_, px_cats, px_ent, px_st1, px_st2, px_mask, ↓px_tsw, ↓px_lsw, ct_, mls_0, mls_1, mls_2, mls_3, mls_4, mls_5, kd_0, kd_1, kd_2, kd_3, ln_0, ln_1, ln_2, ln_3, gf_0, gf_1, gf_2, gf_3, gf_4, gf_7, gf_21, gf_63, dy_0, dy_1, dy_2, dy_3, dy_7, dy_21, px_brT, px_brF, true_and, and_true, and_false, false_and, and_self, true_implies, false_implies, or_true, true_or, or_false, false_or, eq_self, ne_eq, not_false_eq_true, not_true_eq_false, if_true, if_false, List.mem_cons, List.not_mem_nil, List.length_cons, List.length_nil, Nat.reduceEqDiff, Nat.reduceAdd, Nat.reduceSub, Nat.reduceLeDiff, Nat.reduceLT, Int.reduceEq, Int.reduceLT, Int.reduceLE, Int.reduceNeg, Int.reduceAdd, Int.reduceSub, Int.reduceToNat, ↓reduceIte, one_ne_zero_, zero_ne_one_, px_in32L, cd_18]
    repeat' (first | (with_reducible apply And.intro) | (with_reducible refine px_br_intro (fun _ => ?_) (fun _ => ?_)))
    all_goals (try (first | (unfold px_in32; omega) | omega))
    · rename_i c1
      have hl : M1 106 1 = l := (e2 (by omega)).1
      have hlst := (e2 (by omega)).2
      rw [hl]
      refine sp_roomFor (by omega) (by omega) ?_
      rw [f54]
      have hrs := rmF_spec (p := fun k => M 54 k < 0) (n := l) (by omega)
      have h2 := h2 M1 b l e1
      generalize hp : rmF (fun k => M 54 k < 0) l = p at *
      simp only [px_go, px_Q0_at, px_sx_0, px_sx_s, px_cl, px_step, ↓px_ll, px_lg, f4_, ↓px_r1, ↓px_r2, ↓px_r4, ↓px_r5, ↓px_p1, ↓px_p2, ↓px_p3, ↓px_pop, px_k_0, px_k_s, px_k3_0, px_stk_, px_cats, px_ent, px_st1, px_st2, px_mask, ↓px_tsw, ↓px_lsw, ct_, mls_0, mls_1, mls_2, mls_3, mls_4, mls_5, kd_0, kd_1, kd_2, kd_3, ln_0, ln_1, ln_2, ln_3, gf_0, gf_1, gf_2, gf_3, gf_4, gf_7, gf_21, gf_63, dy_0, dy_1, dy_2, dy_3, dy_7, dy_21, px_brT, px_brF, true_and, and_true, and_false, false_and, and_self, true_implies, false_implies, or_true, true_or, or_false, false_or, eq_self, ne_eq, not_false_eq_true, not_true_eq_false, if_true, if_false, List.mem_cons, List.not_mem_nil, List.length_cons, List.length_nil, Nat.reduceEqDiff, Nat.reduceAdd, Nat.reduceSub, Nat.reduceLeDiff, Nat.reduceLT, Int.reduceEq, Int.reduceLT, Int.reduceLE, Int.reduceNeg, Int.reduceAdd, Int.reduceSub, Int.reduceToNat, ↓reduceIte, one_ne_zero_, zero_ne_one_, px_in32L, cd_18]
      repeat' (first | (with_reducible apply And.intro) | (with_reducible refine px_br_intro (fun _ => ?_) (fun _ => ?_)))
      all_goals (try (first | (unfold px_in32; omega) | omega))
      · have hfree : ∀ x, p ≤ x → x < p + l → M 54 x < 0 := by
          rcases hrs with hr | ⟨_, _, hr⟩ | hr
          · intro x x0 x1; omega
          · exact hr
          · intro x x0 x1; omega
        refine sp_put (by omega) (by omega) (by omega) rfl (by omega) (by rw [show px_ln LAY 107 = 80 from rfl]; omega) (by rw [show px_ln LAY 107 = 80 from rfl]; omega) (fun M2 p1 p2 => ?_)
        simp only [px_go, px_Q0_at, px_sx_0, px_sx_s, px_cl, px_step, ↓px_ll, px_lg, f4_, ↓px_r1, ↓px_r2, ↓px_r4, ↓px_r5, ↓px_p1, ↓px_p2, ↓px_p3, ↓px_pop, px_k_0, px_k_s, px_k3_0, px_stk_, px_cats, px_ent, px_st1, px_st2, px_mask, ↓px_tsw, ↓px_lsw, ct_, mls_0, mls_1, mls_2, mls_3, mls_4, mls_5, kd_0, kd_1, kd_2, kd_3, ln_0, ln_1, ln_2, ln_3, gf_0, gf_1, gf_2, gf_3, gf_4, gf_7, gf_21, gf_63, dy_0, dy_1, dy_2, dy_3, dy_7, dy_21, px_brT, px_brF, true_and, and_true, and_false, false_and, and_self, true_implies, false_implies, or_true, true_or, or_false, false_or, eq_self, ne_eq, not_false_eq_true, not_true_eq_false, if_true, if_false, List.mem_cons, List.not_mem_nil, List.length_cons, List.length_nil, Nat.reduceEqDiff, Nat.reduceAdd, Nat.reduceSub, Nat.reduceLeDiff, Nat.reduceLT, Int.reduceEq, Int.reduceLT, Int.reduceLE, Int.reduceNeg, Int.reduceAdd, Int.reduceSub, Int.reduceToNat, ↓reduceIte, one_ne_zero_, zero_ne_one_, px_in32L, cd_18]
        refine sp_own (by omega) (by omega) (by omega) (fun M3 o1 o2 => ?_)
        simp only [px_go, px_Q0_at, px_sx_0, px_sx_s, px_cl, px_step, ↓px_ll, px_lg, f4_, ↓px_r1, ↓px_r2, ↓px_r4, ↓px_r5, ↓px_p1, ↓px_p2, ↓px_p3, ↓px_pop, px_k_0, px_k_s, px_k3_0, px_stk_, px_cats, px_ent, px_st1, px_st2, px_mask, ↓px_tsw, ↓px_lsw, ct_, mls_0, mls_1, mls_2, mls_3, mls_4, mls_5, kd_0, kd_1, kd_2, kd_3, ln_0, ln_1, ln_2, ln_3, gf_0, gf_1, gf_2, gf_3, gf_4, gf_7, gf_21, gf_63, dy_0, dy_1, dy_2, dy_3, dy_7, dy_21, px_brT, px_brF, true_and, and_true, and_false, false_and, and_self, true_implies, false_implies, or_true, true_or, or_false, false_or, eq_self, ne_eq, not_false_eq_true, not_true_eq_false, if_true, if_false, List.mem_cons, List.not_mem_nil, List.length_cons, List.length_nil, Nat.reduceEqDiff, Nat.reduceAdd, Nat.reduceSub, Nat.reduceLeDiff, Nat.reduceLT, Int.reduceEq, Int.reduceLT, Int.reduceLE, Int.reduceNeg, Int.reduceAdd, Int.reduceSub, Int.reduceToNat, ↓reduceIte, one_ne_zero_, zero_ne_one_, px_in32L, cd_18]
        repeat' (first | (with_reducible apply And.intro) | (with_reducible refine px_br_intro (fun _ => ?_) (fun _ => ?_)))
        all_goals (try (first | (unfold px_in32; omega) | omega))
        refine sp_markOf (by omega) hlay.1 (by omega) (by omega) ?_ ?_
        · rw [row_ne (by omega), o2 v (by omega), p2 v (by omega), e3 v (by omega) (by omega)]
          exact hbv
        · simp only [px_go, px_Q0_at, px_sx_0, px_sx_s, px_cl, px_step, ↓px_ll, px_lg, f4_, ↓px_r1, ↓px_r2, ↓px_r4, ↓px_r5, ↓px_p1, ↓px_p2, ↓px_p3, ↓px_pop, px_k_0, px_k_s, px_k3_0, px_stk_, px_cats, px_ent, px_st1, px_st2, px_mask, ↓px_tsw, ↓px_lsw, ct_, mls_0, mls_1, mls_2, mls_3, mls_4, mls_5, kd_0, kd_1, kd_2, kd_3, ln_0, ln_1, ln_2, ln_3, gf_0, gf_1, gf_2, gf_3, gf_4, gf_7, gf_21, gf_63, dy_0, dy_1, dy_2, dy_3, dy_7, dy_21, px_brT, px_brF, true_and, and_true, and_false, false_and, and_self, true_implies, false_implies, or_true, true_or, or_false, false_or, eq_self, ne_eq, not_false_eq_true, not_true_eq_false, if_true, if_false, List.mem_cons, List.not_mem_nil, List.length_cons, List.length_nil, Nat.reduceEqDiff, Nat.reduceAdd, Nat.reduceSub, Nat.reduceLeDiff, Nat.reduceLT, Int.reduceEq, Int.reduceLT, Int.reduceLE, Int.reduceNeg, Int.reduceAdd, Int.reduceSub, Int.reduceToNat, ↓reduceIte, one_ne_zero_, zero_ne_one_, px_in32L, cd_18]
          repeat' (first | (with_reducible apply And.intro) | (with_reducible refine px_br_intro (fun _ => ?_) (fun _ => ?_)))
          all_goals (try (first | (unfold px_in32; omega) | omega))
          · unfold px_in32
            have e62 : px_up (px_up (px_up (px_up (px_up M3 57 c n) 58 c (mk (px_up M3 57 c n v) n)) 59 c p) 60 c l) 61 c b 62 b = M 62 b := by
              rw [row_ne (by decide), row_ne (by decide), row_ne (by decide), row_ne (by decide), row_ne (by decide), o2 62 (by decide), p2 62 (by decide), e3 62 (by decide) (by decide)]
            rw [e62]
            omega
          have e62 : px_up (px_up (px_up (px_up (px_up M3 57 c n) 58 c (mk (px_up M3 57 c n v) n)) 59 c p) 60 c l) 61 c b 62 b = M 62 b := by
            rw [row_ne (by decide), row_ne (by decide), row_ne (by decide), row_ne (by decide), row_ne (by decide), o2 62 (by decide), p2 62 (by decide), e3 62 (by decide) (by decide)]
          rw [e62]
          have hkm := kn_mem (M := M) (c := c) (v := v) (n := n) (m := mk (px_up M3 57 c n v) n) (b := b) (l := l) (p := p) (d := (M 62 b + 1)) ⟨q0, q1⟩ (by omega) e3 p1 p2 o1 o2 (by rw [if_neg (by omega)])
          have hPr : ∀ k, 0 ≤ k → k < l → 0 ≤ M1 107 k ∧ M1 107 k < 256 := fun k k0 k1 => by
            have hmem : M1 107 k ∈ pcs M v n b := by rw [← hlst]; exact lst_mem.mpr ⟨k, k0, k1, rfl⟩
            exact pcs_rng hn.1 hn.2 (by have := cokC (i1 b (by omega) (by omega) (by omega)); omega) hbv _ hmem
          have hP2 : b < 0 → M1 107 = M v := fun z => by omega
          have hP3 : 0 ≤ b → lst (M1 107) l = pcs M v n b := fun _ => hlst
          have em : px_up M3 57 c n v = M v := by rw [row_ne (by omega), o2 v (by omega), p2 v (by omega), e3 v (by omega) (by omega)]
          rw [em] at hkm ⊢
          generalize px_up (px_up (px_up (px_up (px_up (px_up M3 57 c n) 58 c (mk (M v) n)) 59 c p) 60 c l) 61 c b) 62 c (M 62 b + 1) = M4 at *
          have hok := kept_ok hci ⟨q0, q1, q2⟩ hn (mk_rng (M v) n) hb ⟨by omega, by omega⟩ hfree hPr hkm.1 (fun x x0 x1 x2 => by
            rw [hkm.2 (64 + x) (by omega) (by omega) (by omega) (by omega) (by omega) (by omega) (by omega) (by omega) (by omega) (by omega), hkm.2 104 (by omega) (by omega) (by omega) (by omega) (by omega) (by omega) (by omega) (by omega) (by omega) (by omega), hkm.2 105 (by omega) (by omega) (by omega) (by omega) (by omega) (by omega) (by omega) (by omega) (by omega) (by omega)]
            exact ⟨rfl, rfl, rfl⟩)
          have k62 := hkm.1.2.2.2.2.2.1 c
          have k61 := hkm.1.2.2.2.2.1 c
          rw [if_pos rfl] at k62 k61
          refine sp_readOne ⟨q0, q1⟩ hok.1 hok.2.1 (by rw [k62]; split <;> omega) (fun hx => ?_) (fun M5 g1 g2 g3 => ?_)
          · rw [k61] at hx ⊢
            exact hok.2.2.2.2 b (by omega) (by omega) (fun z => by rw [z] at hb; omega) (by omega)
          · simp only [px_go, px_Q0_at, px_sx_0, px_sx_s, px_cl, px_step, ↓px_ll, px_lg, f4_, ↓px_r1, ↓px_r2, ↓px_r4, ↓px_r5, ↓px_p1, ↓px_p2, ↓px_p3, ↓px_pop, px_k_0, px_k_s, px_k3_0, px_stk_, px_cats, px_ent, px_st1, px_st2, px_mask, ↓px_tsw, ↓px_lsw, ct_, mls_0, mls_1, mls_2, mls_3, mls_4, mls_5, kd_0, kd_1, kd_2, kd_3, ln_0, ln_1, ln_2, ln_3, gf_0, gf_1, gf_2, gf_3, gf_4, gf_7, gf_21, gf_63, dy_0, dy_1, dy_2, dy_3, dy_7, dy_21, px_brT, px_brF, true_and, and_true, and_false, false_and, and_self, true_implies, false_implies, or_true, true_or, or_false, false_or, eq_self, ne_eq, not_false_eq_true, not_true_eq_false, if_true, if_false, List.mem_cons, List.not_mem_nil, List.length_cons, List.length_nil, Nat.reduceEqDiff, Nat.reduceAdd, Nat.reduceSub, Nat.reduceLeDiff, Nat.reduceLT, Int.reduceEq, Int.reduceLT, Int.reduceLE, Int.reduceNeg, Int.reduceAdd, Int.reduceSub, Int.reduceToNat, ↓reduceIte, one_ne_zero_, zero_ne_one_, px_in32L, cd_18]
            have hk5 : kept M M5 c n (mk (M v) n) b l p (M1 107) := by
              unfold kept
              rw [g2 57 (by omega) (by omega) (by omega), g2 58 (by omega) (by omega) (by omega), g2 59 (by omega) (by omega) (by omega), g2 60 (by omega) (by omega) (by omega), g2 61 (by omega) (by omega) (by omega), g2 62 (by omega) (by omega) (by omega), g2 53 (by omega) (by omega) (by omega), g2 54 (by omega) (by omega) (by omega)]
              exact hkm.1
            have h64 : ∀ x, 0 ≤ x → x < 40 → x ≠ c → M5 (64 + x) = M (64 + x) := fun x x0 x1 x2 => by
              rw [g2 (64 + x) (by omega) (by omega) (by omega)]
              exact hkm.2 _ (by omega) (by omega) (by omega) (by omega) (by omega) (by omega) (by omega) (by omega) (by omega) (by omega)
            have h104 : ∀ x, x ≠ c → M5 104 x = M 104 x ∧ M5 105 x = M 105 x := fun x x2 => by
              have := g3 x x2
              rw [hkm.2 104 (by omega) (by omega) (by omega) (by omega) (by omega) (by omega) (by omega) (by omega) (by omega) (by omega), hkm.2 105 (by omega) (by omega) (by omega) (by omega) (by omega) (by omega) (by omega) (by omega) (by omega) (by omega)] at this
              exact this
            have hok5 := kept_ok hci ⟨q0, q1, q2⟩ hn (mk_rng (M v) n) hb ⟨by omega, by omega⟩ hfree hPr hk5 (fun x x0 x1 x2 => ⟨h64 x x0 x1 x2, h104 x x2⟩)
            refine h3 M5 c b l p (M1 107) rfl q0 q1 q2 e1 hp (by omega) hP2 hP3 hk5 ⟨hok5.1, hok5.2.1, hok5.2.2.1, hok5.2.2.2.1, fun x x0 x1 x2 => ?_⟩ (fun x a1 a2 a3 a4 a5 => ?_) h104
            · by_cases e : x = c
              · rw [e]; exact g1
              · have k := hk5.2.2.2.2.2.1 x
                rw [if_neg e] at k
                exact hok5.2.2.2.2 x x0 x1 e (by omega)
            · rw [g2 x a4 (by omega) (by omega)]
              exact hkm.2 x a1 a2 (by omega) (by omega) (by omega) (by omega) (by omega) (by omega) (by omega) (by omega)
      · exact h2 (by omega) e3
    · rename_i c1
      have hl : l = n := by omega
      subst hl
      refine sp_roomFor (by omega) (by omega) ?_
      rw [f54]
      have hrs := rmF_spec (p := fun k => M 54 k < 0) (n := l) (by omega)
      have h2 := h2 M1 b l e1
      generalize hp : rmF (fun k => M 54 k < 0) l = p at *
      simp only [px_go, px_Q0_at, px_sx_0, px_sx_s, px_cl, px_step, ↓px_ll, px_lg, f4_, ↓px_r1, ↓px_r2, ↓px_r4, ↓px_r5, ↓px_p1, ↓px_p2, ↓px_p3, ↓px_pop, px_k_0, px_k_s, px_k3_0, px_stk_, px_cats, px_ent, px_st1, px_st2, px_mask, ↓px_tsw, ↓px_lsw, ct_, mls_0, mls_1, mls_2, mls_3, mls_4, mls_5, kd_0, kd_1, kd_2, kd_3, ln_0, ln_1, ln_2, ln_3, gf_0, gf_1, gf_2, gf_3, gf_4, gf_7, gf_21, gf_63, dy_0, dy_1, dy_2, dy_3, dy_7, dy_21, px_brT, px_brF, true_and, and_true, and_false, false_and, and_self, true_implies, false_implies, or_true, true_or, or_false, false_or, eq_self, ne_eq, not_false_eq_true, not_true_eq_false, if_true, if_false, List.mem_cons, List.not_mem_nil, List.length_cons, List.length_nil, Nat.reduceEqDiff, Nat.reduceAdd, Nat.reduceSub, Nat.reduceLeDiff, Nat.reduceLT, Int.reduceEq, Int.reduceLT, Int.reduceLE, Int.reduceNeg, Int.reduceAdd, Int.reduceSub, Int.reduceToNat, ↓reduceIte, one_ne_zero_, zero_ne_one_, px_in32L, cd_18]
      repeat' (first | (with_reducible apply And.intro) | (with_reducible refine px_br_intro (fun _ => ?_) (fun _ => ?_)))
      all_goals (try (first | (unfold px_in32; omega) | omega))
      · have hfree : ∀ x, p ≤ x → x < p + l → M 54 x < 0 := by
          rcases hrs with hr | ⟨_, _, hr⟩ | hr
          · intro x x0 x1; omega
          · exact hr
          · intro x x0 x1; omega
        refine sp_put (by omega) (by omega) (by omega) hlay.1 (by omega) (by omega) (by omega) (fun M2 p1 p2 => ?_)
        simp only [px_go, px_Q0_at, px_sx_0, px_sx_s, px_cl, px_step, ↓px_ll, px_lg, f4_, ↓px_r1, ↓px_r2, ↓px_r4, ↓px_r5, ↓px_p1, ↓px_p2, ↓px_p3, ↓px_pop, px_k_0, px_k_s, px_k3_0, px_stk_, px_cats, px_ent, px_st1, px_st2, px_mask, ↓px_tsw, ↓px_lsw, ct_, mls_0, mls_1, mls_2, mls_3, mls_4, mls_5, kd_0, kd_1, kd_2, kd_3, ln_0, ln_1, ln_2, ln_3, gf_0, gf_1, gf_2, gf_3, gf_4, gf_7, gf_21, gf_63, dy_0, dy_1, dy_2, dy_3, dy_7, dy_21, px_brT, px_brF, true_and, and_true, and_false, false_and, and_self, true_implies, false_implies, or_true, true_or, or_false, false_or, eq_self, ne_eq, not_false_eq_true, not_true_eq_false, if_true, if_false, List.mem_cons, List.not_mem_nil, List.length_cons, List.length_nil, Nat.reduceEqDiff, Nat.reduceAdd, Nat.reduceSub, Nat.reduceLeDiff, Nat.reduceLT, Int.reduceEq, Int.reduceLT, Int.reduceLE, Int.reduceNeg, Int.reduceAdd, Int.reduceSub, Int.reduceToNat, ↓reduceIte, one_ne_zero_, zero_ne_one_, px_in32L, cd_18]
        refine sp_own (by omega) (by omega) (by omega) (fun M3 o1 o2 => ?_)
        simp only [px_go, px_Q0_at, px_sx_0, px_sx_s, px_cl, px_step, ↓px_ll, px_lg, f4_, ↓px_r1, ↓px_r2, ↓px_r4, ↓px_r5, ↓px_p1, ↓px_p2, ↓px_p3, ↓px_pop, px_k_0, px_k_s, px_k3_0, px_stk_, px_cats, px_ent, px_st1, px_st2, px_mask, ↓px_tsw, ↓px_lsw, ct_, mls_0, mls_1, mls_2, mls_3, mls_4, mls_5, kd_0, kd_1, kd_2, kd_3, ln_0, ln_1, ln_2, ln_3, gf_0, gf_1, gf_2, gf_3, gf_4, gf_7, gf_21, gf_63, dy_0, dy_1, dy_2, dy_3, dy_7, dy_21, px_brT, px_brF, true_and, and_true, and_false, false_and, and_self, true_implies, false_implies, or_true, true_or, or_false, false_or, eq_self, ne_eq, not_false_eq_true, not_true_eq_false, if_true, if_false, List.mem_cons, List.not_mem_nil, List.length_cons, List.length_nil, Nat.reduceEqDiff, Nat.reduceAdd, Nat.reduceSub, Nat.reduceLeDiff, Nat.reduceLT, Int.reduceEq, Int.reduceLT, Int.reduceLE, Int.reduceNeg, Int.reduceAdd, Int.reduceSub, Int.reduceToNat, ↓reduceIte, one_ne_zero_, zero_ne_one_, px_in32L, cd_18]
        repeat' (first | (with_reducible apply And.intro) | (with_reducible refine px_br_intro (fun _ => ?_) (fun _ => ?_)))
        all_goals (try (first | (unfold px_in32; omega) | omega))
        refine sp_markOf (by omega) hlay.1 (by omega) (by omega) ?_ ?_
        · rw [row_ne (by omega), o2 v (by omega), p2 v (by omega), e3 v (by omega) (by omega)]
          exact hbv
        · simp only [px_go, px_Q0_at, px_sx_0, px_sx_s, px_cl, px_step, ↓px_ll, px_lg, f4_, ↓px_r1, ↓px_r2, ↓px_r4, ↓px_r5, ↓px_p1, ↓px_p2, ↓px_p3, ↓px_pop, px_k_0, px_k_s, px_k3_0, px_stk_, px_cats, px_ent, px_st1, px_st2, px_mask, ↓px_tsw, ↓px_lsw, ct_, mls_0, mls_1, mls_2, mls_3, mls_4, mls_5, kd_0, kd_1, kd_2, kd_3, ln_0, ln_1, ln_2, ln_3, gf_0, gf_1, gf_2, gf_3, gf_4, gf_7, gf_21, gf_63, dy_0, dy_1, dy_2, dy_3, dy_7, dy_21, px_brT, px_brF, true_and, and_true, and_false, false_and, and_self, true_implies, false_implies, or_true, true_or, or_false, false_or, eq_self, ne_eq, not_false_eq_true, not_true_eq_false, if_true, if_false, List.mem_cons, List.not_mem_nil, List.length_cons, List.length_nil, Nat.reduceEqDiff, Nat.reduceAdd, Nat.reduceSub, Nat.reduceLeDiff, Nat.reduceLT, Int.reduceEq, Int.reduceLT, Int.reduceLE, Int.reduceNeg, Int.reduceAdd, Int.reduceSub, Int.reduceToNat, ↓reduceIte, one_ne_zero_, zero_ne_one_, px_in32L, cd_18]
          repeat' (first | (with_reducible apply And.intro) | (with_reducible refine px_br_intro (fun _ => ?_) (fun _ => ?_)))
          all_goals (try (first | (unfold px_in32; omega) | omega))
          have hkm := kn_mem (M := M) (c := c) (v := v) (n := l) (m := mk (px_up M3 57 c l v) l) (b := b) (l := l) (p := p) (d := 0) ⟨q0, q1⟩ (by omega) e3 p1 p2 o1 o2 (by rw [if_pos (by omega)])
          have hPr : ∀ k, 0 ≤ k → k < l → 0 ≤ M1 v k ∧ M1 v k < 256 := by rw [e3 v (by omega) (by omega)]; exact hbv
          have hP2 : b < 0 → M1 v = M v := fun _ => e3 v (by omega) (by omega)
          have hP3 : 0 ≤ b → lst (M1 v) l = pcs M v l b := fun z => by omega
          have em : px_up M3 57 c l v = M v := by rw [row_ne (by omega), o2 v (by omega), p2 v (by omega), e3 v (by omega) (by omega)]
          rw [em] at hkm ⊢
          generalize px_up (px_up (px_up (px_up (px_up (px_up M3 57 c l) 58 c (mk (M v) l)) 59 c p) 60 c l) 61 c b) 62 c 0 = M4 at *
          have hok := kept_ok hci ⟨q0, q1, q2⟩ hn (mk_rng (M v) l) hb ⟨by omega, by omega⟩ hfree hPr hkm.1 (fun x x0 x1 x2 => by
            rw [hkm.2 (64 + x) (by omega) (by omega) (by omega) (by omega) (by omega) (by omega) (by omega) (by omega) (by omega) (by omega), hkm.2 104 (by omega) (by omega) (by omega) (by omega) (by omega) (by omega) (by omega) (by omega) (by omega) (by omega), hkm.2 105 (by omega) (by omega) (by omega) (by omega) (by omega) (by omega) (by omega) (by omega) (by omega) (by omega)]
            exact ⟨rfl, rfl, rfl⟩)
          have k62 := hkm.1.2.2.2.2.2.1 c
          have k61 := hkm.1.2.2.2.2.1 c
          rw [if_pos rfl] at k62 k61
          refine sp_readOne ⟨q0, q1⟩ hok.1 hok.2.1 (by rw [k62]; split <;> omega) (fun hx => ?_) (fun M5 g1 g2 g3 => ?_)
          · rw [k61] at hx ⊢
            exact hok.2.2.2.2 b (by omega) (by omega) (fun z => by rw [z] at hb; omega) (by omega)
          · simp only [px_go, px_Q0_at, px_sx_0, px_sx_s, px_cl, px_step, ↓px_ll, px_lg, f4_, ↓px_r1, ↓px_r2, ↓px_r4, ↓px_r5, ↓px_p1, ↓px_p2, ↓px_p3, ↓px_pop, px_k_0, px_k_s, px_k3_0, px_stk_, px_cats, px_ent, px_st1, px_st2, px_mask, ↓px_tsw, ↓px_lsw, ct_, mls_0, mls_1, mls_2, mls_3, mls_4, mls_5, kd_0, kd_1, kd_2, kd_3, ln_0, ln_1, ln_2, ln_3, gf_0, gf_1, gf_2, gf_3, gf_4, gf_7, gf_21, gf_63, dy_0, dy_1, dy_2, dy_3, dy_7, dy_21, px_brT, px_brF, true_and, and_true, and_false, false_and, and_self, true_implies, false_implies, or_true, true_or, or_false, false_or, eq_self, ne_eq, not_false_eq_true, not_true_eq_false, if_true, if_false, List.mem_cons, List.not_mem_nil, List.length_cons, List.length_nil, Nat.reduceEqDiff, Nat.reduceAdd, Nat.reduceSub, Nat.reduceLeDiff, Nat.reduceLT, Int.reduceEq, Int.reduceLT, Int.reduceLE, Int.reduceNeg, Int.reduceAdd, Int.reduceSub, Int.reduceToNat, ↓reduceIte, one_ne_zero_, zero_ne_one_, px_in32L, cd_18]
            have hk5 : kept M M5 c l (mk (M v) l) b l p (M1 v) := by
              unfold kept
              rw [g2 57 (by omega) (by omega) (by omega), g2 58 (by omega) (by omega) (by omega), g2 59 (by omega) (by omega) (by omega), g2 60 (by omega) (by omega) (by omega), g2 61 (by omega) (by omega) (by omega), g2 62 (by omega) (by omega) (by omega), g2 53 (by omega) (by omega) (by omega), g2 54 (by omega) (by omega) (by omega)]
              exact hkm.1
            have h64 : ∀ x, 0 ≤ x → x < 40 → x ≠ c → M5 (64 + x) = M (64 + x) := fun x x0 x1 x2 => by
              rw [g2 (64 + x) (by omega) (by omega) (by omega)]
              exact hkm.2 _ (by omega) (by omega) (by omega) (by omega) (by omega) (by omega) (by omega) (by omega) (by omega) (by omega)
            have h104 : ∀ x, x ≠ c → M5 104 x = M 104 x ∧ M5 105 x = M 105 x := fun x x2 => by
              have := g3 x x2
              rw [hkm.2 104 (by omega) (by omega) (by omega) (by omega) (by omega) (by omega) (by omega) (by omega) (by omega) (by omega), hkm.2 105 (by omega) (by omega) (by omega) (by omega) (by omega) (by omega) (by omega) (by omega) (by omega) (by omega)] at this
              exact this
            have hok5 := kept_ok hci ⟨q0, q1, q2⟩ hn (mk_rng (M v) l) hb ⟨by omega, by omega⟩ hfree hPr hk5 (fun x x0 x1 x2 => ⟨h64 x x0 x1 x2, h104 x x2⟩)
            refine h3 M5 c b l p (M1 v) rfl q0 q1 q2 e1 hp (by omega) hP2 hP3 hk5 ⟨hok5.1, hok5.2.1, hok5.2.2.1, hok5.2.2.2.1, fun x x0 x1 x2 => ?_⟩ (fun x a1 a2 a3 a4 a5 => ?_) h104
            · by_cases e : x = c
              · rw [e]; exact g1
              · have k := hk5.2.2.2.2.2.1 x
                rw [if_neg e] at k
                exact hok5.2.2.2.2 x x0 x1 e (by omega)
            · rw [g2 x a4 (by omega) (by omega)]
              exact hkm.2 x a1 a2 (by omega) (by omega) (by omega) (by omega) (by omega) (by omega) (by omega) (by omega)
      · exact h2 (by omega) e3
end PS
