/-! EditionVault.Pieces: all pieces -/
noncomputable def bsP (D B : Int → Int) (n m i : Int) : Int := Classical.choose (isB_ex D B n m i m.toNat)
noncomputable def bsL (D B : Int → Int) (n m i : Int) : Int := Classical.choose (Classical.choose_spec (isB_ex D B n m i m.toNat))
theorem bs_spec (D B : Int → Int) (n m i : Int) (hm : 0 ≤ m) : isB D B n m i m (bsP D B n m i) (bsL D B n m i) := by
  have h : isB D B n m i (m.toNat : Int) (bsP D B n m i) (bsL D B n m i) := Classical.choose_spec (Classical.choose_spec (isB_ex D B n m i m.toNat))
  rw [Int.toNat_of_nonneg hm] at h
  exact h
def fl : List Int → List Int
  | [] => []
  | b :: t => ((t.length : Int) + 1) :: b :: t
theorem fl_ne {c : List Int} (h : c ≠ []) : fl c = (c.length : Int) :: c := by
  cases c with
  | nil => exact absurd rfl h
  | cons b t => show ((t.length : Int) + 1) :: b :: t = _; rw [List.length_cons]; rfl
/-- pieces from a byte on: what came so far, the own bytes under way -/
noncomputable def gN (D B : Int → Int) (n m : Int) : Nat → Int → List Int → List Int → List Int
  | 0, _, o, c => o ++ fl c
  | f + 1, i, o, c =>
    if n ≤ i then o ++ fl c
    else if 3 ≤ bsL D B n m i then gN D B n m f (i + bsL D B n m i) (o ++ fl c ++ [128 + bsP D B n m i, bsL D B n m i]) []
    else gN D B n m f (i + 1) o (c ++ [D i])
theorem gN_s (D B : Int → Int) (n m : Int) (f : Nat) (i : Int) (o c : List Int) : gN D B n m (f + 1) i o c =
    if n ≤ i then o ++ fl c
    else if 3 ≤ bsL D B n m i then gN D B n m f (i + bsL D B n m i) (o ++ fl c ++ [128 + bsP D B n m i, bsL D B n m i]) []
    else gN D B n m f (i + 1) o (c ++ [D i]) := rfl
noncomputable def mkp (D B : Int → Int) (n m : Int) : List Int := gN D B n m 41 0 [] []
theorem lst_set {M : px_mem} {v n y a : Int} {o c : List Int} (h : lst (M v) n = o ++ a :: c) : lst (px_up M v (o.length : Int) y v) n = o ++ y :: c ∧ M v (o.length : Int) = a := by
  have hl : n.toNat = o.length + (c.length + 1) := by
    have := congrArg List.length h
    rw [lst_lenN, List.length_append, List.length_cons] at this
    exact this
  have hn : n = (o.length : Int) + c.length + 1 := by omega
  have hg : ∀ k : Nat, (k : Int) < n → (o ++ a :: c)[k]? = some (M v k) := fun k hk => by rw [← h]; exact lst_get hk
  refine ⟨?_, ?_⟩
  · apply List.ext_getElem?
    intro k
    by_cases e : (k : Int) < n
    · rw [lst_get e, px_up_at]
      have h1 := hg k e
      by_cases e2 : k = o.length
      · rw [if_pos ⟨rfl, by rw [e2]⟩, e2, List.getElem?_append_right (Nat.le_refl _), Nat.sub_self]; rfl
      · rw [if_neg (fun x => e2 (by have := x.2; omega)), ← h1]
        by_cases e3 : k < o.length
        · rw [List.getElem?_append_left e3, List.getElem?_append_left e3]
        · rw [List.getElem?_append_right (by omega), List.getElem?_append_right (by omega)]
          obtain ⟨j, hj⟩ : ∃ j, k - o.length = j + 1 := ⟨k - o.length - 1, by omega⟩
          rw [hj, List.getElem?_cons_succ, List.getElem?_cons_succ]
    · rw [lst_get_none (by omega)]
      exact (List.getElem?_eq_none (by rw [List.length_append, List.length_cons]; omega)).symm
  · have h1 := hg o.length (by omega)
    rw [List.getElem?_append_right (Nat.le_refl _), Nat.sub_self] at h1
    injection h1 with h1
    exact h1.symm
section PS
variable {M : px_mem} {Q : Option pv → px_mem → Prop}
set_option maxHeartbeats 600000 in
set_option maxRecDepth 100000 in
theorem sp_pApp {y : Int} (h0 : 0 ≤ M 106 1 ∧ M 106 1 < 80) (h : ∀ M', M' 106 1 = M 106 1 + 1 → lst (M' 107) (M 106 1 + 1) = lst (M 107) (M 106 1) ++ [y] → (∀ x, x ≠ 1 → M' 106 x = M 106 x) → (∀ b, b ≠ 106 → b ≠ 107 → M' b = M b) → Q none M') : px_Ok 72 [(2, 106), (0, y)] LAY M Q := by
  refine px_ok_go (inl := []) (ls0 := [(2, 106), (0, y)]) 60 (by decide) (Nat.le_of_ble_eq_true rfl) rfl ?_
  simp only [px_go, px_Q0_at, px_sx_0, px_sx_s, px_cl, px_step, ↓px_ll, px_lg, f4_, ↓px_r1, ↓px_r2, ↓px_r4, ↓px_r5, ↓px_p1, ↓px_p2, ↓px_p3, ↓px_pop, px_k_0, px_k_s, px_k3_0, px_stk_, px_cats, px_ent, px_st1, px_st2, px_mask, ↓px_tsw, ↓px_lsw, ct_, mls_0, mls_1, mls_2, mls_3, mls_4, mls_5, kd_0, kd_1, kd_2, kd_3, ln_0, ln_1, ln_2, ln_3, gf_0, gf_1, gf_2, gf_3, gf_4, gf_7, gf_21, gf_63, dy_0, dy_1, dy_2, dy_3, dy_7, dy_21, px_brT, px_brF, true_and, and_true, and_false, false_and, and_self, true_implies, false_implies, or_true, true_or, or_false, false_or, eq_self, ne_eq, not_false_eq_true, not_true_eq_false, if_true, if_false, List.mem_cons, List.not_mem_nil, List.length_cons, List.length_nil, Nat.reduceEqDiff, Nat.reduceAdd, Nat.reduceSub, Nat.reduceLeDiff, Nat.reduceLT, Int.reduceEq, Int.reduceLT, Int.reduceLE, Int.reduceNeg, Int.reduceAdd, Int.reduceSub, Int.reduceToNat, ↓reduceIte, one_ne_zero_, zero_ne_one_, px_in32L, cd_72, px_up_at]
  repeat' (first | (with_reducible apply And.intro) | (with_reducible refine px_br_intro (fun _ => ?_) (fun _ => ?_)))
  all_goals (try (first | (unfold px_in32; omega) | omega))
  refine h _ ?_ ?_ ?_ ?_
  · rw [px_up_at, if_pos ⟨rfl, rfl⟩]
  · rw [row_ne (by decide)]; exact lst_up M 107 y h0.1
  · intro x hx; rw [px_up_at, if_neg (by omega), px_up_at, if_neg (by omega)]
  · intro b b0 b1; rw [row_ne b0, row_ne b1]
set_option maxHeartbeats 4000000 in
set_option maxRecDepth 100000 in
theorem lp_make {M0 : px_mem} {v w n m : Int} {P : List Int} (hkv : px_kd LAY v = 0) (hkw : px_kd LAY w = 0) (hlv : n ≤ px_ln LAY v) (hlw : m ≤ px_ln LAY w) (hv : v ≠ 106 ∧ v ≠ 107) (hw : w ≠ 106 ∧ w ≠ 107) (hn : n ≤ 40) (hm0 : 0 ≤ m) (hm : m ≤ 40) (hbv : ∀ j, 0 ≤ j → j < n → 0 ≤ M0 v j ∧ M0 v j < 256) (h : ∀ M', M' 106 1 = (P.length : Int) → lst (M' 107) (P.length : Int) = P → (∀ b, b ≠ 106 → b ≠ 107 → M' b = M0 b) → Q (some (0, (P.length : Int))) M') : ∀ (f : Nat) (k own : Int) (o c : List Int) (M : px_mem), 0 ≤ k → k ≤ n → n ≤ k + f → gN (M0 v) (M0 w) n m (f + 1) k o c = P → M 106 1 = ((o ++ fl c).length : Int) → lst (M 107) (M 106 1) = o ++ fl c → M 106 1 ≤ 2 * k → (c.length : Int) ≤ k → (c = [] ∧ own = -1 ∨ c ≠ [] ∧ own = o.length) → (∀ b, b ≠ 106 → b ≠ 107 → M b = M0 b) → px_WP 71 0 0 (px_Q0 LAY Q) 11 [(2, 106), (2, v), (0, n), (2, w), (0, m), (0, own), (0, k)] [] LAY M 0 0 := by
  intro f
  induction f with
  | zero =>
    intro k own o c M k0 kn hf hP hs hl h2 hc hown hfr
    rw [gN_s, if_pos (by omega)] at hP
    refine px_go_ok (inl := []) 120 ?_
    simp only [px_go, px_Q0_at, px_sx_0, px_sx_s, px_cl, px_step, ↓px_ll, px_lg, f4_, ↓px_r1, ↓px_r2, ↓px_r4, ↓px_r5, ↓px_p1, ↓px_p2, ↓px_p3, ↓px_pop, px_k_0, px_k_s, px_k3_0, px_stk_, px_cats, px_ent, px_st1, px_st2, px_mask, ↓px_tsw, ↓px_lsw, ct_, mls_0, mls_1, mls_2, mls_3, mls_4, mls_5, kd_0, kd_1, kd_2, kd_3, ln_0, ln_1, ln_2, ln_3, gf_0, gf_1, gf_2, gf_3, gf_4, gf_7, gf_21, gf_63, dy_0, dy_1, dy_2, dy_3, dy_7, dy_21, px_brT, px_brF, true_and, and_true, and_false, false_and, and_self, true_implies, false_implies, or_true, true_or, or_false, false_or, eq_self, ne_eq, not_false_eq_true, not_true_eq_false, if_true, if_false, List.mem_cons, List.not_mem_nil, List.length_cons, List.length_nil, Nat.reduceEqDiff, Nat.reduceAdd, Nat.reduceSub, Nat.reduceLeDiff, Nat.reduceLT, Int.reduceEq, Int.reduceLT, Int.reduceLE, Int.reduceNeg, Int.reduceAdd, Int.reduceSub, Int.reduceToNat, ↓reduceIte, one_ne_zero_, zero_ne_one_, px_in32L, cd_71, px_up_at]
    repeat' (first | (with_reducible apply And.intro) | (with_reducible refine px_br_intro (fun _ => ?_) (fun _ => ?_)))
    all_goals (try (first | (unfold px_in32; omega) | omega))
    · rw [hs, hP]
      exact h M (by rw [hs, hP]) (by rw [← hP, ← hs]; exact hl) hfr
  | succ f ih =>
    intro k own o c M k0 kn hf hP hs hl h2 hc hown hfr
    rw [gN_s] at hP
    refine px_go_ok (inl := []) 120 ?_
    simp only [px_go, px_Q0_at, px_sx_0, px_sx_s, px_cl, px_step, ↓px_ll, px_lg, f4_, ↓px_r1, ↓px_r2, ↓px_r4, ↓px_r5, ↓px_p1, ↓px_p2, ↓px_p3, ↓px_pop, px_k_0, px_k_s, px_k3_0, px_stk_, px_cats, px_ent, px_st1, px_st2, px_mask, ↓px_tsw, ↓px_lsw, ct_, mls_0, mls_1, mls_2, mls_3, mls_4, mls_5, kd_0, kd_1, kd_2, kd_3, ln_0, ln_1, ln_2, ln_3, gf_0, gf_1, gf_2, gf_3, gf_4, gf_7, gf_21, gf_63, dy_0, dy_1, dy_2, dy_3, dy_7, dy_21, px_brT, px_brF, true_and, and_true, and_false, false_and, and_self, true_implies, false_implies, or_true, true_or, or_false, false_or, eq_self, ne_eq, not_false_eq_true, not_true_eq_false, if_true, if_false, List.mem_cons, List.not_mem_nil, List.length_cons, List.length_nil, Nat.reduceEqDiff, Nat.reduceAdd, Nat.reduceSub, Nat.reduceLeDiff, Nat.reduceLT, Int.reduceEq, Int.reduceLT, Int.reduceLE, Int.reduceNeg, Int.reduceAdd, Int.reduceSub, Int.reduceToNat, ↓reduceIte, one_ne_zero_, zero_ne_one_, px_in32L, cd_71, px_up_at]
    repeat' (first | (with_reducible apply And.intro) | (with_reducible refine px_br_intro (fun _ => ?_) (fun _ => ?_)))
    all_goals (try (first | (unfold px_in32; omega) | omega))
    · rw [if_pos (by omega)] at hP
      rw [hs, hP]
      exact h M (by rw [hs, hP]) (by rw [← hP, ← hs]; exact hl) hfr
    · rename_i c1
      rw [if_neg c1] at hP
      refine sp_findRun hkv hkw hlv hlw hv.1 hw.1 k0 hn hm0 hm kn (fun M1 e1 e2 e3 => ?_)
      rw [hfr v hv.1 hv.2, hfr w hw.1 hw.2] at e1
      have u := isB_uniq e1 (bs_spec _ _ _ _ _ hm0)
      have hsz : M1 106 1 = M 106 1 := e3 1 (by decide) (by decide)
      have h107 := e2 107 (by decide)
      have e1v : M1 v = M0 v := by rw [e2 v hv.1, hfr v hv.1 hv.2]
      have hlM : lst (M1 107) (M1 106 1) = o ++ fl c := by rw [h107, hsz]; exact hl
      have hfr1 : ∀ b, b ≠ 106 → b ≠ 107 → M1 b = M0 b := fun b b0 b1 => by rw [e2 b b0]; exact hfr b b0 b1
      have hvk := hbv k k0 (by omega)
      have hs0 : 0 ≤ M1 106 1 := by omega
      have hbl : M1 106 3 ≤ 40 ∧ (0 < M1 106 3 → k + M1 106 3 ≤ n ∧ 0 ≤ M1 106 2 ∧ M1 106 2 < 40) := by
        rcases e1.2 with b | b
        · omega
        · have := rl_rng (D := M0 v) (B := M0 w) k0 kn hn (show M1 106 2 ≤ m by omega)
          omega
      simp only [px_go, px_Q0_at, px_sx_0, px_sx_s, px_cl, px_step, ↓px_ll, px_lg, f4_, ↓px_r1, ↓px_r2, ↓px_r4, ↓px_r5, ↓px_p1, ↓px_p2, ↓px_p3, ↓px_pop, px_k_0, px_k_s, px_k3_0, px_stk_, px_cats, px_ent, px_st1, px_st2, px_mask, ↓px_tsw, ↓px_lsw, ct_, mls_0, mls_1, mls_2, mls_3, mls_4, mls_5, kd_0, kd_1, kd_2, kd_3, ln_0, ln_1, ln_2, ln_3, gf_0, gf_1, gf_2, gf_3, gf_4, gf_7, gf_21, gf_63, dy_0, dy_1, dy_2, dy_3, dy_7, dy_21, px_brT, px_brF, true_and, and_true, and_false, false_and, and_self, true_implies, false_implies, or_true, true_or, or_false, false_or, eq_self, ne_eq, not_false_eq_true, not_true_eq_false, if_true, if_false, List.mem_cons, List.not_mem_nil, List.length_cons, List.length_nil, Nat.reduceEqDiff, Nat.reduceAdd, Nat.reduceSub, Nat.reduceLeDiff, Nat.reduceLT, Int.reduceEq, Int.reduceLT, Int.reduceLE, Int.reduceNeg, Int.reduceAdd, Int.reduceSub, Int.reduceToNat, ↓reduceIte, one_ne_zero_, zero_ne_one_, px_in32L, cd_71, px_up_at]
      repeat' (first | (with_reducible apply And.intro) | (with_reducible refine px_br_intro (fun _ => ?_) (fun _ => ?_)))
      all_goals (try (first | (unfold px_in32; omega) | omega))
      · rename_i c2 c3
        rw [if_neg (by omega)] at hP
        have hc2 : c ≠ [] ∧ own = o.length := by
          rcases hown with x | x
          · omega
          · exact x
        rw [fl_ne hc2.1] at hlM
        refine sp_pApp (by omega) (fun M2 a1 a2 a3 a4 => ?_)
        rw [hlM, List.append_assoc] at a2
        have hset := lst_set (y := (c.length : Int) + 1) a2
        rw [← hc2.2] at hset
        have hol : (o.length : Int) + c.length + 1 = M1 106 1 := by
          have := hs; rw [fl_ne hc2.1, List.length_append, List.length_cons] at this; omega
        simp only [px_go, px_Q0_at, px_sx_0, px_sx_s, px_cl, px_step, ↓px_ll, px_lg, f4_, ↓px_r1, ↓px_r2, ↓px_r4, ↓px_r5, ↓px_p1, ↓px_p2, ↓px_p3, ↓px_pop, px_k_0, px_k_s, px_k3_0, px_stk_, px_cats, px_ent, px_st1, px_st2, px_mask, ↓px_tsw, ↓px_lsw, ct_, mls_0, mls_1, mls_2, mls_3, mls_4, mls_5, kd_0, kd_1, kd_2, kd_3, ln_0, ln_1, ln_2, ln_3, gf_0, gf_1, gf_2, gf_3, gf_4, gf_7, gf_21, gf_63, dy_0, dy_1, dy_2, dy_3, dy_7, dy_21, px_brT, px_brF, true_and, and_true, and_false, false_and, and_self, true_implies, false_implies, or_true, true_or, or_false, false_or, eq_self, ne_eq, not_false_eq_true, not_true_eq_false, if_true, if_false, List.mem_cons, List.not_mem_nil, List.length_cons, List.length_nil, Nat.reduceEqDiff, Nat.reduceAdd, Nat.reduceSub, Nat.reduceLeDiff, Nat.reduceLT, Int.reduceEq, Int.reduceLT, Int.reduceLE, Int.reduceNeg, Int.reduceAdd, Int.reduceSub, Int.reduceToNat, ↓reduceIte, one_ne_zero_, zero_ne_one_, px_in32L, cd_71, px_up_at]
        repeat' (first | (with_reducible apply And.intro) | (with_reducible refine px_br_intro (fun _ => ?_) (fun _ => ?_)))
        all_goals (try (first | (unfold px_in32; omega) | omega))
        refine ih (k + 1) own o (c ++ [M0 v k]) _ (by omega) (by omega) (by omega) hP ?_ ?_ ?_ ?_ (Or.inr ⟨by simp, hc2.2⟩) (fun b b0 b1 => by rw [row_ne b1, a4 b b0 b1]; exact hfr1 b b0 b1)
        · rw [row_ne (by decide), a1, fl_ne (by simp)]
          simp only [List.length_append, List.length_cons, List.length_nil]
          omega
        · rw [row_ne (b := 106) (by decide), a1, hset.2, hset.1, fl_ne (by simp), e1v]
          simp only [List.length_append, List.length_cons, List.length_nil, List.append_assoc, List.cons_append]
          rfl
        · rw [row_ne (by decide), a1]; omega
        · simp only [List.length_append, List.length_cons, List.length_nil]; omega
      · rename_i c2 c3
        rw [if_neg (by omega)] at hP
        have hc2 : c = [] := by
          rcases hown with x | x
          · exact x.1
          · have := x.2; omega
        subst hc2
        have hlM : lst (M1 107) (M1 106 1) = o := by rw [hlM]; exact List.append_nil o
        have hs : M 106 1 = (o.length : Int) := by rw [hs]; congr 2; exact List.append_nil o
        refine sp_pApp (by omega) (fun M2 a1 a2 a3 a4 => ?_)
        simp only [px_go, px_Q0_at, px_sx_0, px_sx_s, px_cl, px_step, ↓px_ll, px_lg, f4_, ↓px_r1, ↓px_r2, ↓px_r4, ↓px_r5, ↓px_p1, ↓px_p2, ↓px_p3, ↓px_pop, px_k_0, px_k_s, px_k3_0, px_stk_, px_cats, px_ent, px_st1, px_st2, px_mask, ↓px_tsw, ↓px_lsw, ct_, mls_0, mls_1, mls_2, mls_3, mls_4, mls_5, kd_0, kd_1, kd_2, kd_3, ln_0, ln_1, ln_2, ln_3, gf_0, gf_1, gf_2, gf_3, gf_4, gf_7, gf_21, gf_63, dy_0, dy_1, dy_2, dy_3, dy_7, dy_21, px_brT, px_brF, true_and, and_true, and_false, false_and, and_self, true_implies, false_implies, or_true, true_or, or_false, false_or, eq_self, ne_eq, not_false_eq_true, not_true_eq_false, if_true, if_false, List.mem_cons, List.not_mem_nil, List.length_cons, List.length_nil, Nat.reduceEqDiff, Nat.reduceAdd, Nat.reduceSub, Nat.reduceLeDiff, Nat.reduceLT, Int.reduceEq, Int.reduceLT, Int.reduceLE, Int.reduceNeg, Int.reduceAdd, Int.reduceSub, Int.reduceToNat, ↓reduceIte, one_ne_zero_, zero_ne_one_, px_in32L, cd_71, px_up_at]
        repeat' (first | (with_reducible apply And.intro) | (with_reducible refine px_br_intro (fun _ => ?_) (fun _ => ?_)))
        all_goals (try (first | (unfold px_in32; omega) | omega))
        have e2v : M2 v = M0 v := by rw [a4 v hv.1 hv.2, e1v]
        refine sp_pApp (by omega) (fun M3 d1 d2 d3 d4 => ?_)
        rw [a1, a2, hlM, List.append_assoc] at d2
        have hset := lst_set (y := 1) d2
        rw [show (o.length : Int) = M1 106 1 by omega] at hset
        simp only [px_go, px_Q0_at, px_sx_0, px_sx_s, px_cl, px_step, ↓px_ll, px_lg, f4_, ↓px_r1, ↓px_r2, ↓px_r4, ↓px_r5, ↓px_p1, ↓px_p2, ↓px_p3, ↓px_pop, px_k_0, px_k_s, px_k3_0, px_stk_, px_cats, px_ent, px_st1, px_st2, px_mask, ↓px_tsw, ↓px_lsw, ct_, mls_0, mls_1, mls_2, mls_3, mls_4, mls_5, kd_0, kd_1, kd_2, kd_3, ln_0, ln_1, ln_2, ln_3, gf_0, gf_1, gf_2, gf_3, gf_4, gf_7, gf_21, gf_63, dy_0, dy_1, dy_2, dy_3, dy_7, dy_21, px_brT, px_brF, true_and, and_true, and_false, false_and, and_self, true_implies, false_implies, or_true, true_or, or_false, false_or, eq_self, ne_eq, not_false_eq_true, not_true_eq_false, if_true, if_false, List.mem_cons, List.not_mem_nil, List.length_cons, List.length_nil, Nat.reduceEqDiff, Nat.reduceAdd, Nat.reduceSub, Nat.reduceLeDiff, Nat.reduceLT, Int.reduceEq, Int.reduceLT, Int.reduceLE, Int.reduceNeg, Int.reduceAdd, Int.reduceSub, Int.reduceToNat, ↓reduceIte, one_ne_zero_, zero_ne_one_, px_in32L, cd_71, px_up_at]
        repeat' (first | (with_reducible apply And.intro) | (with_reducible refine px_br_intro (fun _ => ?_) (fun _ => ?_)))
        all_goals (try (first | (unfold px_in32; omega) | omega))
        refine ih (k + 1) (M1 106 1) o [M0 v k] _ (by omega) (by omega) (by omega) hP ?_ ?_ ?_ ?_ (Or.inr ⟨by simp, by omega⟩) (fun b b0 b1 => by rw [row_ne b1, d4 b b0 b1, a4 b b0 b1]; exact hfr1 b b0 b1)
        · rw [row_ne (by decide), d1, a1, fl_ne (by simp)]
          simp only [List.length_append, List.length_cons, List.length_nil]
          omega
        · rw [row_ne (b := 106) (by decide), d1, a1, hset.2, show (0 : Int) + 1 = 1 from rfl, hset.1, fl_ne (by simp), e2v]
          rfl
        · rw [row_ne (by decide), d1, a1]; omega
        · simp only [List.length_cons, List.length_nil]; omega
      · rename_i c2
        rw [if_pos (by omega)] at hP
        refine sp_pApp (by omega) (fun M2 a1 a2 a3 a4 => ?_)
        have a33 := a3 3 (by decide)
        simp only [px_go, px_Q0_at, px_sx_0, px_sx_s, px_cl, px_step, ↓px_ll, px_lg, f4_, ↓px_r1, ↓px_r2, ↓px_r4, ↓px_r5, ↓px_p1, ↓px_p2, ↓px_p3, ↓px_pop, px_k_0, px_k_s, px_k3_0, px_stk_, px_cats, px_ent, px_st1, px_st2, px_mask, ↓px_tsw, ↓px_lsw, ct_, mls_0, mls_1, mls_2, mls_3, mls_4, mls_5, kd_0, kd_1, kd_2, kd_3, ln_0, ln_1, ln_2, ln_3, gf_0, gf_1, gf_2, gf_3, gf_4, gf_7, gf_21, gf_63, dy_0, dy_1, dy_2, dy_3, dy_7, dy_21, px_brT, px_brF, true_and, and_true, and_false, false_and, and_self, true_implies, false_implies, or_true, true_or, or_false, false_or, eq_self, ne_eq, not_false_eq_true, not_true_eq_false, if_true, if_false, List.mem_cons, List.not_mem_nil, List.length_cons, List.length_nil, Nat.reduceEqDiff, Nat.reduceAdd, Nat.reduceSub, Nat.reduceLeDiff, Nat.reduceLT, Int.reduceEq, Int.reduceLT, Int.reduceLE, Int.reduceNeg, Int.reduceAdd, Int.reduceSub, Int.reduceToNat, ↓reduceIte, one_ne_zero_, zero_ne_one_, px_in32L, cd_71, px_up_at]
        repeat' (first | (with_reducible apply And.intro) | (with_reducible refine px_br_intro (fun _ => ?_) (fun _ => ?_)))
        all_goals (try (first | (unfold px_in32; omega) | omega))
        refine sp_pApp (by omega) (fun M3 d1 d2 d3 d4 => ?_)
        have d33 := d3 3 (by decide)
        rw [a1, a2, hlM, a33] at d2
        simp only [px_go, px_Q0_at, px_sx_0, px_sx_s, px_cl, px_step, ↓px_ll, px_lg, f4_, ↓px_r1, ↓px_r2, ↓px_r4, ↓px_r5, ↓px_p1, ↓px_p2, ↓px_p3, ↓px_pop, px_k_0, px_k_s, px_k3_0, px_stk_, px_cats, px_ent, px_st1, px_st2, px_mask, ↓px_tsw, ↓px_lsw, ct_, mls_0, mls_1, mls_2, mls_3, mls_4, mls_5, kd_0, kd_1, kd_2, kd_3, ln_0, ln_1, ln_2, ln_3, gf_0, gf_1, gf_2, gf_3, gf_4, gf_7, gf_21, gf_63, dy_0, dy_1, dy_2, dy_3, dy_7, dy_21, px_brT, px_brF, true_and, and_true, and_false, false_and, and_self, true_implies, false_implies, or_true, true_or, or_false, false_or, eq_self, ne_eq, not_false_eq_true, not_true_eq_false, if_true, if_false, List.mem_cons, List.not_mem_nil, List.length_cons, List.length_nil, Nat.reduceEqDiff, Nat.reduceAdd, Nat.reduceSub, Nat.reduceLeDiff, Nat.reduceLT, Int.reduceEq, Int.reduceLT, Int.reduceLE, Int.reduceNeg, Int.reduceAdd, Int.reduceSub, Int.reduceToNat, ↓reduceIte, one_ne_zero_, zero_ne_one_, px_in32L, cd_71, px_up_at]
        repeat' (first | (with_reducible apply And.intro) | (with_reducible refine px_br_intro (fun _ => ?_) (fun _ => ?_)))
        all_goals (try (first | (unfold px_in32; omega) | omega))
        rw [d33, a33, u.2]
        rw [u.1, u.2] at d2
        refine ih _ (-1) _ [] M3 (by omega) (by omega) (by omega) hP ?_ ?_ (by omega) (by simp; omega) (Or.inl ⟨rfl, rfl⟩) (fun b b0 b1 => by rw [d4 b b0 b1, a4 b b0 b1]; exact hfr1 b b0 b1)
        · rw [d1, a1, hsz, hs]
          simp only [List.length_append, List.length_cons, List.length_nil, fl]
          omega
        · rw [d1, a1, d2]
          simp only [List.append_assoc, fl, List.append_nil]
          rfl
end PS
