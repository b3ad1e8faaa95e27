set_option maxRecDepth 100000 in
/-- X11_change -/
theorem cd_164 : px_at 164 0 = some (1, [], .aload_n 0, []) ∧ px_at 164 1 = some (4, [], .getfield 26, [10, 2, 2, 1, 116]) ∧ px_at 164 4 = some (5, [], .iload_n 1, []) ∧ px_at 164 5 = some (8, [], .invokevirtual 162, [47, 1, 3, 61]) ∧ px_at 164 8 = some (10, [], .astore 5, []) ∧ px_at 164 10 = some (11, [], .aload_n 0, []) ∧ px_at 164 11 = some (14, [], .getfield 26, [10, 2, 2, 1, 116]) ∧ px_at 164 14 = some (15, [], .iload_n 2, []) ∧ px_at 164 15 = some (18, [], .invokevirtual 162, [47, 1, 3, 61]) ∧ px_at 164 18 = some (20, [], .astore 6, []) ∧ px_at 164 20 = some (22, [], .aload 5, []) ∧ px_at 164 22 = some (25, [], .ifnull 24, [46]) ∧ px_at 164 25 = some (27, [], .aload 6, []) ∧ px_at 164 27 = some (30, [], .ifnull 19, [46]) ∧ px_at 164 30 = some (31, [], .iload_n 3, []) ∧ px_at 164 31 = some (32, [], .iconst (-1), []) ∧ px_at 164 32 = some (35, [], .if_icmp .lt 14, [46]) ∧ px_at 164 35 = some (37, [], .iload 4, []) ∧ px_at 164 37 = some (40, [], .ifCond .lt 9, [46]) ∧ px_at 164 40 = some (42, [], .iload 4, []) ∧ px_at 164 42 = some (43, [], .iconst 3, []) ∧ px_at 164 43 = some (46, [], .if_icmp .le 5, [48]) ∧ px_at 164 46 = some (47, [], .iconst (-1), []) ∧ px_at 164 47 = some (48, [], .ireturn, [0]) ∧ px_at 164 48 = some (49, [], .aload_n 0, []) ∧ px_at 164 49 = some (52, [], .getfield 63, [10, 7, 2, 1, 121]) ∧ px_at 164 52 = some (54, [], .aload 5, []) ∧ px_at 164 54 = some (56, [], .aload 6, []) ∧ px_at 164 56 = some (59, [], .invokevirtual 422, [1, 2, 0, 205]) ∧ px_at 164 59 = some (60, [], .iload_n 3, []) ∧ px_at 164 60 = some (61, [], .iconst (-1), []) ∧ px_at 164 61 = some (64, [], .if_icmp .ne 20, [81]) ∧ px_at 164 64 = some (66, [], .iload 4, []) ∧ px_at 164 66 = some (69, [], .ifCond .ne 13, [79]) ∧ px_at 164 69 = some (70, [], .aload_n 0, []) ∧ px_at 164 70 = some (73, [], .getfield 63, [10, 7, 2, 1, 121]) ∧ px_at 164 73 = some (76, [], .getfield 426, [0, 3, 0, 0, 113]) ∧ px_at 164 76 = some (79, [], .goto 4, [80]) ∧ px_at 164 79 = some (80, [], .iconst (-1), []) ∧ px_at 164 80 = some (81, [], .ireturn, [0]) ∧ px_at 164 81 = some (82, [], .iload_n 3, []) ∧ px_at 164 82 = some (83, [], .aload_n 0, []) ∧ px_at 164 83 = some (86, [], .getfield 63, [10, 7, 2, 1, 121]) ∧ px_at 164 86 = some (89, [], .getfield 426, [0, 3, 0, 0, 113]) ∧ px_at 164 89 = some (92, [], .if_icmp .lt 5, [94]) ∧ px_at 164 92 = some (93, [], .iconst (-1), []) ∧ px_at 164 93 = some (94, [], .ireturn, [0]) ∧ px_at 164 94 = some (96, [], .iload 4, []) ∧ px_at 164 96 = some (124, [], .tableswitch 58 0 2 #[28, 38, 48], [154, 124, 134, 144]) ∧ px_at 164 124 = some (125, [], .aload_n 0, []) ∧ px_at 164 125 = some (128, [], .getfield 63, [10, 7, 2, 1, 121]) ∧ px_at 164 128 = some (131, [], .getfield 427, [0, 0, 2, 1, 107]) ∧ px_at 164 131 = some (132, [], .iload_n 3, []) ∧ px_at 164 132 = some (133, [], .iaload, []) ∧ px_at 164 133 = some (134, [], .ireturn, [0]) ∧ px_at 164 134 = some (135, [], .aload_n 0, []) ∧ px_at 164 135 = some (138, [], .getfield 63, [10, 7, 2, 1, 121]) ∧ px_at 164 138 = some (141, [], .getfield 430, [0, 1, 2, 1, 109]) ∧ px_at 164 141 = some (142, [], .iload_n 3, []) ∧ px_at 164 142 = some (143, [], .iaload, []) ∧ px_at 164 143 = some (144, [], .ireturn, [0]) ∧ px_at 164 144 = some (145, [], .aload_n 0, []) ∧ px_at 164 145 = some (148, [], .getfield 63, [10, 7, 2, 1, 121]) ∧ px_at 164 148 = some (151, [], .getfield 433, [0, 2, 2, 1, 111]) ∧ px_at 164 151 = some (152, [], .iload_n 3, []) ∧ px_at 164 152 = some (153, [], .iaload, []) ∧ px_at 164 153 = some (154, [], .ireturn, [0]) ∧ px_at 164 154 = some (155, [], .aload_n 0, []) ∧ px_at 164 155 = some (158, [], .getfield 63, [10, 7, 2, 1, 121]) ∧ px_at 164 158 = some (159, [], .iload_n 3, []) ∧ px_at 164 159 = some (161, [], .aload 5, []) ∧ px_at 164 161 = some (163, [], .aload 6, []) ∧ px_at 164 163 = some (166, [], .invokevirtual 436, [4, 3, 0, 212]) ∧ px_at 164 166 = some (167, [], .ireturn, [0]) := ⟨rfl, rfl, rfl, rfl, rfl, rfl, rfl, rfl, rfl, rfl, rfl, rfl, rfl, rfl, rfl, rfl, rfl, rfl, rfl, rfl, rfl, rfl, rfl, rfl, rfl, rfl, rfl, rfl, rfl, rfl, rfl, rfl, rfl, rfl, rfl, rfl, rfl, rfl, rfl, rfl, rfl, rfl, rfl, rfl, rfl, rfl, rfl, rfl, rfl, rfl, rfl, rfl, rfl, rfl, rfl, rfl, rfl, rfl, rfl, rfl, rfl, rfl, rfl, rfl, rfl, rfl, rfl, rfl, rfl, rfl, rfl, rfl, rfl, rfl⟩
/-! EditionVault: change -/
/-- what change() tells of what differs -/
noncomputable def chgR (M : px_mem) (ea eb : Int) (pa pb : Int → List Int) (D : List cT) (k w : Int) : Int :=
  if k = -1 then (if w = 0 then (D.length : Int) else -1) else match D[k.toNat]? with
    | none => -1
    | some x => if w = 0 then x.1 else if w = 1 then x.2.1 else if w = 2 then x.2.2 else if x.1 ≠ 0 then -2 else idx (M ea 2) (fun i => M (ea + 2) i = M (eb + 2) x.2.2 ∧ pAt M eb pb (pa i) < 0)
theorem cAt_pAt {M : px_mem} {e : Int} {pl : Int → List Int} (hl : lsC M e pl) (p : List Int) : (0 ≤ cAt M e pl p → 0 ≤ pAt M e pl p ∧ pAt M e pl p < M e 2) ∧ (cAt M e pl p < 0 → cAt M e pl p = -2) := by
  unfold cAt pAt
  rcases idx_spec (M e 2) (fun j => pl j = p) with h | h
  · rw [if_pos (by omega)]; exact ⟨fun q => by omega, fun _ => rfl⟩
  · rw [if_neg (by omega)]
    have := hl.2.2 _ h.1 h.2.1
    exact ⟨fun _ => ⟨h.1, h.2.1⟩, fun q => by omega⟩
section PS
variable {M : px_mem} {Q : Option pv → px_mem → Prop}
/-- the lists of what differs -/
noncomputable def chgD (M : px_mem) (pl : Int → Int → List Int) (a b : Int) (U : List (List Int)) : List cT := chf (cAt M (M 21 a) (pl a)) (cAt M (M 21 b) (pl b)) (pAt M (M 21 a) (pl a)) (pAt M (M 21 b) (pl b)) U
set_option maxHeartbeats 600000 in
set_option maxRecDepth 100000 in
theorem sp_change {a b k w : Int} {pl : Int → Int → List Int} {nm : Int → List Int} (hed : edA M pl nm) (h0 : (slot M a < 0 ∨ slot M b < 0 ∨ k < -1 ∨ ¬ (0 ≤ w ∧ w ≤ 3)) → Q (some (0, -1)) M) (h1 : ∀ M' U, 0 ≤ slot M a → slot M a < M 20 1 → 0 ≤ slot M b → slot M b < M 20 1 → -1 ≤ k → (0 ≤ w ∧ w ≤ 3) → isU (uL2 M (M 21 (slot M a)) (M 21 (slot M b)) (pl (slot M a)) (pl (slot M b))) U → (∀ b, b ≠ 121 → b ≠ 122 → b ≠ 123 → b ≠ 124 → M' b = M b) → Q (some (0, chgR M (M 21 (slot M a)) (M 21 (slot M b)) (pl (slot M a)) (pl (slot M b)) (chgD M pl (slot M a) (slot M b) U) k w)) M') : px_Ok 164 [(2, 1), (0, a), (0, b), (0, k), (0, w)] LAY M Q := by
  have hw := hed.1
  have hn := hw.2.2
  refine px_ok_go (inl := []) (ls0 := [(2, 1), (0, a), (0, b), (0, k), (0, w), (9, 0), (9, 0)]) 120 (by decide) (Nat.le_of_ble_eq_true rfl) rfl ?_
  simp only [px_go, px_Q0_at, px_sx_0, px_sx_s, px_cl, px_step, ↓px_ll, px_lg, f4_, ↓px_r1, ↓px_r2, ↓px_r4, ↓px_r5, ↓px_p1, ↓px_p2, ↓px_p3, ↓px_pop, px_k_0, px_k_s, px_k3_0, px_stk_, px_cats, px_ent, px_st1, px_st2, px_mask, ↓px_tsw, ↓px_lsw, ct_, mls_0, mls_1, mls_2, mls_3, mls_4, mls_5, kd_0, kd_1, kd_2, kd_3, ln_0, ln_1, ln_2, ln_3, gf_0, gf_1, gf_2, gf_3, gf_4, gf_7, gf_21, gf_63, dy_0, dy_1, dy_2, dy_3, dy_7, dy_21, px_brT, px_brF, true_and, and_true, and_false, false_and, and_self, true_implies, false_implies, or_true, true_or, or_false, false_or, eq_self, ne_eq, not_false_eq_true, not_true_eq_false, if_true, if_false, List.mem_cons, List.not_mem_nil, List.length_cons, List.length_nil, Nat.reduceEqDiff, Nat.reduceAdd, Nat.reduceSub, Nat.reduceLeDiff, Nat.reduceLT, Int.reduceEq, Int.reduceLT, Int.reduceLE, Int.reduceNeg, Int.reduceAdd, Int.reduceSub, Int.reduceToNat, ↓reduceIte, one_ne_zero_, zero_ne_one_, px_in32L, cd_164]
  repeat' (first | (with_reducible apply And.intro) | (with_reducible refine px_br_intro (fun _ => ?_) (fun _ => ?_)))
  all_goals (try (first | (unfold px_in32; omega) | omega))
  refine sp_numbered hw ?_
  simp only [px_go, px_Q0_at, px_sx_0, px_sx_s, px_cl, px_step, ↓px_ll, px_lg, f4_, ↓px_r1, ↓px_r2, ↓px_r4, ↓px_r5, ↓px_p1, ↓px_p2, ↓px_p3, ↓px_pop, px_k_0, px_k_s, px_k3_0, px_stk_, px_cats, px_ent, px_st1, px_st2, px_mask, ↓px_tsw, ↓px_lsw, ct_, mls_0, mls_1, mls_2, mls_3, mls_4, mls_5, kd_0, kd_1, kd_2, kd_3, ln_0, ln_1, ln_2, ln_3, gf_0, gf_1, gf_2, gf_3, gf_4, gf_7, gf_21, gf_63, dy_0, dy_1, dy_2, dy_3, dy_7, dy_21, px_brT, px_brF, true_and, and_true, and_false, false_and, and_self, true_implies, false_implies, or_true, true_or, or_false, false_or, eq_self, ne_eq, not_false_eq_true, not_true_eq_false, if_true, if_false, List.mem_cons, List.not_mem_nil, List.length_cons, List.length_nil, Nat.reduceEqDiff, Nat.reduceAdd, Nat.reduceSub, Nat.reduceLeDiff, Nat.reduceLT, Int.reduceEq, Int.reduceLT, Int.reduceLE, Int.reduceNeg, Int.reduceAdd, Int.reduceSub, Int.reduceToNat, ↓reduceIte, one_ne_zero_, zero_ne_one_, px_in32L, cd_164]
  refine sp_numbered hw ?_
  unfold edR
  have hsa := slot_rng (M := M) a
  have hsb := slot_rng (M := M) b
  generalize slot M a = sa at *
  generalize slot M b = sb at *
  by_cases qa : sa < 0
  · rw [if_pos qa]
    simp only [px_go, px_Q0_at, px_sx_0, px_sx_s, px_cl, px_step, ↓px_ll, px_lg, f4_, ↓px_r1, ↓px_r2, ↓px_r4, ↓px_r5, ↓px_p1, ↓px_p2, ↓px_p3, ↓px_pop, px_k_0, px_k_s, px_k3_0, px_stk_, px_cats, px_ent, px_st1, px_st2, px_mask, ↓px_tsw, ↓px_lsw, ct_, mls_0, mls_1, mls_2, mls_3, mls_4, mls_5, kd_0, kd_1, kd_2, kd_3, ln_0, ln_1, ln_2, ln_3, gf_0, gf_1, gf_2, gf_3, gf_4, gf_7, gf_21, gf_63, dy_0, dy_1, dy_2, dy_3, dy_7, dy_21, px_brT, px_brF, true_and, and_true, and_false, false_and, and_self, true_implies, false_implies, or_true, true_or, or_false, false_or, eq_self, ne_eq, not_false_eq_true, not_true_eq_false, if_true, if_false, List.mem_cons, List.not_mem_nil, List.length_cons, List.length_nil, Nat.reduceEqDiff, Nat.reduceAdd, Nat.reduceSub, Nat.reduceLeDiff, Nat.reduceLT, Int.reduceEq, Int.reduceLT, Int.reduceLE, Int.reduceNeg, Int.reduceAdd, Int.reduceSub, Int.reduceToNat, ↓reduceIte, one_ne_zero_, zero_ne_one_, px_in32L, cd_164]
    exact h0 (Or.inl qa)
  · rw [if_neg qa]
    have hEa := hw.1 sa (by omega) (by omega)
    have hema := isE_m hEa.1
    by_cases qb : sb < 0
    · rw [if_pos qb]
      simp only [px_go, px_Q0_at, px_sx_0, px_sx_s, px_cl, px_step, ↓px_ll, px_lg, f4_, ↓px_r1, ↓px_r2, ↓px_r4, ↓px_r5, ↓px_p1, ↓px_p2, ↓px_p3, ↓px_pop, px_k_0, px_k_s, px_k3_0, px_stk_, px_cats, px_ent, px_st1, px_st2, px_mask, ↓px_tsw, ↓px_lsw, ct_, mls_0, mls_1, mls_2, mls_3, mls_4, mls_5, kd_0, kd_1, kd_2, kd_3, ln_0, ln_1, ln_2, ln_3, gf_0, gf_1, gf_2, gf_3, gf_4, gf_7, gf_21, gf_63, dy_0, dy_1, dy_2, dy_3, dy_7, dy_21, px_brT, px_brF, true_and, and_true, and_false, false_and, and_self, true_implies, false_implies, or_true, true_or, or_false, false_or, eq_self, ne_eq, not_false_eq_true, not_true_eq_false, if_true, if_false, List.mem_cons, List.not_mem_nil, List.length_cons, List.length_nil, Nat.reduceEqDiff, Nat.reduceAdd, Nat.reduceSub, Nat.reduceLeDiff, Nat.reduceLT, Int.reduceEq, Int.reduceLT, Int.reduceLE, Int.reduceNeg, Int.reduceAdd, Int.reduceSub, Int.reduceToNat, ↓reduceIte, one_ne_zero_, zero_ne_one_, px_in32L, cd_164]
      repeat' (first | (with_reducible apply And.intro) | (with_reducible refine px_br_intro (fun _ => ?_) (fun _ => ?_)))
      all_goals (try (first | (unfold px_in32; omega) | omega))
      exact h0 (Or.inr (Or.inl qb))
    · rw [if_neg qb]
      have hEb := hw.1 sb (by omega) (by omega)
      have hemb := isE_m hEb.1
      have heia := hed.2 sa (by omega) (by omega)
      have heib := hed.2 sb (by omega) (by omega)
      have h1 := fun M' U => h1 M' U (by omega) (by omega) (by omega) (by omega)
      simp only [px_go, px_Q0_at, px_sx_0, px_sx_s, px_cl, px_step, ↓px_ll, px_lg, f4_, ↓px_r1, ↓px_r2, ↓px_r4, ↓px_r5, ↓px_p1, ↓px_p2, ↓px_p3, ↓px_pop, px_k_0, px_k_s, px_k3_0, px_stk_, px_cats, px_ent, px_st1, px_st2, px_mask, ↓px_tsw, ↓px_lsw, ct_, mls_0, mls_1, mls_2, mls_3, mls_4, mls_5, kd_0, kd_1, kd_2, kd_3, ln_0, ln_1, ln_2, ln_3, gf_0, gf_1, gf_2, gf_3, gf_4, gf_7, gf_21, gf_63, dy_0, dy_1, dy_2, dy_3, dy_7, dy_21, px_brT, px_brF, true_and, and_true, and_false, false_and, and_self, true_implies, false_implies, or_true, true_or, or_false, false_or, eq_self, ne_eq, not_false_eq_true, not_true_eq_false, if_true, if_false, List.mem_cons, List.not_mem_nil, List.length_cons, List.length_nil, Nat.reduceEqDiff, Nat.reduceAdd, Nat.reduceSub, Nat.reduceLeDiff, Nat.reduceLT, Int.reduceEq, Int.reduceLT, Int.reduceLE, Int.reduceNeg, Int.reduceAdd, Int.reduceSub, Int.reduceToNat, ↓reduceIte, one_ne_zero_, zero_ne_one_, px_in32L, cd_164]
      repeat' (first | (with_reducible apply And.intro) | (with_reducible refine px_br_intro (fun _ => ?_) (fun _ => ?_)))
      all_goals (try (first | (unfold px_in32; omega) | omega))
      all_goals (try exact h0 (Or.inr (Or.inr (Or.inl (by omega)))))
      all_goals (try exact h0 (Or.inr (Or.inr (Or.inr (by omega)))))
      rename_i c1 c2 c3 c4 c5
      refine sp_compare (pa := pl sa) (pb := pl sb) ⟨⟨hEa.1, hEb.1⟩, ⟨heia.1, heib.1⟩, ⟨heia.2.1, heib.2.1⟩⟩ (fun p hp => ?_) (fun M' U u1 u2 u3 u4 => ?_)
      · rcases hp with ⟨j, j0, j1, j2⟩ | ⟨j, j0, j1, j2⟩
        · rw [← j2]; exact isP_ne (heia.2.2.1 j j0 j1).2
        · rw [← j2]; exact isP_ne (heib.2.2.1 j j0 j1).2
      · have h1 := h1 M' U (by omega) (by omega) u1 u4
        have eD : chf (cAt M (M 21 sa) (pl sa)) (cAt M (M 21 sb) (pl sb)) (pAt M (M 21 sa) (pl sa)) (pAt M (M 21 sb) (pl sb)) U = chgD M pl sa sb U := rfl
        have hl := chf_len (cAt M (M 21 sa) (pl sa)) (cAt M (M 21 sb) (pl sb)) (pAt M (M 21 sa) (pl sa)) (pAt M (M 21 sb) (pl sb)) U
        rw [eD] at u2 hl
        generalize chgD M pl sa sb U = D at *
        have hMD := u2.1
        simp only [px_go, px_Q0_at, px_sx_0, px_sx_s, px_cl, px_step, ↓px_ll, px_lg, f4_, ↓px_r1, ↓px_r2, ↓px_r4, ↓px_r5, ↓px_p1, ↓px_p2, ↓px_p3, ↓px_pop, px_k_0, px_k_s, px_k3_0, px_stk_, px_cats, px_ent, px_st1, px_st2, px_mask, ↓px_tsw, ↓px_lsw, ct_, mls_0, mls_1, mls_2, mls_3, mls_4, mls_5, kd_0, kd_1, kd_2, kd_3, ln_0, ln_1, ln_2, ln_3, gf_0, gf_1, gf_2, gf_3, gf_4, gf_7, gf_21, gf_63, dy_0, dy_1, dy_2, dy_3, dy_7, dy_21, px_brT, px_brF, true_and, and_true, and_false, false_and, and_self, true_implies, false_implies, or_true, true_or, or_false, false_or, eq_self, ne_eq, not_false_eq_true, not_true_eq_false, if_true, if_false, List.mem_cons, List.not_mem_nil, List.length_cons, List.length_nil, Nat.reduceEqDiff, Nat.reduceAdd, Nat.reduceSub, Nat.reduceLeDiff, Nat.reduceLT, Int.reduceEq, Int.reduceLT, Int.reduceLE, Int.reduceNeg, Int.reduceAdd, Int.reduceSub, Int.reduceToNat, ↓reduceIte, one_ne_zero_, zero_ne_one_, px_in32L, cd_164, hMD]
        repeat' (first | (with_reducible apply And.intro) | (with_reducible refine px_br_intro (fun _ => ?_) (fun _ => ?_)))
        all_goals (try (first | (unfold px_in32; omega) | omega))
        · rename_i c6 c7
          unfold chgR at h1
          rw [if_pos c6, if_pos c7] at h1; exact h1
        · rename_i c6 c7
          unfold chgR at h1
          rw [if_pos c6, if_neg c7] at h1; exact h1
        all_goals (try (
          rename_i c6 c7
          unfold chgR at h1
          rw [if_neg c6, List.getElem?_eq_none (by omega)] at h1
          exact h1))
        all_goals
          rename_i c6 c7
          have hg : D[k.toNat]? = some (D[k.toNat]'(by omega)) := List.getElem?_eq_getElem (by omega)
          have hmem : D[k.toNat]'(by omega) ∈ D := List.getElem_mem _
          have hat := u2.2 k.toNat _ hg
          rw [Int.toNat_of_nonneg (by omega)] at hat
          unfold chgR at h1
          rw [if_neg c6, hg] at h1
          generalize D[k.toNat]'(by omega) = x at *
          dsimp only at h1
          intro z
        · rw [if_pos z] at h1
          repeat' (first | (with_reducible apply And.intro) | (with_reducible refine px_br_intro (fun _ => ?_) (fun _ => ?_)))
          all_goals (try (first | (unfold px_in32; omega) | omega))
          rw [hat.1]; exact h1
        · rw [if_neg (by omega), if_pos z] at h1
          repeat' (first | (with_reducible apply And.intro) | (with_reducible refine px_br_intro (fun _ => ?_) (fun _ => ?_)))
          all_goals (try (first | (unfold px_in32; omega) | omega))
          rw [hat.2.1]; exact h1
        · rw [if_neg (by omega), if_neg (by omega), if_pos z] at h1
          repeat' (first | (with_reducible apply And.intro) | (with_reducible refine px_br_intro (fun _ => ?_) (fun _ => ?_)))
          all_goals (try (first | (unfold px_in32; omega) | omega))
          rw [hat.2.2]; exact h1
        · rw [if_neg (by omega), if_neg (by omega), if_neg (by omega)] at h1
          have fe : ∀ e, isE e → M' e = M e ∧ M' (e + 1) = M (e + 1) ∧ M' (e + 2) = M (e + 2) := fun e he => by
            have := isE_m he
            exact ⟨u4 _ (by omega) (by omega) (by omega) (by omega), u4 _ (by omega) (by omega) (by omega) (by omega), u4 _ (by omega) (by omega) (by omega) (by omega)⟩
          have fa := fe _ hEa.1
          have fb := fe _ hEb.1
          refine sp_movedFrom hEa.1 hEb.1 (lsC_frame heia.1 fa.1 fa.2.1 fa.2.2) (lsC_frame heib.1 fb.1 fb.2.1 fb.2.2) ⟨by omega, by omega⟩ (fun q => ?_) (fun q => ?_) (fun q => ?_)
          · obtain ⟨p, p1, p2, p3⟩ := hl.2 x hmem
            rw [hat.1, p3] at q
            rw [hat.2.2, p3, fb.1]
            have ca := cAt_pAt heia.1 p
            have cb := cAt_pAt heib.1 p
            have q : chk (cAt M (M 21 sa) (pl sa) p) (cAt M (M 21 sb) (pl sb) p) = 0 := q
            unfold chk at q
            have hneg : cAt M (M 21 sa) (pl sa) p < 0 := by
              by_cases r : cAt M (M 21 sa) (pl sa) p < 0
              · exact r
              · rw [if_neg r] at q
                split at q <;> omega
            have := ca.2 hneg
            exact cb.1 (by
              by_cases r : cAt M (M 21 sb) (pl sb) p < 0
              · have := cb.2 r; omega
              · omega)
          · rw [hat.1] at q
            rw [if_pos q] at h1
            simp only [px_go, px_Q0_at, px_sx_0, px_sx_s, px_cl, px_step, ↓px_ll, px_lg, f4_, ↓px_r1, ↓px_r2, ↓px_r4, ↓px_r5, ↓px_p1, ↓px_p2, ↓px_p3, ↓px_pop, px_k_0, px_k_s, px_k3_0, px_stk_, px_cats, px_ent, px_st1, px_st2, px_mask, ↓px_tsw, ↓px_lsw, ct_, mls_0, mls_1, mls_2, mls_3, mls_4, mls_5, kd_0, kd_1, kd_2, kd_3, ln_0, ln_1, ln_2, ln_3, gf_0, gf_1, gf_2, gf_3, gf_4, gf_7, gf_21, gf_63, dy_0, dy_1, dy_2, dy_3, dy_7, dy_21, px_brT, px_brF, true_and, and_true, and_false, false_and, and_self, true_implies, false_implies, or_true, true_or, or_false, false_or, eq_self, ne_eq, not_false_eq_true, not_true_eq_false, if_true, if_false, List.mem_cons, List.not_mem_nil, List.length_cons, List.length_nil, Nat.reduceEqDiff, Nat.reduceAdd, Nat.reduceSub, Nat.reduceLeDiff, Nat.reduceLT, Int.reduceEq, Int.reduceLT, Int.reduceLE, Int.reduceNeg, Int.reduceAdd, Int.reduceSub, Int.reduceToNat, ↓reduceIte, one_ne_zero_, zero_ne_one_, px_in32L, cd_164]
            exact h1
          · rw [hat.1] at q
            rw [if_neg (fun r => r q)] at h1
            simp only [px_go, px_Q0_at, px_sx_0, px_sx_s, px_cl, px_step, ↓px_ll, px_lg, f4_, ↓px_r1, ↓px_r2, ↓px_r4, ↓px_r5, ↓px_p1, ↓px_p2, ↓px_p3, ↓px_pop, px_k_0, px_k_s, px_k3_0, px_stk_, px_cats, px_ent, px_st1, px_st2, px_mask, ↓px_tsw, ↓px_lsw, ct_, mls_0, mls_1, mls_2, mls_3, mls_4, mls_5, kd_0, kd_1, kd_2, kd_3, ln_0, ln_1, ln_2, ln_3, gf_0, gf_1, gf_2, gf_3, gf_4, gf_7, gf_21, gf_63, dy_0, dy_1, dy_2, dy_3, dy_7, dy_21, px_brT, px_brF, true_and, and_true, and_false, false_and, and_self, true_implies, false_implies, or_true, true_or, or_false, false_or, eq_self, ne_eq, not_false_eq_true, not_true_eq_false, if_true, if_false, List.mem_cons, List.not_mem_nil, List.length_cons, List.length_nil, Nat.reduceEqDiff, Nat.reduceAdd, Nat.reduceSub, Nat.reduceLeDiff, Nat.reduceLT, Int.reduceEq, Int.reduceLT, Int.reduceLE, Int.reduceNeg, Int.reduceAdd, Int.reduceSub, Int.reduceToNat, ↓reduceIte, one_ne_zero_, zero_ne_one_, px_in32L, cd_164]
            rw [fa.1, fa.2.2, fb.2.2, hat.2.2]
            have ep : pAt M' (M 21 sb) (pl sb) = pAt M (M 21 sb) (pl sb) := funext (fun p => pAt_frame fb.1 p)
            rw [ep]
            exact h1
end PS
