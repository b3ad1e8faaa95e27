set_option maxRecDepth 100000 in
/-- X11_countTouched -/
theorem cd_155 : px_at 155 0 = some (1, [], .iconst 0, []) ∧ px_at 155 1 = some (2, [], .istore_n 1, []) ∧ px_at 155 2 = some (3, [], .iconst 0, []) ∧ px_at 155 3 = some (4, [], .istore_n 2, []) ∧ px_at 155 4 = some (5, [1, 1, 1, 0, 0], .iload_n 2, []) ∧ px_at 155 5 = some (6, [], .aload_n 0, []) ∧ px_at 155 6 = some (9, [], .getfield 26, [10, 2, 2, 1, 116]) ∧ px_at 155 9 = some (12, [], .getfield 139, [3, 1, 0, 0, 50]) ∧ px_at 155 12 = some (15, [], .if_icmp .ge 61, [73]) ∧ px_at 155 15 = some (16, [], .aload_n 0, []) ∧ px_at 155 16 = some (19, [], .getfield 26, [10, 2, 2, 1, 116]) ∧ px_at 155 19 = some (20, [], .iload_n 2, []) ∧ px_at 155 20 = some (23, [], .invokevirtual 243, [45, 1, 3, 115]) ∧ px_at 155 23 = some (24, [], .astore_n 3, []) ∧ px_at 155 24 = some (25, [], .iconst 0, []) ∧ px_at 155 25 = some (27, [], .istore 4, []) ∧ px_at 155 27 = some (28, [1, 1, 1, 1, 1], .aload_n 3, []) ∧ px_at 155 28 = some (31, [], .ifnull 39, [67]) ∧ px_at 155 31 = some (33, [], .iload 4, []) ∧ px_at 155 33 = some (34, [], .aload_n 3, []) ∧ px_at 155 34 = some (37, [], .getfield 166, [2, 2, 0, 0, 33]) ∧ px_at 155 37 = some (40, [], .if_icmp .ge 30, [67]) ∧ px_at 155 40 = some (41, [], .aload_n 0, []) ∧ px_at 155 41 = some (44, [], .getfield 42, [10, 4, 2, 1, 118]) ∧ px_at 155 44 = some (47, [], .getfield 176, [1, 8, 2, 1, 84]) ∧ px_at 155 47 = some (48, [], .aload_n 3, []) ∧ px_at 155 48 = some (51, [], .getfield 169, [2, 1, 2, 1, 28]) ∧ px_at 155 51 = some (53, [], .iload 4, []) ∧ px_at 155 53 = some (54, [], .iaload, []) ∧ px_at 155 54 = some (55, [], .baload, []) ∧ px_at 155 55 = some (58, [], .ifCond .ne 6, [61]) ∧ px_at 155 58 = some (61, [], .iinc 1 1, []) ∧ px_at 155 61 = some (64, [], .iinc 4 1, []) ∧ px_at 155 64 = some (67, [], .goto (-37), [27]) ∧ px_at 155 67 = some (70, [], .iinc 2 1, []) ∧ px_at 155 70 = some (73, [], .goto (-66), [4]) ∧ px_at 155 73 = some (74, [], .iload_n 1, []) ∧ px_at 155 74 = some (75, [], .ireturn, [0]) := ⟨rfl, rfl, rfl, rfl, rfl, rfl, rfl, rfl, rfl, rfl, rfl, rfl, rfl, rfl, rfl, rfl, rfl, rfl, rfl, rfl, rfl, rfl, rfl, rfl, rfl, rfl, rfl, rfl, rfl, rfl, rfl, rfl, rfl, rfl, rfl, rfl, rfl, rfl⟩
set_option maxRecDepth 100000 in
/-- X11_countBytes -/
theorem cd_156 : px_at 156 0 = some (1, [], .iconst 0, []) ∧ px_at 156 1 = some (2, [], .istore_n 1, []) ∧ px_at 156 2 = some (3, [], .iconst 0, []) ∧ px_at 156 3 = some (4, [], .istore_n 2, []) ∧ px_at 156 4 = some (5, [1, 1, 1, 0], .iload_n 2, []) ∧ px_at 156 5 = some (6, [], .aload_n 0, []) ∧ px_at 156 6 = some (9, [], .getfield 26, [10, 2, 2, 1, 116]) ∧ px_at 156 9 = some (12, [], .getfield 139, [3, 1, 0, 0, 50]) ∧ px_at 156 12 = some (15, [], .if_icmp .ge 40, [52]) ∧ px_at 156 15 = some (16, [], .aload_n 0, []) ∧ px_at 156 16 = some (19, [], .getfield 26, [10, 2, 2, 1, 116]) ∧ px_at 156 19 = some (20, [], .iload_n 2, []) ∧ px_at 156 20 = some (23, [], .invokevirtual 243, [45, 1, 3, 115]) ∧ px_at 156 23 = some (24, [], .astore_n 3, []) ∧ px_at 156 24 = some (25, [], .aload_n 3, []) ∧ px_at 156 25 = some (28, [], .ifnull 21, [46]) ∧ px_at 156 28 = some (29, [], .iload_n 1, []) ∧ px_at 156 29 = some (30, [], .aload_n 0, []) ∧ px_at 156 30 = some (33, [], .getfield 42, [10, 4, 2, 1, 118]) ∧ px_at 156 33 = some (34, [], .aload_n 3, []) ∧ px_at 156 34 = some (37, [], .getfield 169, [2, 1, 2, 1, 28]) ∧ px_at 156 37 = some (38, [], .aload_n 3, []) ∧ px_at 156 38 = some (41, [], .getfield 166, [2, 2, 0, 0, 33]) ∧ px_at 156 41 = some (44, [], .invokevirtual 388, [9, 2, 1, 183]) ∧ px_at 156 44 = some (45, [], .iadd, []) ∧ px_at 156 45 = some (46, [], .istore_n 1, []) ∧ px_at 156 46 = some (49, [], .iinc 2 1, []) ∧ px_at 156 49 = some (52, [], .goto (-45), [4]) ∧ px_at 156 52 = some (53, [], .iload_n 1, []) ∧ px_at 156 53 = some (54, [], .ireturn, [0]) := ⟨rfl, rfl, rfl, rfl, rfl, rfl, rfl, rfl, rfl, rfl, rfl, rfl, rfl, rfl, rfl, rfl, rfl, rfl, rfl, rfl, rfl, rfl, rfl, rfl, rfl, rfl, rfl, rfl, rfl, rfl⟩
set_option maxRecDepth 100000 in
/-- X11_edition -/
theorem cd_157 : px_at 157 0 = some (1, [], .aload_n 0, []) ∧ px_at 157 1 = some (4, [], .getfield 26, [10, 2, 2, 1, 116]) ∧ px_at 157 4 = some (5, [], .iload_n 1, []) ∧ px_at 157 5 = some (8, [], .invokevirtual 243, [45, 1, 3, 115]) ∧ px_at 157 8 = some (9, [], .astore_n 2, []) ∧ px_at 157 9 = some (10, [], .aload_n 2, []) ∧ px_at 157 10 = some (13, [], .ifnonnull 7, [17]) ∧ px_at 157 13 = some (14, [], .iconst (-1), []) ∧ px_at 157 14 = some (17, [], .goto 7, [21]) ∧ px_at 157 17 = some (18, [], .aload_n 2, []) ∧ px_at 157 18 = some (21, [], .getfield 225, [2, 3, 0, 0, 35]) ∧ px_at 157 21 = some (22, [], .ireturn, [0]) := ⟨rfl, rfl, rfl, rfl, rfl, rfl, rfl, rfl, rfl, rfl, rfl, rfl⟩
/-! EditionVault: count, edition, touched, told -/
/-- spoilt contents in the lists of the first so many editions -/
noncomputable def tcN (M : px_mem) (N : Int) : Int := sm N (fun i => sm (nfC M i) (fun j => b1 (M 105 (cfC M i j) = 0)))
noncomputable def tcJ (M : px_mem) (i j : Int) : Int := sm j (fun j => b1 (M 105 (cfC M i j) = 0))
def cbN (M : px_mem) (N : Int) : Int := sm N (fun i => sm (nfC M i) (fun j => M 57 (cfC M i j)))
theorem tcN_s {M : px_mem} {i : Int} (h : 0 ≤ i) : tcN M (i + 1) = tcN M i + tcJ M i (nfC M i) := sm_s h _
theorem tcJ_s {M : px_mem} {i j : Int} (h : 0 ≤ j) : tcJ M i (j + 1) = tcJ M i j + b1 (M 105 (cfC M i j) = 0) := sm_s h _
theorem tcJ_rng (M : px_mem) (i : Int) {j : Int} (h : 0 ≤ j) : 0 ≤ tcJ M i j ∧ tcJ M i j ≤ j := by
  have := sm_bnd (c := 1) h (f := fun j => b1 (M 105 (cfC M i j) = 0)) (fun j _ _ => b1_rng _)
  unfold tcJ
  omega
theorem tcN_rng {M : px_mem} (hl : lsA M) {N : Int} (h : 0 ≤ N) (h2 : N ≤ M 20 1) : 0 ≤ tcN M N ∧ tcN M N ≤ 12 * N := by
  have := sm_bnd (c := 12) h (f := fun i => sm (nfC M i) (fun j => b1 (M 105 (cfC M i j) = 0))) (fun i i0 i1 => by
    have a := hl i i0 (by omega)
    have := tcJ_rng M i a.1
    unfold tcJ at this
    omega)
  unfold tcN
  omega
def touAt (M : px_mem) (k i j : Int) : Prop := 0 ≤ i ∧ i < M 20 1 ∧ 0 ≤ j ∧ j < nfC M i ∧ M 105 (cfC M i j) = 0 ∧ tcN M i + tcJ M i j = k
section PS
variable {M : px_mem} {Q : Option pv → px_mem → Prop}
set_option maxHeartbeats 600000 in
set_option maxRecDepth 100000 in
theorem lp_ct2 {i : Int} (hw : edW M) (hl : lsA M) (hi : 0 ≤ i ∧ i < M 20 1) (hx : px_WP 155 0 0 (px_Q0 LAY Q) 4 [(2, 1), (0, tcN M (i + 1)), (0, i + 1), (9, 0), (9, 0)] [] LAY M 0 0) (j : Int) (hk_j : j ≤ M (M 21 i) 2) : 0 ≤ j → px_WP 155 0 0 (px_Q0 LAY Q) 27 [(2, 1), (0, tcN M i + tcJ M i j), (0, i), (2, M 21 i), (0, j)] [] LAY M 0 0 := by
  refine up_ind (P := fun j => 0 ≤ j → px_WP 155 0 0 (px_Q0 LAY Q) 27 [(2, 1), (0, tcN M i + tcJ M i j), (0, i), (2, M 21 i), (0, j)] [] LAY M 0 0) (M (M 21 i) 2) (fun j hk_j ih => ?_) j hk_j
  intro j0
  have hn := hw.2.2
  have hE := hw.1 i hi.1 (by omega)
  have hel := isE_lay hE.1
  have heg := isE_gf hE.1
  have hem := isE_m hE.1
  have hli := hl i hi.1 hi.2
  have hn12 : M (M 21 i) 2 ≤ 12 := hli.2.1
  have hcj : j < M (M 21 i) 2 → 0 ≤ M (M 21 i + 2) j ∧ M (M 21 i + 2) j < 40 := fun q => hli.2.2 j j0 q
  have hs := tcJ_s (M := M) (i := i) j0
  have hr := tcN_rng hl hi.1 (by omega)
  have hr2 := tcJ_rng M i j0
  have hN := tcN_s (M := M) hi.1
  refine px_go_ok (inl := []) 60 ?_
  simp only [px_go, px_Q0_at, px_sx_0, px_sx_s, px_cl, px_step, ↓px_ll, px_lg, f4_, ↓px_r1, ↓px_r2, ↓px_r4, ↓px_r5, ↓px_p1, ↓px_p2, ↓px_p3, ↓px_pop, px_k_0, px_k_s, px_k3_0, px_stk_, px_cats, px_ent, px_st1, px_st2, px_mask, ↓px_tsw, ↓px_lsw, ct_, mls_0, mls_1, mls_2, mls_3, mls_4, mls_5, kd_0, kd_1, kd_2, kd_3, ln_0, ln_1, ln_2, ln_3, gf_0, gf_1, gf_2, gf_3, gf_4, gf_7, gf_21, gf_63, dy_0, dy_1, dy_2, dy_3, dy_7, dy_21, px_brT, px_brF, true_and, and_true, and_false, false_and, and_self, true_implies, false_implies, or_true, true_or, or_false, false_or, eq_self, ne_eq, not_false_eq_true, not_true_eq_false, if_true, if_false, List.mem_cons, List.not_mem_nil, List.length_cons, List.length_nil, Nat.reduceEqDiff, Nat.reduceAdd, Nat.reduceSub, Nat.reduceLeDiff, Nat.reduceLT, Int.reduceEq, Int.reduceLT, Int.reduceLE, Int.reduceNeg, Int.reduceAdd, Int.reduceSub, Int.reduceToNat, ↓reduceIte, one_ne_zero_, zero_ne_one_, px_in32L, cd_155, hel, heg]
  repeat' (first | (with_reducible apply And.intro) | (with_reducible refine px_br_intro (fun _ => ?_) (fun _ => ?_)))
  all_goals (try (first | (unfold px_in32; omega) | omega))
  · rename_i c1 c2
    have e : j = nfC M i := by show j = M (M 21 i) 2; omega
    rw [e, ← hN]; exact hx
  · rename_i c1 c2 c3
    have c3 : M 105 (cfC M i j) = 0 := c3
    rw [b1_t c3] at hs
    have := ih (by omega) (by omega)
    rw [hs, ← Int.add_assoc] at this; exact this
  · rename_i c1 c2 c3
    have c3 : ¬ M 105 (cfC M i j) = 0 := c3
    rw [b1_f c3, Int.add_zero] at hs
    have := ih (by omega) (by omega)
    rw [hs] at this; exact this
set_option maxHeartbeats 600000 in
set_option maxRecDepth 100000 in
theorem lp_ct1 (hw : edW M) (hl : lsA M) (h : Q (some (0, tcN M (M 20 1))) M) (i : Int) (hk_i : i ≤ M 20 1) : 0 ≤ i → px_WP 155 0 0 (px_Q0 LAY Q) 4 [(2, 1), (0, tcN M i), (0, i), (9, 0), (9, 0)] [] LAY M 0 0 := by
  refine up_ind (P := fun i => 0 ≤ i → px_WP 155 0 0 (px_Q0 LAY Q) 4 [(2, 1), (0, tcN M i), (0, i), (9, 0), (9, 0)] [] LAY M 0 0) (M 20 1) (fun i hk_i ih => ?_) i hk_i
  intro i0
  have hn := hw.2.2
  refine px_go_ok (inl := [45]) 60 ?_
  simp only [px_go, px_Q0_at, px_sx_0, px_sx_s, px_cl, px_step, ↓px_ll, px_lg, f4_, ↓px_r1, ↓px_r2, ↓px_r4, ↓px_r5, ↓px_p1, ↓px_p2, ↓px_p3, ↓px_pop, px_k_0, px_k_s, px_k3_0, px_stk_, px_cats, px_ent, px_st1, px_st2, px_mask, ↓px_tsw, ↓px_lsw, ct_, mls_0, mls_1, mls_2, mls_3, mls_4, mls_5, kd_0, kd_1, kd_2, kd_3, ln_0, ln_1, ln_2, ln_3, gf_0, gf_1, gf_2, gf_3, gf_4, gf_7, gf_21, gf_63, dy_0, dy_1, dy_2, dy_3, dy_7, dy_21, px_brT, px_brF, true_and, and_true, and_false, false_and, and_self, true_implies, false_implies, or_true, true_or, or_false, false_or, eq_self, ne_eq, not_false_eq_true, not_true_eq_false, if_true, if_false, List.mem_cons, List.not_mem_nil, List.length_cons, List.length_nil, Nat.reduceEqDiff, Nat.reduceAdd, Nat.reduceSub, Nat.reduceLeDiff, Nat.reduceLT, Int.reduceEq, Int.reduceLT, Int.reduceLE, Int.reduceNeg, Int.reduceAdd, Int.reduceSub, Int.reduceToNat, ↓reduceIte, one_ne_zero_, zero_ne_one_, px_in32L, cd_155, cd_45]
  repeat' (first | (with_reducible apply And.intro) | (with_reducible refine px_br_intro (fun _ => ?_) (fun _ => ?_)))
  all_goals (try (first | (unfold px_in32; omega) | omega))
  · rename_i c1
    rw [show i = M 20 1 by omega]; exact h
  · rename_i c1
    have := lp_ct2 (Q := Q) hw hl ⟨i0, by omega⟩ (ih (by omega) (by omega)) 0 (hl i i0 (by omega)).1 (Int.le_refl 0)
    have e : tcJ M i 0 = 0 := rfl
    rw [e, Int.add_zero] at this
    exact this
set_option maxHeartbeats 600000 in
set_option maxRecDepth 100000 in
theorem sp_countTouched (hw : edW M) (hl : lsA M) (h : Q (some (0, tcN M (M 20 1))) M) : px_Ok 155 [(2, 1)] LAY M Q := by
  refine px_ok_go (inl := [45]) (ls0 := [(2, 1), (9, 0), (9, 0), (9, 0), (9, 0)]) 60 (by decide) (Nat.le_of_ble_eq_true rfl) rfl ?_
  simp only [px_go, px_Q0_at, px_sx_0, px_sx_s, px_cl, px_step, ↓px_ll, px_lg, f4_, ↓px_r1, ↓px_r2, ↓px_r4, ↓px_r5, ↓px_p1, ↓px_p2, ↓px_p3, ↓px_pop, px_k_0, px_k_s, px_k3_0, px_stk_, px_cats, px_ent, px_st1, px_st2, px_mask, ↓px_tsw, ↓px_lsw, ct_, mls_0, mls_1, mls_2, mls_3, mls_4, mls_5, kd_0, kd_1, kd_2, kd_3, ln_0, ln_1, ln_2, ln_3, gf_0, gf_1, gf_2, gf_3, gf_4, gf_7, gf_21, gf_63, dy_0, dy_1, dy_2, dy_3, dy_7, dy_21, px_brT, px_brF, true_and, and_true, and_false, false_and, and_self, true_implies, false_implies, or_true, true_or, or_false, false_or, eq_self, ne_eq, not_false_eq_true, not_true_eq_false, if_true, if_false, List.mem_cons, List.not_mem_nil, List.length_cons, List.length_nil, Nat.reduceEqDiff, Nat.reduceAdd, Nat.reduceSub, Nat.reduceLeDiff, Nat.reduceLT, Int.reduceEq, Int.reduceLT, Int.reduceLE, Int.reduceNeg, Int.reduceAdd, Int.reduceSub, Int.reduceToNat, ↓reduceIte, one_ne_zero_, zero_ne_one_, px_in32L, cd_155, cd_45]
  repeat' (first | (with_reducible apply And.intro) | (with_reducible refine px_br_intro (fun _ => ?_) (fun _ => ?_)))
  all_goals (try (first | (unfold px_in32; omega) | omega))
  exact lp_ct1 hw hl h 0 hw.2.2.1 (Int.le_refl 0)
set_option maxHeartbeats 600000 in
set_option maxRecDepth 100000 in
theorem lp_cb (hw : edW M) (hl : lsA M) (hlen : ∀ i j, 0 ≤ i → i < M 20 1 → 0 ≤ j → j < nfC M i → 0 ≤ M 57 (cfC M i j) ∧ M 57 (cfC M i j) ≤ 40) (h : Q (some (0, cbN M (M 20 1))) M) (i : Int) (hk_i : i ≤ M 20 1) : 0 ≤ i → px_WP 156 0 0 (px_Q0 LAY Q) 4 [(2, 1), (0, cbN M i), (0, i), (9, 0)] [] LAY M 0 0 := by
  refine up_ind (P := fun i => 0 ≤ i → px_WP 156 0 0 (px_Q0 LAY Q) 4 [(2, 1), (0, cbN M i), (0, i), (9, 0)] [] LAY M 0 0) (M 20 1) (fun i hk_i ih => ?_) i hk_i
  intro i0
  have hn := hw.2.2
  have hs : cbN M (i + 1) = cbN M i + sm (nfC M i) (fun j => M 57 (cfC M i j)) := sm_s i0 _
  have hr := sm_bnd (c := 480) i0 (f := fun i => sm (nfC M i) (fun j => M 57 (cfC M i j))) (fun x x0 x1 => by
    have a := hl x x0 (by omega)
    have := sm_bnd (c := 40) a.1 (f := fun j => M 57 (cfC M x j)) (fun j j0 j1 => hlen x j x0 (by omega) j0 j1)
    omega)
  have hr2 : 0 ≤ cbN M i ∧ cbN M i ≤ i * 480 := hr
  have hem : i < 10 → 22 ≤ M 21 i := fun q => (isE_m (hw.1 i i0 q).1).2.1
  refine px_go_ok (inl := [45]) 60 ?_
  simp only [px_go, px_Q0_at, px_sx_0, px_sx_s, px_cl, px_step, ↓px_ll, px_lg, f4_, ↓px_r1, ↓px_r2, ↓px_r4, ↓px_r5, ↓px_p1, ↓px_p2, ↓px_p3, ↓px_pop, px_k_0, px_k_s, px_k3_0, px_stk_, px_cats, px_ent, px_st1, px_st2, px_mask, ↓px_tsw, ↓px_lsw, ct_, mls_0, mls_1, mls_2, mls_3, mls_4, mls_5, kd_0, kd_1, kd_2, kd_3, ln_0, ln_1, ln_2, ln_3, gf_0, gf_1, gf_2, gf_3, gf_4, gf_7, gf_21, gf_63, dy_0, dy_1, dy_2, dy_3, dy_7, dy_21, px_brT, px_brF, true_and, and_true, and_false, false_and, and_self, true_implies, false_implies, or_true, true_or, or_false, false_or, eq_self, ne_eq, not_false_eq_true, not_true_eq_false, if_true, if_false, List.mem_cons, List.not_mem_nil, List.length_cons, List.length_nil, Nat.reduceEqDiff, Nat.reduceAdd, Nat.reduceSub, Nat.reduceLeDiff, Nat.reduceLT, Int.reduceEq, Int.reduceLT, Int.reduceLE, Int.reduceNeg, Int.reduceAdd, Int.reduceSub, Int.reduceToNat, ↓reduceIte, one_ne_zero_, zero_ne_one_, px_in32L, cd_156, cd_45]
  repeat' (first | (with_reducible apply And.intro) | (with_reducible refine px_br_intro (fun _ => ?_) (fun _ => ?_)))
  all_goals (try (first | (unfold px_in32; omega) | omega))
  · rename_i c1
    rw [show i = M 20 1 by omega]; exact h
  · exact (isE_lay (hw.1 i i0 (by omega)).1).1
  · exact (isE_lay (hw.1 i i0 (by omega)).1).1
  · rename_i c1 c2
    have hE := hw.1 i i0 (by omega)
    have hel := isE_lay hE.1
    have hli := hl i i0 (by omega)
    rw [(isE_gf hE.1 M).2.1, (isE_gf hE.1 M).2.2.1]
    refine sp_lenAll hli.1 hel.2.2.2.1 (by rw [hel.2.2.2.2.1]; exact hli.2.1) (by have : M (M 21 i) 2 ≤ 12 := hli.2.1; omega) (fun j j0 j1 => ⟨hli.2.2 j j0 j1, hlen i j i0 (by omega) j0 j1⟩) ?_
    have hb := sm_bnd (c := 40) hli.1 (f := fun j => M 57 (cfC M i j)) (fun j j0 j1 => hlen i j i0 (by omega) j0 j1)
    have hn12 := hli.2.1
    have e : sm (M (M 21 i) 2) (fun j => M 57 (M (M 21 i + 2) j)) = sm (nfC M i) (fun j => M 57 (cfC M i j)) := rfl
    rw [e]
    simp only [px_go, px_Q0_at, px_sx_0, px_sx_s, px_cl, px_step, ↓px_ll, px_lg, f4_, ↓px_r1, ↓px_r2, ↓px_r4, ↓px_r5, ↓px_p1, ↓px_p2, ↓px_p3, ↓px_pop, px_k_0, px_k_s, px_k3_0, px_stk_, px_cats, px_ent, px_st1, px_st2, px_mask, ↓px_tsw, ↓px_lsw, ct_, mls_0, mls_1, mls_2, mls_3, mls_4, mls_5, kd_0, kd_1, kd_2, kd_3, ln_0, ln_1, ln_2, ln_3, gf_0, gf_1, gf_2, gf_3, gf_4, gf_7, gf_21, gf_63, dy_0, dy_1, dy_2, dy_3, dy_7, dy_21, px_brT, px_brF, true_and, and_true, and_false, false_and, and_self, true_implies, false_implies, or_true, true_or, or_false, false_or, eq_self, ne_eq, not_false_eq_true, not_true_eq_false, if_true, if_false, List.mem_cons, List.not_mem_nil, List.length_cons, List.length_nil, Nat.reduceEqDiff, Nat.reduceAdd, Nat.reduceSub, Nat.reduceLeDiff, Nat.reduceLT, Int.reduceEq, Int.reduceLT, Int.reduceLE, Int.reduceNeg, Int.reduceAdd, Int.reduceSub, Int.reduceToNat, ↓reduceIte, one_ne_zero_, zero_ne_one_, px_in32L, cd_156, cd_45]
    repeat' (first | (with_reducible apply And.intro) | (with_reducible refine px_br_intro (fun _ => ?_) (fun _ => ?_)))
    all_goals (try (first | (unfold px_in32; omega) | omega))
    have := ih (by omega) (by omega)
    rw [hs] at this; exact this
set_option maxHeartbeats 600000 in
set_option maxRecDepth 100000 in
theorem sp_countBytes (hw : edW M) (hl : lsA M) (hlen : ∀ i j, 0 ≤ i → i < M 20 1 → 0 ≤ j → j < nfC M i → 0 ≤ M 57 (cfC M i j) ∧ M 57 (cfC M i j) ≤ 40) (h : Q (some (0, cbN M (M 20 1))) M) : px_Ok 156 [(2, 1)] LAY M Q := by
  refine px_ok_go (inl := [45]) (ls0 := [(2, 1), (9, 0), (9, 0), (9, 0)]) 60 (by decide) (Nat.le_of_ble_eq_true rfl) rfl ?_
  simp only [px_go, px_Q0_at, px_sx_0, px_sx_s, px_cl, px_step, ↓px_ll, px_lg, f4_, ↓px_r1, ↓px_r2, ↓px_r4, ↓px_r5, ↓px_p1, ↓px_p2, ↓px_p3, ↓px_pop, px_k_0, px_k_s, px_k3_0, px_stk_, px_cats, px_ent, px_st1, px_st2, px_mask, ↓px_tsw, ↓px_lsw, ct_, mls_0, mls_1, mls_2, mls_3, mls_4, mls_5, kd_0, kd_1, kd_2, kd_3, ln_0, ln_1, ln_2, ln_3, gf_0, gf_1, gf_2, gf_3, gf_4, gf_7, gf_21, gf_63, dy_0, dy_1, dy_2, dy_3, dy_7, dy_21, px_brT, px_brF, true_and, and_true, and_false, false_and, and_self, true_implies, false_implies, or_true, true_or, or_false, false_or, eq_self, ne_eq, not_false_eq_true, not_true_eq_false, if_true, if_false, List.mem_cons, List.not_mem_nil, List.length_cons, List.length_nil, Nat.reduceEqDiff, Nat.reduceAdd, Nat.reduceSub, Nat.reduceLeDiff, Nat.reduceLT, Int.reduceEq, Int.reduceLT, Int.reduceLE, Int.reduceNeg, Int.reduceAdd, Int.reduceSub, Int.reduceToNat, ↓reduceIte, one_ne_zero_, zero_ne_one_, px_in32L, cd_156, cd_45]
  repeat' (first | (with_reducible apply And.intro) | (with_reducible refine px_br_intro (fun _ => ?_) (fun _ => ?_)))
  all_goals (try (first | (unfold px_in32; omega) | omega))
  exact lp_cb hw hl hlen h 0 hw.2.2.1 (Int.le_refl 0)
/-- what count() tells -/
noncomputable def cntV (M : px_mem) (w : Int) : Int :=
  if w = 0 then M 4 3 else if w = 1 then M 4 4 else if w = 2 then M 4 5 else if w = 3 then M 20 1 else if w = 4 then M 20 2 else if w = 5 then sm 40 (fun c => b1 (0 ≤ M 62 c)) else if w = 6 then sm 40 (fun c => if 0 ≤ M 62 c then M 60 c else 0) else if w = 7 then lg (fun k => M 54 k < 0) 400 else if w = 8 then sm 40 (fun c => b1 (0 ≤ M 62 c ∧ M 105 c = 0)) else if w = 9 then tcN M (M 20 1) else if w = 10 then cbN M (M 20 1) else if w = 11 then M 2 1 else if w = 12 then sm 40 (fun c => b1 (0 ≤ M 62 c ∧ 0 ≤ M 61 c)) else if w = 13 then mx (M 62) 40 else if w = 14 then M 1 10 else -1
set_option maxHeartbeats 600000 in
set_option maxRecDepth 100000 in
theorem sp_edition {i : Int} (hw : edW M) (h : Q (some (0, if 0 ≤ i ∧ i < M 20 1 then M (M 21 i) 3 else -1)) M) : px_Ok 157 [(2, 1), (0, i)] LAY M Q := by
  have hn := hw.2.2
  have hem : 0 ≤ i → i < 10 → 22 ≤ M 21 i := fun q r => (isE_m (hw.1 i q r).1).2.1
  refine px_ok_go (inl := [45]) (ls0 := [(2, 1), (0, i), (9, 0)]) 60 (by decide) (Nat.le_of_ble_eq_true rfl) rfl ?_
  simp only [px_go, px_Q0_at, px_sx_0, px_sx_s, px_cl, px_step, ↓px_ll, px_lg, f4_, ↓px_r1, ↓px_r2, ↓px_r4, ↓px_r5, ↓px_p1, ↓px_p2, ↓px_p3, ↓px_pop, px_k_0, px_k_s, px_k3_0, px_stk_, px_cats, px_ent, px_st1, px_st2, px_mask, ↓px_tsw, ↓px_lsw, ct_, mls_0, mls_1, mls_2, mls_3, mls_4, mls_5, kd_0, kd_1, kd_2, kd_3, ln_0, ln_1, ln_2, ln_3, gf_0, gf_1, gf_2, gf_3, gf_4, gf_7, gf_21, gf_63, dy_0, dy_1, dy_2, dy_3, dy_7, dy_21, px_brT, px_brF, true_and, and_true, and_false, false_and, and_self, true_implies, false_implies, or_true, true_or, or_false, false_or, eq_self, ne_eq, not_false_eq_true, not_true_eq_false, if_true, if_false, List.mem_cons, List.not_mem_nil, List.length_cons, List.length_nil, Nat.reduceEqDiff, Nat.reduceAdd, Nat.reduceSub, Nat.reduceLeDiff, Nat.reduceLT, Int.reduceEq, Int.reduceLT, Int.reduceLE, Int.reduceNeg, Int.reduceAdd, Int.reduceSub, Int.reduceToNat, ↓reduceIte, one_ne_zero_, zero_ne_one_, px_in32L, cd_157, cd_45]
  repeat' (first | (with_reducible apply And.intro) | (with_reducible refine px_br_intro (fun _ => ?_) (fun _ => ?_)))
  all_goals (try (first | (unfold px_in32; omega) | omega))
  · rw [if_neg (by omega)] at h; exact h
  · rw [if_neg (by omega)] at h; exact h
  · exact (isE_lay (hw.1 i (by omega) (by omega)).1).1
  · rw [if_pos (by omega)] at h
    rw [(isE_gf (hw.1 i (by omega) (by omega)).1 M).2.2.2.1]; exact h
end PS
