set_option maxRecDepth 100000 in
/-- X11_common -/
theorem cd_165 : px_at 165 0 = some (1, [], .aload_n 0, []) ∧ px_at 165 1 = some (4, [], .getfield 26, [10, 2, 2, 1, 116]) ∧ px_at 165 4 = some (5, [], .iload_n 1, []) ∧ px_at 165 5 = some (8, [], .invokevirtual 162, [47, 1, 3, 61]) ∧ px_at 165 8 = some (11, [], .ifnull 14, [22]) ∧ px_at 165 11 = some (12, [], .aload_n 0, []) ∧ px_at 165 12 = some (15, [], .getfield 26, [10, 2, 2, 1, 116]) ∧ px_at 165 15 = some (16, [], .iload_n 2, []) ∧ px_at 165 16 = some (19, [], .invokevirtual 162, [47, 1, 3, 61]) ∧ px_at 165 19 = some (22, [], .ifnonnull 5, [24]) ∧ px_at 165 22 = some (23, [], .iconst (-1), []) ∧ px_at 165 23 = some (24, [], .ireturn, [0]) ∧ px_at 165 24 = some (25, [], .aload_n 0, []) ∧ px_at 165 25 = some (28, [], .getfield 26, [10, 2, 2, 1, 116]) ∧ px_at 165 28 = some (29, [], .iload_n 1, []) ∧ px_at 165 29 = some (30, [], .iload_n 2, []) ∧ px_at 165 30 = some (33, [], .invokevirtual 205, [53, 2, 3, 94]) ∧ px_at 165 33 = some (34, [], .ireturn, [0]) := ⟨rfl, rfl, rfl, rfl, rfl, rfl, rfl, rfl, rfl, rfl, rfl, rfl, rfl, rfl, rfl, rfl, rfl, rfl⟩
set_option maxRecDepth 100000 in
/-- X11_touched -/
theorem cd_166 : px_at 166 0 = some (1, [], .iload_n 1, []) ∧ px_at 166 1 = some (4, [], .ifCond .lt 12, [13]) ∧ px_at 166 4 = some (5, [], .iload_n 2, []) ∧ px_at 166 5 = some (8, [], .ifCond .lt 8, [13]) ∧ px_at 166 8 = some (9, [], .iload_n 2, []) ∧ px_at 166 9 = some (10, [], .iconst 2, []) ∧ px_at 166 10 = some (13, [], .if_icmp .le 5, [15]) ∧ px_at 166 13 = some (14, [], .iconst (-1), []) ∧ px_at 166 14 = some (15, [], .ireturn, [0]) ∧ px_at 166 15 = some (16, [], .iconst 0, []) ∧ px_at 166 16 = some (17, [], .istore_n 3, []) ∧ px_at 166 17 = some (18, [], .iconst 0, []) ∧ px_at 166 18 = some (20, [], .istore 4, []) ∧ px_at 166 20 = some (22, [1, 1, 1, 1, 1, 0, 0], .iload 4, []) ∧ px_at 166 22 = some (23, [], .aload_n 0, []) ∧ px_at 166 23 = some (26, [], .getfield 26, [10, 2, 2, 1, 116]) ∧ px_at 166 26 = some (29, [], .getfield 139, [3, 1, 0, 0, 50]) ∧ px_at 166 29 = some (32, [], .if_icmp .ge 80, [109]) ∧ px_at 166 32 = some (33, [], .aload_n 0, []) ∧ px_at 166 33 = some (36, [], .getfield 26, [10, 2, 2, 1, 116]) ∧ px_at 166 36 = some (38, [], .iload 4, []) ∧ px_at 166 38 = some (41, [], .invokevirtual 243, [45, 1, 3, 115]) ∧ px_at 166 41 = some (43, [], .astore 5, []) ∧ px_at 166 43 = some (44, [], .iconst 0, []) ∧ px_at 166 44 = some (46, [], .istore 6, []) ∧ px_at 166 46 = some (48, [1, 1, 1, 1, 1, 1, 1], .aload 5, []) ∧ px_at 166 48 = some (51, [], .ifnull 55, [103]) ∧ px_at 166 51 = some (53, [], .iload 6, []) ∧ px_at 166 53 = some (55, [], .aload 5, []) ∧ px_at 166 55 = some (58, [], .getfield 166, [2, 2, 0, 0, 33]) ∧ px_at 166 58 = some (61, [], .if_icmp .ge 45, [103]) ∧ px_at 166 61 = some (62, [], .aload_n 0, []) ∧ px_at 166 62 = some (65, [], .getfield 42, [10, 4, 2, 1, 118]) ∧ px_at 166 65 = some (68, [], .getfield 176, [1, 8, 2, 1, 84]) ∧ px_at 166 68 = some (70, [], .aload 5, []) ∧ px_at 166 70 = some (73, [], .getfield 169, [2, 1, 2, 1, 28]) ∧ px_at 166 73 = some (75, [], .iload 6, []) ∧ px_at 166 75 = some (76, [], .iaload, []) ∧ px_at 166 76 = some (77, [], .baload, []) ∧ px_at 166 77 = some (80, [], .ifCond .ne 20, [97]) ∧ px_at 166 80 = some (81, [], .iload_n 3, []) ∧ px_at 166 81 = some (82, [], .iload_n 1, []) ∧ px_at 166 82 = some (85, [], .if_icmp .ne 12, [94]) ∧ px_at 166 85 = some (87, [], .aload 5, []) ∧ px_at 166 87 = some (89, [], .iload 6, []) ∧ px_at 166 89 = some (90, [], .iload_n 2, []) ∧ px_at 166 90 = some (93, [], .invokestatic 440, [167, 3, 10, 215]) ∧ px_at 166 93 = some (94, [], .ireturn, [0]) ∧ px_at 166 94 = some (97, [], .iinc 3 1, []) ∧ px_at 166 97 = some (100, [], .iinc 6 1, []) ∧ px_at 166 100 = some (103, [], .goto (-54), [46]) ∧ px_at 166 103 = some (106, [], .iinc 4 1, []) ∧ px_at 166 106 = some (109, [], .goto (-86), [20]) ∧ px_at 166 109 = some (110, [], .iconst (-1), []) ∧ px_at 166 110 = some (111, [], .ireturn, [0]) := ⟨rfl, rfl, rfl, rfl, rfl, rfl, rfl, rfl, rfl, rfl, rfl, rfl, rfl, rfl, rfl, rfl, rfl, rfl, rfl, rfl, rfl, rfl, rfl, rfl, rfl, rfl, rfl, rfl, rfl, rfl, rfl, rfl, rfl, rfl, rfl, rfl, rfl, rfl, rfl, rfl, rfl, rfl, rfl, rfl, rfl, rfl, rfl, rfl, rfl, rfl, rfl, rfl, rfl, rfl, rfl⟩
set_option maxRecDepth 100000 in
/-- X11_toldOfTouched -/
theorem cd_167 : px_at 167 0 = some (1, [], .iload_n 2, []) ∧ px_at 167 1 = some (28, [], .lookupswitch 34 #[(0, 27), (1, 32)], [35, 0, 28, 1, 33]) ∧ px_at 167 28 = some (29, [], .aload_n 0, []) ∧ px_at 167 29 = some (32, [], .getfield 225, [2, 3, 0, 0, 35]) ∧ px_at 167 32 = some (33, [], .ireturn, [0]) ∧ px_at 167 33 = some (34, [], .iload_n 1, []) ∧ px_at 167 34 = some (35, [], .ireturn, [0]) ∧ px_at 167 35 = some (36, [], .aload_n 0, []) ∧ px_at 167 36 = some (39, [], .getfield 169, [2, 1, 2, 1, 28]) ∧ px_at 167 39 = some (40, [], .iload_n 1, []) ∧ px_at 167 40 = some (41, [], .iaload, []) ∧ px_at 167 41 = some (42, [], .ireturn, [0]) := ⟨rfl, rfl, rfl, rfl, rfl, rfl, rfl, rfl, rfl, rfl, rfl, rfl⟩
set_option maxRecDepth 100000 in
/-- X11_told -/
theorem cd_168 : px_at 168 0 = some (1, [], .aload_n 0, []) ∧ px_at 168 1 = some (4, [], .getfield 26, [10, 2, 2, 1, 116]) ∧ px_at 168 4 = some (5, [], .iload_n 1, []) ∧ px_at 168 5 = some (8, [], .invokevirtual 162, [47, 1, 3, 61]) ∧ px_at 168 8 = some (9, [], .astore_n 3, []) ∧ px_at 168 9 = some (10, [], .aload_n 3, []) ∧ px_at 168 10 = some (13, [], .ifnull 8, [18]) ∧ px_at 168 13 = some (14, [], .iload_n 2, []) ∧ px_at 168 14 = some (15, [], .iconst (-1), []) ∧ px_at 168 15 = some (18, [], .if_icmp .ge 5, [20]) ∧ px_at 168 18 = some (19, [], .iconst (-1), []) ∧ px_at 168 19 = some (20, [], .ireturn, [0]) ∧ px_at 168 20 = some (21, [], .aload_n 3, []) ∧ px_at 168 21 = some (22, [], .aload_n 0, []) ∧ px_at 168 22 = some (25, [], .getfield 67, [10, 8, 2, 1, 122]) ∧ px_at 168 25 = some (26, [], .aload_n 0, []) ∧ px_at 168 26 = some (29, [], .getfield 42, [10, 4, 2, 1, 118]) ∧ px_at 168 29 = some (32, [], .invokevirtual 398, [41, 2, 2, 192]) ∧ px_at 168 32 = some (34, [], .istore 4, []) ∧ px_at 168 34 = some (35, [], .iload_n 2, []) ∧ px_at 168 35 = some (36, [], .iconst (-1), []) ∧ px_at 168 36 = some (39, [], .if_icmp .ne 6, [42]) ∧ px_at 168 39 = some (41, [], .iload 4, []) ∧ px_at 168 41 = some (42, [], .ireturn, [0]) ∧ px_at 168 42 = some (43, [], .iload_n 2, []) ∧ px_at 168 43 = some (45, [], .iload 4, []) ∧ px_at 168 45 = some (48, [], .if_icmp .ge 21, [66]) ∧ px_at 168 48 = some (49, [], .iload_n 2, []) ∧ px_at 168 49 = some (50, [], .aload_n 0, []) ∧ px_at 168 50 = some (53, [], .getfield 67, [10, 8, 2, 1, 122]) ∧ px_at 168 53 = some (54, [], .arraylength, []) ∧ px_at 168 54 = some (57, [], .if_icmp .ge 12, [66]) ∧ px_at 168 57 = some (58, [], .aload_n 0, []) ∧ px_at 168 58 = some (61, [], .getfield 67, [10, 8, 2, 1, 122]) ∧ px_at 168 61 = some (62, [], .iload_n 2, []) ∧ px_at 168 62 = some (63, [], .iaload, []) ∧ px_at 168 63 = some (66, [], .goto 5, [68]) ∧ px_at 168 66 = some (68, [], .bipush (-4), []) ∧ px_at 168 68 = some (69, [], .ireturn, [0]) := ⟨rfl, rfl, rfl, rfl, rfl, rfl, rfl, rfl, rfl, rfl, rfl, rfl, rfl, rfl, rfl, rfl, rfl, rfl, rfl, rfl, rfl, rfl, rfl, rfl, rfl, rfl, rfl, rfl, rfl, rfl, rfl, rfl, rfl, rfl, rfl, rfl, rfl, rfl, rfl⟩
/-! EditionVault: touched, told, common, change -/
section PS
variable {M : px_mem} {Q : Option pv → px_mem → Prop}
set_option maxHeartbeats 600000 in
set_option maxRecDepth 100000 in
theorem lp_tou2 {i k w : Int} (hw : edW M) (hl : lsA M) (hwr : 0 ≤ w ∧ w ≤ 2) (hi : 0 ≤ i ∧ i < M 20 1) (h : ∀ i j, touAt M k i j → Q (some (0, if w = 0 then M (M 21 i) 3 else if w = 1 then j else cfC M i j)) M) (hx : tcN M (i + 1) ≤ k → px_WP 166 0 0 (px_Q0 LAY Q) 20 [(2, 1), (0, k), (0, w), (0, tcN M (i + 1)), (0, i + 1), (9, 0), (9, 0)] [] LAY M 0 0) (j : Int) (hk_j : j ≤ M (M 21 i) 2) : 0 ≤ j → tcN M i + tcJ M i j ≤ k → px_WP 166 0 0 (px_Q0 LAY Q) 46 [(2, 1), (0, k), (0, w), (0, tcN M i + tcJ M i j), (0, i), (2, M 21 i), (0, j)] [] LAY M 0 0 := by
  refine up_ind (P := fun j => 0 ≤ j → tcN M i + tcJ M i j ≤ k → px_WP 166 0 0 (px_Q0 LAY Q) 46 [(2, 1), (0, k), (0, w), (0, tcN M i + tcJ M i j), (0, i), (2, M 21 i), (0, j)] [] LAY M 0 0) (M (M 21 i) 2) (fun j hk_j ih => ?_) j hk_j
  intro j0 hle
  have hn := hw.2.2
  have hE := hw.1 i hi.1 (by omega)
  have hel := isE_lay hE.1
  have heg := isE_gf hE.1
  have hem := isE_m hE.1
  have hli := hl i hi.1 hi.2
  have hn12 : M (M 21 i) 2 ≤ 12 := hli.2.1
  have hcj : j < M (M 21 i) 2 → 0 ≤ M (M 21 i + 2) j ∧ M (M 21 i + 2) j < 40 := fun q => hli.2.2 j j0 q
  have hs := tcJ_s (M := M) (i := i) j0
  have hr := tcN_rng hl hi.1 (by omega)
  have hr2 := tcJ_rng M i j0
  have hN := tcN_s (M := M) hi.1
  refine px_go_ok (inl := [167]) 60 ?_
  simp only [px_go, px_Q0_at, px_sx_0, px_sx_s, px_cl, px_step, ↓px_ll, px_lg, f4_, ↓px_r1, ↓px_r2, ↓px_r4, ↓px_r5, ↓px_p1, ↓px_p2, ↓px_p3, ↓px_pop, px_k_0, px_k_s, px_k3_0, px_stk_, px_cats, px_ent, px_st1, px_st2, px_mask, ↓px_tsw, ↓px_lsw, ct_, mls_0, mls_1, mls_2, mls_3, mls_4, mls_5, kd_0, kd_1, kd_2, kd_3, ln_0, ln_1, ln_2, ln_3, gf_0, gf_1, gf_2, gf_3, gf_4, gf_7, gf_21, gf_63, dy_0, dy_1, dy_2, dy_3, dy_7, dy_21, px_brT, px_brF, true_and, and_true, and_false, false_and, and_self, true_implies, false_implies, or_true, true_or, or_false, false_or, eq_self, ne_eq, not_false_eq_true, not_true_eq_false, if_true, if_false, List.mem_cons, List.not_mem_nil, List.length_cons, List.length_nil, Nat.reduceEqDiff, Nat.reduceAdd, Nat.reduceSub, Nat.reduceLeDiff, Nat.reduceLT, Int.reduceEq, Int.reduceLT, Int.reduceLE, Int.reduceNeg, Int.reduceAdd, Int.reduceSub, Int.reduceToNat, ↓reduceIte, one_ne_zero_, zero_ne_one_, px_in32L, cd_166, cd_167, hel, heg]
  repeat' (first | (with_reducible apply And.intro) | (with_reducible refine px_br_intro (fun _ => ?_) (fun _ => ?_)))
  all_goals (try (first | (unfold px_in32; omega) | omega))
  · rename_i c1 c2
    have e : j = nfC M i := by show j = M (M 21 i) 2; omega
    rw [e, ← hN] at hle ⊢
    exact hx hle
  · rename_i c1 c2 c3 c4
    have c3 : M 105 (cfC M i j) = 0 := c3
    have h := h i j ⟨hi.1, hi.2, j0, by show j < M (M 21 i) 2; omega, c3, c4⟩
    intro z
    rw [if_pos z] at h
    exact h
  · rename_i c1 c2 c3 c4
    have c3 : M 105 (cfC M i j) = 0 := c3
    have h := h i j ⟨hi.1, hi.2, j0, by show j < M (M 21 i) 2; omega, c3, c4⟩
    intro z
    rw [if_neg z] at h
    refine ⟨fun z1 => ?_, fun z1 => ?_⟩
    · rw [if_pos z1] at h; exact h
    · rw [if_neg z1] at h
      repeat' (first | (with_reducible apply And.intro) | (with_reducible refine px_br_intro (fun _ => ?_) (fun _ => ?_)))
      all_goals (try (first | (unfold px_in32; omega) | omega))
      exact h
  · rename_i c1 c2 c3 c4
    have c3 : M 105 (cfC M i j) = 0 := c3
    rw [b1_t c3] at hs
    have := ih (by omega) (by omega) (by omega)
    rw [hs, ← Int.add_assoc] at this; exact this
  · rename_i c1 c2 c3
    have c3 : ¬ M 105 (cfC M i j) = 0 := c3
    rw [b1_f c3, Int.add_zero] at hs
    have := ih (by omega) (by omega) (by omega)
    rw [hs] at this; exact this
set_option maxHeartbeats 600000 in
set_option maxRecDepth 100000 in
theorem lp_tou1 {k w : Int} (hw : edW M) (hl : lsA M) (hwr : 0 ≤ w ∧ w ≤ 2) (h : ∀ i j, touAt M k i j → Q (some (0, if w = 0 then M (M 21 i) 3 else if w = 1 then j else cfC M i j)) M) (h0 : tcN M (M 20 1) ≤ k → Q (some (0, -1)) M) (i : Int) (hk_i : i ≤ M 20 1) : 0 ≤ i → tcN M i ≤ k → px_WP 166 0 0 (px_Q0 LAY Q) 20 [(2, 1), (0, k), (0, w), (0, tcN M i), (0, i), (9, 0), (9, 0)] [] LAY M 0 0 := by
  refine up_ind (P := fun i => 0 ≤ i → tcN M i ≤ k → px_WP 166 0 0 (px_Q0 LAY Q) 20 [(2, 1), (0, k), (0, w), (0, tcN M i), (0, i), (9, 0), (9, 0)] [] LAY M 0 0) (M 20 1) (fun i hk_i ih => ?_) i hk_i
  intro i0 hle
  have hn := hw.2.2
  refine px_go_ok (inl := [45]) 60 ?_
  simp only [px_go, px_Q0_at, px_sx_0, px_sx_s, px_cl, px_step, ↓px_ll, px_lg, f4_, ↓px_r1, ↓px_r2, ↓px_r4, ↓px_r5, ↓px_p1, ↓px_p2, ↓px_p3, ↓px_pop, px_k_0, px_k_s, px_k3_0, px_stk_, px_cats, px_ent, px_st1, px_st2, px_mask, ↓px_tsw, ↓px_lsw, ct_, mls_0, mls_1, mls_2, mls_3, mls_4, mls_5, kd_0, kd_1, kd_2, kd_3, ln_0, ln_1, ln_2, ln_3, gf_0, gf_1, gf_2, gf_3, gf_4, gf_7, gf_21, gf_63, dy_0, dy_1, dy_2, dy_3, dy_7, dy_21, px_brT, px_brF, true_and, and_true, and_false, false_and, and_self, true_implies, false_implies, or_true, true_or, or_false, false_or, eq_self, ne_eq, not_false_eq_true, not_true_eq_false, if_true, if_false, List.mem_cons, List.not_mem_nil, List.length_cons, List.length_nil, Nat.reduceEqDiff, Nat.reduceAdd, Nat.reduceSub, Nat.reduceLeDiff, Nat.reduceLT, Int.reduceEq, Int.reduceLT, Int.reduceLE, Int.reduceNeg, Int.reduceAdd, Int.reduceSub, Int.reduceToNat, ↓reduceIte, one_ne_zero_, zero_ne_one_, px_in32L, cd_166, cd_45]
  repeat' (first | (with_reducible apply And.intro) | (with_reducible refine px_br_intro (fun _ => ?_) (fun _ => ?_)))
  all_goals (try (first | (unfold px_in32; omega) | omega))
  · rename_i c1
    exact h0 (by rw [← show i = M 20 1 by omega]; exact hle)
  · rename_i c1
    have e : tcJ M i 0 = 0 := rfl
    have := lp_tou2 (Q := Q) hw hl hwr ⟨i0, by omega⟩ h (fun q => ih (by omega) (by omega) q) 0 (hl i i0 (by omega)).1 (Int.le_refl 0) (by rw [e]; omega)
    rw [e, Int.add_zero] at this
    exact this
set_option maxHeartbeats 600000 in
set_option maxRecDepth 100000 in
theorem sp_touched {k w : Int} (hw : edW M) (hl : lsA M) (hb : ¬ (0 ≤ k ∧ 0 ≤ w ∧ w ≤ 2) → Q (some (0, -1)) M) (h : ∀ i j, (0 ≤ k ∧ 0 ≤ w ∧ w ≤ 2) → touAt M k i j → Q (some (0, if w = 0 then M (M 21 i) 3 else if w = 1 then j else cfC M i j)) M) (h0 : (0 ≤ k ∧ 0 ≤ w ∧ w ≤ 2) → tcN M (M 20 1) ≤ k → Q (some (0, -1)) M) : px_Ok 166 [(2, 1), (0, k), (0, w)] LAY M Q := by
  refine px_ok_go (inl := []) (ls0 := [(2, 1), (0, k), (0, w), (9, 0), (9, 0), (9, 0), (9, 0)]) 60 (by decide) (Nat.le_of_ble_eq_true rfl) rfl ?_
  simp only [px_go, px_Q0_at, px_sx_0, px_sx_s, px_cl, px_step, ↓px_ll, px_lg, f4_, ↓px_r1, ↓px_r2, ↓px_r4, ↓px_r5, ↓px_p1, ↓px_p2, ↓px_p3, ↓px_pop, px_k_0, px_k_s, px_k3_0, px_stk_, px_cats, px_ent, px_st1, px_st2, px_mask, ↓px_tsw, ↓px_lsw, ct_, mls_0, mls_1, mls_2, mls_3, mls_4, mls_5, kd_0, kd_1, kd_2, kd_3, ln_0, ln_1, ln_2, ln_3, gf_0, gf_1, gf_2, gf_3, gf_4, gf_7, gf_21, gf_63, dy_0, dy_1, dy_2, dy_3, dy_7, dy_21, px_brT, px_brF, true_and, and_true, and_false, false_and, and_self, true_implies, false_implies, or_true, true_or, or_false, false_or, eq_self, ne_eq, not_false_eq_true, not_true_eq_false, if_true, if_false, List.mem_cons, List.not_mem_nil, List.length_cons, List.length_nil, Nat.reduceEqDiff, Nat.reduceAdd, Nat.reduceSub, Nat.reduceLeDiff, Nat.reduceLT, Int.reduceEq, Int.reduceLT, Int.reduceLE, Int.reduceNeg, Int.reduceAdd, Int.reduceSub, Int.reduceToNat, ↓reduceIte, one_ne_zero_, zero_ne_one_, px_in32L, cd_166]
  repeat' (first | (with_reducible apply And.intro) | (with_reducible refine px_br_intro (fun _ => ?_) (fun _ => ?_)))
  all_goals (try (first | (unfold px_in32; omega) | omega))
  all_goals (try exact hb (by omega))
  exact lp_tou1 hw hl (by omega) (fun i j q => h i j (by omega) q) (fun q => h0 (by omega) q) 0 hw.2.2.1 (Int.le_refl 0) (by show (0 : Int) ≤ k; omega)
/-- the text of an edition's list -/
def tlE (M : px_mem) (e : Int) (p : Int → List Int) : List Int := tl p (fun j => M 58 (M (e + 2) j)) (M e 2)
theorem tlE_len {M : px_mem} {e : Int} {p : Int → List Int} (h : lsC M e p) : ((tlE M e p).length : Int) ≤ 228 := by
  have := tl_len (pl := p) (mk := fun j => M 58 (M (e + 2) j)) (n := M e 2) (fun j j0 j1 => (h.2.2 j j0 j1).1.2) (M e 2).toNat (by have := h.1; omega)
  rw [Int.toNat_of_nonneg h.1] at this
  have := h.2.1
  unfold tlE
  omega
set_option maxHeartbeats 600000 in
set_option maxRecDepth 100000 in
theorem sp_told {num i : Int} {pl : Int → Int → List Int} {nm : Int → List Int} (hed : edA M pl nm) (hci : ci M) (h0 : (slot M num < 0 ∨ i < -1) → Q (some (0, -1)) M) (h1 : ∀ M', 0 ≤ slot M num → slot M num < M 20 1 → -1 ≤ i → (∀ b, b ≠ 125 → M' b = M b) → Q (some (0, if i = -1 then ((tlE M (M 21 (slot M num)) (pl (slot M num))).length : Int) else if i < ((tlE M (M 21 (slot M num)) (pl (slot M num))).length : Int) then nth (tlE M (M 21 (slot M num)) (pl (slot M num))) i else -4)) M') : px_Ok 168 [(2, 1), (0, num), (0, i)] LAY M Q := by
  have hw := hed.1
  have hn := hw.2.2
  refine px_ok_go (inl := []) (ls0 := [(2, 1), (0, num), (0, i), (9, 0), (9, 0)]) 60 (by decide) (Nat.le_of_ble_eq_true rfl) rfl ?_
  simp only [px_go, px_Q0_at, px_sx_0, px_sx_s, px_cl, px_step, ↓px_ll, px_lg, f4_, ↓px_r1, ↓px_r2, ↓px_r4, ↓px_r5, ↓px_p1, ↓px_p2, ↓px_p3, ↓px_pop, px_k_0, px_k_s, px_k3_0, px_stk_, px_cats, px_ent, px_st1, px_st2, px_mask, ↓px_tsw, ↓px_lsw, ct_, mls_0, mls_1, mls_2, mls_3, mls_4, mls_5, kd_0, kd_1, kd_2, kd_3, ln_0, ln_1, ln_2, ln_3, gf_0, gf_1, gf_2, gf_3, gf_4, gf_7, gf_21, gf_63, dy_0, dy_1, dy_2, dy_3, dy_7, dy_21, px_brT, px_brF, true_and, and_true, and_false, false_and, and_self, true_implies, false_implies, or_true, true_or, or_false, false_or, eq_self, ne_eq, not_false_eq_true, not_true_eq_false, if_true, if_false, List.mem_cons, List.not_mem_nil, List.length_cons, List.length_nil, Nat.reduceEqDiff, Nat.reduceAdd, Nat.reduceSub, Nat.reduceLeDiff, Nat.reduceLT, Int.reduceEq, Int.reduceLT, Int.reduceLE, Int.reduceNeg, Int.reduceAdd, Int.reduceSub, Int.reduceToNat, ↓reduceIte, one_ne_zero_, zero_ne_one_, px_in32L, cd_168]
  repeat' (first | (with_reducible apply And.intro) | (with_reducible refine px_br_intro (fun _ => ?_) (fun _ => ?_)))
  all_goals (try (first | (unfold px_in32; omega) | omega))
  refine sp_numbered hw ?_
  unfold edR
  have hsr := slot_rng (M := M) num
  generalize slot M num = s at *
  by_cases qs : s < 0
  · rw [if_pos qs]
    simp only [px_go, px_Q0_at, px_sx_0, px_sx_s, px_cl, px_step, ↓px_ll, px_lg, f4_, ↓px_r1, ↓px_r2, ↓px_r4, ↓px_r5, ↓px_p1, ↓px_p2, ↓px_p3, ↓px_pop, px_k_0, px_k_s, px_k3_0, px_stk_, px_cats, px_ent, px_st1, px_st2, px_mask, ↓px_tsw, ↓px_lsw, ct_, mls_0, mls_1, mls_2, mls_3, mls_4, mls_5, kd_0, kd_1, kd_2, kd_3, ln_0, ln_1, ln_2, ln_3, gf_0, gf_1, gf_2, gf_3, gf_4, gf_7, gf_21, gf_63, dy_0, dy_1, dy_2, dy_3, dy_7, dy_21, px_brT, px_brF, true_and, and_true, and_false, false_and, and_self, true_implies, false_implies, or_true, true_or, or_false, false_or, eq_self, ne_eq, not_false_eq_true, not_true_eq_false, if_true, if_false, List.mem_cons, List.not_mem_nil, List.length_cons, List.length_nil, Nat.reduceEqDiff, Nat.reduceAdd, Nat.reduceSub, Nat.reduceLeDiff, Nat.reduceLT, Int.reduceEq, Int.reduceLT, Int.reduceLE, Int.reduceNeg, Int.reduceAdd, Int.reduceSub, Int.reduceToNat, ↓reduceIte, one_ne_zero_, zero_ne_one_, px_in32L, cd_168]
    exact h0 (Or.inl qs)
  · rw [if_neg qs]
    have hE := hw.1 s (by omega) (by omega)
    have hem := isE_m hE.1
    have hel := isE_lay hE.1
    have hei := hed.2 s (by omega) (by omega)
    have hlen := tlE_len hei.1
    simp only [px_go, px_Q0_at, px_sx_0, px_sx_s, px_cl, px_step, ↓px_ll, px_lg, f4_, ↓px_r1, ↓px_r2, ↓px_r4, ↓px_r5, ↓px_p1, ↓px_p2, ↓px_p3, ↓px_pop, px_k_0, px_k_s, px_k3_0, px_stk_, px_cats, px_ent, px_st1, px_st2, px_mask, ↓px_tsw, ↓px_lsw, ct_, mls_0, mls_1, mls_2, mls_3, mls_4, mls_5, kd_0, kd_1, kd_2, kd_3, ln_0, ln_1, ln_2, ln_3, gf_0, gf_1, gf_2, gf_3, gf_4, gf_7, gf_21, gf_63, dy_0, dy_1, dy_2, dy_3, dy_7, dy_21, px_brT, px_brF, true_and, and_true, and_false, false_and, and_self, true_implies, false_implies, or_true, true_or, or_false, false_or, eq_self, ne_eq, not_false_eq_true, not_true_eq_false, if_true, if_false, List.mem_cons, List.not_mem_nil, List.length_cons, List.length_nil, Nat.reduceEqDiff, Nat.reduceAdd, Nat.reduceSub, Nat.reduceLeDiff, Nat.reduceLT, Int.reduceEq, Int.reduceLT, Int.reduceLE, Int.reduceNeg, Int.reduceAdd, Int.reduceSub, Int.reduceToNat, ↓reduceIte, one_ne_zero_, zero_ne_one_, px_in32L, cd_168, hel]
    repeat' (first | (with_reducible apply And.intro) | (with_reducible refine px_br_intro (fun _ => ?_) (fun _ => ?_)))
    all_goals (try (first | (unfold px_in32; omega) | omega))
    · rename_i c1 c2
      refine sp_tellInto hE.1 hei.1 (fun c c0 c1 ⟨j, j0, j1, j2⟩ => ?_) (fun M' a1 a2 => ?_)
      · have := (hei.2.2.1 j j0 j1).1
        rw [j2] at this
        have := cokC (hci.1 c c0 c1 this)
        omega
      · have h1 := h1 M' (by omega) (by omega) c2 a2
        have hT : tl (pl s) (fun j => M 58 (M (M 21 s + 2) j)) (M (M 21 s) 2) = tlE M (M 21 s) (pl s) := rfl
        rw [hT] at a1 ⊢
        generalize tlE M (M 21 s) (pl s) = T at *
        simp only [px_go, px_Q0_at, px_sx_0, px_sx_s, px_cl, px_step, ↓px_ll, px_lg, f4_, ↓px_r1, ↓px_r2, ↓px_r4, ↓px_r5, ↓px_p1, ↓px_p2, ↓px_p3, ↓px_pop, px_k_0, px_k_s, px_k3_0, px_stk_, px_cats, px_ent, px_st1, px_st2, px_mask, ↓px_tsw, ↓px_lsw, ct_, mls_0, mls_1, mls_2, mls_3, mls_4, mls_5, kd_0, kd_1, kd_2, kd_3, ln_0, ln_1, ln_2, ln_3, gf_0, gf_1, gf_2, gf_3, gf_4, gf_7, gf_21, gf_63, dy_0, dy_1, dy_2, dy_3, dy_7, dy_21, px_brT, px_brF, true_and, and_true, and_false, false_and, and_self, true_implies, false_implies, or_true, true_or, or_false, false_or, eq_self, ne_eq, not_false_eq_true, not_true_eq_false, if_true, if_false, List.mem_cons, List.not_mem_nil, List.length_cons, List.length_nil, Nat.reduceEqDiff, Nat.reduceAdd, Nat.reduceSub, Nat.reduceLeDiff, Nat.reduceLT, Int.reduceEq, Int.reduceLT, Int.reduceLE, Int.reduceNeg, Int.reduceAdd, Int.reduceSub, Int.reduceToNat, ↓reduceIte, one_ne_zero_, zero_ne_one_, px_in32L, cd_168]
        repeat' (first | (with_reducible apply And.intro) | (with_reducible refine px_br_intro (fun _ => ?_) (fun _ => ?_)))
        all_goals (try (first | (unfold px_in32; omega) | omega))
        · rename_i c3; rw [if_pos c3] at h1; exact h1
        · rename_i c3 c4; rw [if_neg c3, if_neg (by omega)] at h1; exact h1
        · rename_i c3 c4 c5
          rw [if_neg c3, if_pos (by omega)] at h1
          have : M' 125 i = nth T i := by rw [← a1]; exact (nth_lst (by omega) (by omega)).symm
          rw [this]; exact h1
    · rename_i c1 c2
      exact h0 (Or.inr (by omega))
set_option maxHeartbeats 600000 in
set_option maxRecDepth 100000 in
theorem sp_common {a b : Int} {pl : Int → Int → List Int} {nm : Int → List Int} (hed : edA M pl nm) (hnum : numI M) (h0 : (slot M a < 0 ∨ slot M b < 0) → Q (some (0, -1)) M) (h1 : ∀ r, 0 ≤ slot M a → 0 ≤ slot M b → comC M a b r → Q (some (0, r)) M) : px_Ok 165 [(2, 1), (0, a), (0, b)] LAY M Q := by
  have hw := hed.1
  have hn := hw.2.2
  refine px_ok_go (inl := []) (ls0 := [(2, 1), (0, a), (0, b)]) 60 (by decide) (Nat.le_of_ble_eq_true rfl) rfl ?_
  simp only [px_go, px_Q0_at, px_sx_0, px_sx_s, px_cl, px_step, ↓px_ll, px_lg, f4_, ↓px_r1, ↓px_r2, ↓px_r4, ↓px_r5, ↓px_p1, ↓px_p2, ↓px_p3, ↓px_pop, px_k_0, px_k_s, px_k3_0, px_stk_, px_cats, px_ent, px_st1, px_st2, px_mask, ↓px_tsw, ↓px_lsw, ct_, mls_0, mls_1, mls_2, mls_3, mls_4, mls_5, kd_0, kd_1, kd_2, kd_3, ln_0, ln_1, ln_2, ln_3, gf_0, gf_1, gf_2, gf_3, gf_4, gf_7, gf_21, gf_63, dy_0, dy_1, dy_2, dy_3, dy_7, dy_21, px_brT, px_brF, true_and, and_true, and_false, false_and, and_self, true_implies, false_implies, or_true, true_or, or_false, false_or, eq_self, ne_eq, not_false_eq_true, not_true_eq_false, if_true, if_false, List.mem_cons, List.not_mem_nil, List.length_cons, List.length_nil, Nat.reduceEqDiff, Nat.reduceAdd, Nat.reduceSub, Nat.reduceLeDiff, Nat.reduceLT, Int.reduceEq, Int.reduceLT, Int.reduceLE, Int.reduceNeg, Int.reduceAdd, Int.reduceSub, Int.reduceToNat, ↓reduceIte, one_ne_zero_, zero_ne_one_, px_in32L, cd_165]
  repeat' (first | (with_reducible apply And.intro) | (with_reducible refine px_br_intro (fun _ => ?_) (fun _ => ?_)))
  all_goals (try (first | (unfold px_in32; omega) | omega))
  refine sp_numbered hw ?_
  unfold edR
  have hsr := slot_rng (M := M) a
  by_cases qs : slot M a < 0
  · rw [if_pos qs]
    simp only [px_go, px_Q0_at, px_sx_0, px_sx_s, px_cl, px_step, ↓px_ll, px_lg, f4_, ↓px_r1, ↓px_r2, ↓px_r4, ↓px_r5, ↓px_p1, ↓px_p2, ↓px_p3, ↓px_pop, px_k_0, px_k_s, px_k3_0, px_stk_, px_cats, px_ent, px_st1, px_st2, px_mask, ↓px_tsw, ↓px_lsw, ct_, mls_0, mls_1, mls_2, mls_3, mls_4, mls_5, kd_0, kd_1, kd_2, kd_3, ln_0, ln_1, ln_2, ln_3, gf_0, gf_1, gf_2, gf_3, gf_4, gf_7, gf_21, gf_63, dy_0, dy_1, dy_2, dy_3, dy_7, dy_21, px_brT, px_brF, true_and, and_true, and_false, false_and, and_self, true_implies, false_implies, or_true, true_or, or_false, false_or, eq_self, ne_eq, not_false_eq_true, not_true_eq_false, if_true, if_false, List.mem_cons, List.not_mem_nil, List.length_cons, List.length_nil, Nat.reduceEqDiff, Nat.reduceAdd, Nat.reduceSub, Nat.reduceLeDiff, Nat.reduceLT, Int.reduceEq, Int.reduceLT, Int.reduceLE, Int.reduceNeg, Int.reduceAdd, Int.reduceSub, Int.reduceToNat, ↓reduceIte, one_ne_zero_, zero_ne_one_, px_in32L, cd_165]
    exact h0 (Or.inl qs)
  · rw [if_neg qs]
    have hem := isE_m (hw.1 (slot M a) (by omega) (by omega)).1
    simp only [px_go, px_Q0_at, px_sx_0, px_sx_s, px_cl, px_step, ↓px_ll, px_lg, f4_, ↓px_r1, ↓px_r2, ↓px_r4, ↓px_r5, ↓px_p1, ↓px_p2, ↓px_p3, ↓px_pop, px_k_0, px_k_s, px_k3_0, px_stk_, px_cats, px_ent, px_st1, px_st2, px_mask, ↓px_tsw, ↓px_lsw, ct_, mls_0, mls_1, mls_2, mls_3, mls_4, mls_5, kd_0, kd_1, kd_2, kd_3, ln_0, ln_1, ln_2, ln_3, gf_0, gf_1, gf_2, gf_3, gf_4, gf_7, gf_21, gf_63, dy_0, dy_1, dy_2, dy_3, dy_7, dy_21, px_brT, px_brF, true_and, and_true, and_false, false_and, and_self, true_implies, false_implies, or_true, true_or, or_false, false_or, eq_self, ne_eq, not_false_eq_true, not_true_eq_false, if_true, if_false, List.mem_cons, List.not_mem_nil, List.length_cons, List.length_nil, Nat.reduceEqDiff, Nat.reduceAdd, Nat.reduceSub, Nat.reduceLeDiff, Nat.reduceLT, Int.reduceEq, Int.reduceLT, Int.reduceLE, Int.reduceNeg, Int.reduceAdd, Int.reduceSub, Int.reduceToNat, ↓reduceIte, one_ne_zero_, zero_ne_one_, px_in32L, cd_165]
    repeat' (first | (with_reducible apply And.intro) | (with_reducible refine px_br_intro (fun _ => ?_) (fun _ => ?_)))
    all_goals (try (first | (unfold px_in32; omega) | omega))
    refine sp_numbered hw ?_
    unfold edR
    have hsr2 := slot_rng (M := M) b
    by_cases qt : slot M b < 0
    · rw [if_pos qt]
      simp only [px_go, px_Q0_at, px_sx_0, px_sx_s, px_cl, px_step, ↓px_ll, px_lg, f4_, ↓px_r1, ↓px_r2, ↓px_r4, ↓px_r5, ↓px_p1, ↓px_p2, ↓px_p3, ↓px_pop, px_k_0, px_k_s, px_k3_0, px_stk_, px_cats, px_ent, px_st1, px_st2, px_mask, ↓px_tsw, ↓px_lsw, ct_, mls_0, mls_1, mls_2, mls_3, mls_4, mls_5, kd_0, kd_1, kd_2, kd_3, ln_0, ln_1, ln_2, ln_3, gf_0, gf_1, gf_2, gf_3, gf_4, gf_7, gf_21, gf_63, dy_0, dy_1, dy_2, dy_3, dy_7, dy_21, px_brT, px_brF, true_and, and_true, and_false, false_and, and_self, true_implies, false_implies, or_true, true_or, or_false, false_or, eq_self, ne_eq, not_false_eq_true, not_true_eq_false, if_true, if_false, List.mem_cons, List.not_mem_nil, List.length_cons, List.length_nil, Nat.reduceEqDiff, Nat.reduceAdd, Nat.reduceSub, Nat.reduceLeDiff, Nat.reduceLT, Int.reduceEq, Int.reduceLT, Int.reduceLE, Int.reduceNeg, Int.reduceAdd, Int.reduceSub, Int.reduceToNat, ↓reduceIte, one_ne_zero_, zero_ne_one_, px_in32L, cd_165]
      exact h0 (Or.inr qt)
    · rw [if_neg qt]
      have hem2 := isE_m (hw.1 (slot M b) (by omega) (by omega)).1
      simp only [px_go, px_Q0_at, px_sx_0, px_sx_s, px_cl, px_step, ↓px_ll, px_lg, f4_, ↓px_r1, ↓px_r2, ↓px_r4, ↓px_r5, ↓px_p1, ↓px_p2, ↓px_p3, ↓px_pop, px_k_0, px_k_s, px_k3_0, px_stk_, px_cats, px_ent, px_st1, px_st2, px_mask, ↓px_tsw, ↓px_lsw, ct_, mls_0, mls_1, mls_2, mls_3, mls_4, mls_5, kd_0, kd_1, kd_2, kd_3, ln_0, ln_1, ln_2, ln_3, gf_0, gf_1, gf_2, gf_3, gf_4, gf_7, gf_21, gf_63, dy_0, dy_1, dy_2, dy_3, dy_7, dy_21, px_brT, px_brF, true_and, and_true, and_false, false_and, and_self, true_implies, false_implies, or_true, true_or, or_false, false_or, eq_self, ne_eq, not_false_eq_true, not_true_eq_false, if_true, if_false, List.mem_cons, List.not_mem_nil, List.length_cons, List.length_nil, Nat.reduceEqDiff, Nat.reduceAdd, Nat.reduceSub, Nat.reduceLeDiff, Nat.reduceLT, Int.reduceEq, Int.reduceLT, Int.reduceLE, Int.reduceNeg, Int.reduceAdd, Int.reduceSub, Int.reduceToNat, ↓reduceIte, one_ne_zero_, zero_ne_one_, px_in32L, cd_165]
      repeat' (first | (with_reducible apply And.intro) | (with_reducible refine px_br_intro (fun _ => ?_) (fun _ => ?_)))
      all_goals (try (first | (unfold px_in32; omega) | omega))
      refine sp_commonOf hw (numI_acy hnum) (fun r hr => ?_)
      simp only [px_go, px_Q0_at, px_sx_0, px_sx_s, px_cl, px_step, ↓px_ll, px_lg, f4_, ↓px_r1, ↓px_r2, ↓px_r4, ↓px_r5, ↓px_p1, ↓px_p2, ↓px_p3, ↓px_pop, px_k_0, px_k_s, px_k3_0, px_stk_, px_cats, px_ent, px_st1, px_st2, px_mask, ↓px_tsw, ↓px_lsw, ct_, mls_0, mls_1, mls_2, mls_3, mls_4, mls_5, kd_0, kd_1, kd_2, kd_3, ln_0, ln_1, ln_2, ln_3, gf_0, gf_1, gf_2, gf_3, gf_4, gf_7, gf_21, gf_63, dy_0, dy_1, dy_2, dy_3, dy_7, dy_21, px_brT, px_brF, true_and, and_true, and_false, false_and, and_self, true_implies, false_implies, or_true, true_or, or_false, false_or, eq_self, ne_eq, not_false_eq_true, not_true_eq_false, if_true, if_false, List.mem_cons, List.not_mem_nil, List.length_cons, List.length_nil, Nat.reduceEqDiff, Nat.reduceAdd, Nat.reduceSub, Nat.reduceLeDiff, Nat.reduceLT, Int.reduceEq, Int.reduceLT, Int.reduceLE, Int.reduceNeg, Int.reduceAdd, Int.reduceSub, Int.reduceToNat, ↓reduceIte, one_ne_zero_, zero_ne_one_, px_in32L, cd_165]
      exact h1 r (by omega) (by omega) hr
end PS
