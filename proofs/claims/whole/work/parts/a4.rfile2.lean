set_option maxRecDepth 100000 in
/-- X12_file -/
theorem cd_293 : px_at 293 0 = some (1, [], .iload_n 3, []) ∧ px_at 293 1 = some (2, [], .iconst 0, []) ∧ px_at 293 2 = some (3, [], .iconst 2, []) ∧ px_at 293 3 = some (6, [], .invokestatic 92, [170, 3, 11, 223]) ∧ px_at 293 6 = some (9, [], .ifCond .ne 5, [11]) ∧ px_at 293 9 = some (10, [], .iconst (-1), []) ∧ px_at 293 10 = some (11, [], .ireturn, [0]) ∧ px_at 293 11 = some (12, [], .iload_n 1, []) ∧ px_at 293 12 = some (13, [], .iconst (-1), []) ∧ px_at 293 13 = some (16, [], .if_icmp .ne 67, [80]) ∧ px_at 293 16 = some (17, [], .iload_n 2, []) ∧ px_at 293 17 = some (18, [], .iconst 0, []) ∧ px_at 293 18 = some (19, [], .aload_n 0, []) ∧ px_at 293 19 = some (22, [], .getfield 7, [11, 0, 2, 1, 125]) ∧ px_at 293 22 = some (23, [], .iconst 0, []) ∧ px_at 293 23 = some (24, [], .iaload, []) ∧ px_at 293 24 = some (25, [], .iconst 1, []) ∧ px_at 293 25 = some (26, [], .isub, []) ∧ px_at 293 26 = some (29, [], .invokestatic 92, [170, 3, 11, 223]) ∧ px_at 293 29 = some (32, [], .ifCond .ne 7, [36]) ∧ px_at 293 32 = some (33, [], .iconst (-1), []) ∧ px_at 293 33 = some (36, [], .goto 46, [79]) ∧ px_at 293 36 = some (37, [], .iload_n 3, []) ∧ px_at 293 37 = some (40, [], .ifCond .ne 16, [53]) ∧ px_at 293 40 = some (41, [], .aload_n 0, []) ∧ px_at 293 41 = some (44, [], .getfield 7, [11, 0, 2, 1, 125]) ∧ px_at 293 44 = some (45, [], .aload_n 0, []) ∧ px_at 293 45 = some (46, [], .iload_n 2, []) ∧ px_at 293 46 = some (49, [], .invokevirtual 196, [214, 1, 11, 229]) ∧ px_at 293 49 = some (50, [], .iaload, []) ∧ px_at 293 50 = some (53, [], .goto 29, [79]) ∧ px_at 293 53 = some (54, [], .iload_n 3, []) ∧ px_at 293 54 = some (55, [], .iconst 1, []) ∧ px_at 293 55 = some (58, [], .if_icmp .ne 19, [74]) ∧ px_at 293 58 = some (59, [], .aload_n 0, []) ∧ px_at 293 59 = some (62, [], .getfield 7, [11, 0, 2, 1, 125]) ∧ px_at 293 62 = some (63, [], .aload_n 0, []) ∧ px_at 293 63 = some (64, [], .iload_n 2, []) ∧ px_at 293 64 = some (67, [], .invokevirtual 196, [214, 1, 11, 229]) ∧ px_at 293 67 = some (69, [], .bipush 13, []) ∧ px_at 293 69 = some (70, [], .iadd, []) ∧ px_at 293 70 = some (71, [], .iaload, []) ∧ px_at 293 71 = some (74, [], .goto 8, [79]) ∧ px_at 293 74 = some (75, [], .aload_n 0, []) ∧ px_at 293 75 = some (76, [], .iload_n 2, []) ∧ px_at 293 76 = some (79, [], .invokevirtual 408, [292, 1, 11, 346]) ∧ px_at 293 79 = some (80, [], .ireturn, [0]) ∧ px_at 293 80 = some (81, [], .aload_n 0, []) ∧ px_at 293 81 = some (82, [], .iload_n 1, []) ∧ px_at 293 82 = some (85, [], .invokevirtual 267, [208, 1, 11, 250]) ∧ px_at 293 85 = some (87, [], .istore 4, []) ∧ px_at 293 87 = some (89, [], .iload 4, []) ∧ px_at 293 89 = some (90, [], .iconst (-1), []) ∧ px_at 293 90 = some (93, [], .if_icmp .eq 19, [109]) ∧ px_at 293 93 = some (94, [], .iload_n 2, []) ∧ px_at 293 94 = some (95, [], .iconst 0, []) ∧ px_at 293 95 = some (96, [], .aload_n 0, []) ∧ px_at 293 96 = some (98, [], .iload 4, []) ∧ px_at 293 98 = some (101, [], .invokevirtual 180, [206, 1, 11, 253]) ∧ px_at 293 101 = some (102, [], .iconst 1, []) ∧ px_at 293 102 = some (103, [], .isub, []) ∧ px_at 293 103 = some (106, [], .invokestatic 92, [170, 3, 11, 223]) ∧ px_at 293 106 = some (109, [], .ifCond .ne 5, [111]) ∧ px_at 293 109 = some (110, [], .iconst (-1), []) ∧ px_at 293 110 = some (111, [], .ireturn, [0]) ∧ px_at 293 111 = some (112, [], .iload_n 3, []) ∧ px_at 293 112 = some (115, [], .ifCond .ne 18, [130]) ∧ px_at 293 115 = some (116, [], .aload_n 0, []) ∧ px_at 293 116 = some (119, [], .getfield 7, [11, 0, 2, 1, 125]) ∧ px_at 293 119 = some (120, [], .aload_n 0, []) ∧ px_at 293 120 = some (122, [], .iload 4, []) ∧ px_at 293 122 = some (123, [], .iload_n 2, []) ∧ px_at 293 123 = some (126, [], .invokevirtual 177, [205, 2, 11, 254]) ∧ px_at 293 126 = some (127, [], .iaload, []) ∧ px_at 293 127 = some (130, [], .goto 30, [157]) ∧ px_at 293 130 = some (131, [], .iload_n 3, []) ∧ px_at 293 131 = some (132, [], .iconst 1, []) ∧ px_at 293 132 = some (135, [], .if_icmp .ne 18, [150]) ∧ px_at 293 135 = some (136, [], .aload_n 0, []) ∧ px_at 293 136 = some (137, [], .aload_n 0, []) ∧ px_at 293 137 = some (139, [], .iload 4, []) ∧ px_at 293 139 = some (140, [], .iload_n 2, []) ∧ px_at 293 140 = some (143, [], .invokevirtual 187, [207, 2, 11, 256]) ∧ px_at 293 143 = some (144, [], .iconst 1, []) ∧ px_at 293 144 = some (147, [], .invokevirtual 109, [187, 2, 11, 259]) ∧ px_at 293 147 = some (150, [], .goto 10, [157]) ∧ px_at 293 150 = some (151, [], .aload_n 0, []) ∧ px_at 293 151 = some (153, [], .iload 4, []) ∧ px_at 293 153 = some (154, [], .iload_n 2, []) ∧ px_at 293 154 = some (157, [], .invokevirtual 187, [207, 2, 11, 256]) ∧ px_at 293 157 = some (158, [], .ireturn, [0]) := ⟨rfl, rfl, rfl, rfl, rfl, rfl, rfl, rfl, rfl, rfl, rfl, rfl, rfl, rfl, rfl, rfl, rfl, rfl, rfl, rfl, rfl, rfl, rfl, rfl, rfl, rfl, rfl, rfl, rfl, rfl, rfl, rfl, rfl, rfl, rfl, rfl, rfl, rfl, rfl, rfl, rfl, rfl, rfl, rfl, rfl, rfl, rfl, rfl, rfl, rfl, rfl, rfl, rfl, rfl, rfl, rfl, rfl, rfl, rfl, rfl, rfl, rfl, rfl, rfl, rfl, rfl, rfl, rfl, rfl, rfl, rfl, rfl, rfl, rfl, rfl, rfl, rfl, rfl, rfl, rfl, rfl, rfl, rfl, rfl, rfl, rfl, rfl, rfl, rfl, rfl, rfl⟩
/-! the reference: file -/
section PS
variable {M : px_mem} {Q : Option pv → px_mem → Prop}
set_option maxHeartbeats 600000 in
set_option maxRecDepth 100000 in
theorem sp_rfile {Mc : px_mem} {num i w N : Int} {pl : Int → Int → List Int} {nm : Int → List Int} {g : Int → fe} (hT : TE Mc pl nm (M 128)) (hst : sR (M 128) N g) (h0 : (¬ (0 ≤ w ∧ w ≤ 2) ∨ (num = -1 ∧ ¬ (0 ≤ i ∧ i < N)) ∨ (num ≠ -1 ∧ (slot Mc num < 0 ∨ ¬ (0 ≤ i ∧ i < Mc (Mc 21 (slot Mc num)) 2)))) → Q (some (0, -1)) M) (hs : ∀ M', (0 ≤ w ∧ w ≤ 2) → num = -1 → (0 ≤ i ∧ i < N) → M' 128 = M 128 → out M' M → Q (some (0, if w = 0 then ((g i).1.length : Int) else if w = 1 then ((g i).2.length : Int) else if fnd 40 (isFb Mc (g i).2) = -1 then -2 else fnd 40 (isFb Mc (g i).2))) M') (he : (0 ≤ w ∧ w ≤ 2) → num ≠ -1 → 0 ≤ slot Mc num → slot Mc num < Mc 20 1 → (0 ≤ i ∧ i < Mc (Mc 21 (slot Mc num)) 2) → Q (some (0, if w = 0 then ((pl (slot Mc num) i).length : Int) else if w = 1 then Mc 57 (Mc (Mc 21 (slot Mc num) + 2) i) else Mc (Mc 21 (slot Mc num) + 2) i)) M) : px_Ok 293 [(2, 127), (0, num), (0, i), (0, w)] LAY M Q := by
  have hTn := TE_n hT
  have hF0 := hst.1
  have hn2 := hst.2.1
  have hn3 := hst.2.2.1
  have hf : 0 ≤ i → i < N → fR (M 128) i (g i) := fun q1 q2 => hst.2.2.2 i q1 q2
  have hsb := slot_bd Mc num
  refine px_ok_go (inl := [170, 204, 205, 206, 207, 187, 214]) (ls0 := [(2, 127), (0, num), (0, i), (0, w), (9, 0)]) 160 (by decide) (Nat.le_of_ble_eq_true rfl) rfl ?_
  simp only [px_go, px_Q0_at, px_sx_0, px_sx_s, px_cl, px_step, ↓px_ll, px_lg, f4_, ↓px_r1, ↓px_r2, ↓px_r4, ↓px_r5, ↓px_p1, ↓px_p2, ↓px_p3, ↓px_pop, px_k_0, px_k_s, px_k3_0, px_stk_, px_cats, px_ent, px_st1, px_st2, px_mask, ↓px_tsw, ↓px_lsw, ct_, mls_0, mls_1, mls_2, mls_3, mls_4, mls_5, kd_0, kd_1, kd_2, kd_3, ln_0, ln_1, ln_2, ln_3, gf_0, gf_1, gf_2, gf_3, gf_4, gf_7, gf_21, gf_63, dy_0, dy_1, dy_2, dy_3, dy_7, dy_21, px_brT, px_brF, true_and, and_true, and_false, false_and, and_self, true_implies, false_implies, or_true, true_or, or_false, false_or, eq_self, ne_eq, not_false_eq_true, not_true_eq_false, if_true, if_false, List.mem_cons, List.not_mem_nil, List.length_cons, List.length_nil, Nat.reduceEqDiff, Nat.reduceAdd, Nat.reduceSub, Nat.reduceLeDiff, Nat.reduceLT, Int.reduceEq, Int.reduceLT, Int.reduceLE, Int.reduceNeg, Int.reduceAdd, Int.reduceSub, Int.reduceToNat, ↓reduceIte, one_ne_zero_, zero_ne_one_, px_in32L, cd_293, cd_170, cd_204, cd_205, cd_206, cd_207, cd_187, cd_214, hF0]
  repeat' (first | (with_reducible apply And.intro) | (with_reducible refine px_br_intro (fun _ => ?_) (fun _ => ?_)))
  all_goals (try (first | (unfold px_in32; omega) | omega))
  all_goals (try exact h0 (by omega))
  · rename_i c1 c2 c3 c4 c5 c6
    have f := hf (by omega) (by omega)
    have e1 := fp_len f.2.2.1.2.1
    rw [f.2.2.2.1] at e1
    have hq := hs M (by omega) c3 (by omega) rfl (out_refl M)
    rw [if_pos c6, e1] at hq
    exact hq
  · rename_i c1 c2 c3 c4 c5 c6 c7
    have f := hf (by omega) (by omega)
    have hq := hs M (by omega) c3 (by omega) rfl (out_refl M)
    rw [if_neg c6, if_pos c7, ← f.2.2.2.2.1] at hq
    exact hq
  · rename_i c1 c2 c3 c4 c5 c6 c7
    refine sp_stageContent hT.1 ⟨by omega, by omega⟩ (hf (by omega) (by omega)) (fun M1 a1 => ?_)
    have hq := hs M1 (by omega) c3 (by omega) (frE_128 a1) (frE_out a1)
    rw [if_neg c6, if_neg c7] at hq
    simp only [px_go, px_Q0_at, px_sx_0, px_sx_s, px_cl, px_step, ↓px_ll, px_lg, f4_, ↓px_r1, ↓px_r2, ↓px_r4, ↓px_r5, ↓px_p1, ↓px_p2, ↓px_p3, ↓px_pop, px_k_0, px_k_s, px_k3_0, px_stk_, px_cats, px_ent, px_st1, px_st2, px_mask, ↓px_tsw, ↓px_lsw, ct_, mls_0, mls_1, mls_2, mls_3, mls_4, mls_5, kd_0, kd_1, kd_2, kd_3, ln_0, ln_1, ln_2, ln_3, gf_0, gf_1, gf_2, gf_3, gf_4, gf_7, gf_21, gf_63, dy_0, dy_1, dy_2, dy_3, dy_7, dy_21, px_brT, px_brF, true_and, and_true, and_false, false_and, and_self, true_implies, false_implies, or_true, true_or, or_false, false_or, eq_self, ne_eq, not_false_eq_true, not_true_eq_false, if_true, if_false, List.mem_cons, List.not_mem_nil, List.length_cons, List.length_nil, Nat.reduceEqDiff, Nat.reduceAdd, Nat.reduceSub, Nat.reduceLeDiff, Nat.reduceLT, Int.reduceEq, Int.reduceLT, Int.reduceLE, Int.reduceNeg, Int.reduceAdd, Int.reduceSub, Int.reduceToNat, ↓reduceIte, one_ne_zero_, zero_ne_one_, px_in32L, cd_293, cd_170, cd_204, cd_205, cd_206, cd_207, cd_187, cd_214]
    exact hq
  · rename_i c1 c2 c3
    refine sp_slotT hT ?_
    generalize hsl : slot Mc num = s at *
    have he2 := fun q1 q2 => TE_e hT (i := s) q1 q2
    have e17 : 0 ≤ s → s < Mc 20 1 → M 128 (1294 + 186 * s + 17) = Mc (Mc 21 s) 2 ∧ 0 ≤ Mc (Mc 21 s) 2 ∧ Mc (Mc 21 s) 2 ≤ 12 := fun q1 q2 => ⟨(he2 q1 q2).2.2.2.2.1, (he2 q1 q2).2.2.2.2.2.1, (he2 q1 q2).2.2.2.2.2.2⟩
    rcases hsb with z | z
    · subst z
      simp only [px_go, px_Q0_at, px_sx_0, px_sx_s, px_cl, px_step, ↓px_ll, px_lg, f4_, ↓px_r1, ↓px_r2, ↓px_r4, ↓px_r5, ↓px_p1, ↓px_p2, ↓px_p3, ↓px_pop, px_k_0, px_k_s, px_k3_0, px_stk_, px_cats, px_ent, px_st1, px_st2, px_mask, ↓px_tsw, ↓px_lsw, ct_, mls_0, mls_1, mls_2, mls_3, mls_4, mls_5, kd_0, kd_1, kd_2, kd_3, ln_0, ln_1, ln_2, ln_3, gf_0, gf_1, gf_2, gf_3, gf_4, gf_7, gf_21, gf_63, dy_0, dy_1, dy_2, dy_3, dy_7, dy_21, px_brT, px_brF, true_and, and_true, and_false, false_and, and_self, true_implies, false_implies, or_true, true_or, or_false, false_or, eq_self, ne_eq, not_false_eq_true, not_true_eq_false, if_true, if_false, List.mem_cons, List.not_mem_nil, List.length_cons, List.length_nil, Nat.reduceEqDiff, Nat.reduceAdd, Nat.reduceSub, Nat.reduceLeDiff, Nat.reduceLT, Int.reduceEq, Int.reduceLT, Int.reduceLE, Int.reduceNeg, Int.reduceAdd, Int.reduceSub, Int.reduceToNat, ↓reduceIte, one_ne_zero_, zero_ne_one_, px_in32L, cd_293, cd_170, cd_204, cd_205, cd_206, cd_207, cd_187, cd_214]
      repeat' (first | (with_reducible apply And.intro) | (with_reducible refine px_br_intro (fun _ => ?_) (fun _ => ?_)))
      all_goals (try (first | (unfold px_in32; omega) | omega))
      all_goals exact h0 (by omega)
    · have e17' := e17 z.1 z.2
      have en := fun q => TE_ent hT (i := s) (j := i) z.1 z.2 q
      simp only [px_go, px_Q0_at, px_sx_0, px_sx_s, px_cl, px_step, ↓px_ll, px_lg, f4_, ↓px_r1, ↓px_r2, ↓px_r4, ↓px_r5, ↓px_p1, ↓px_p2, ↓px_p3, ↓px_pop, px_k_0, px_k_s, px_k3_0, px_stk_, px_cats, px_ent, px_st1, px_st2, px_mask, ↓px_tsw, ↓px_lsw, ct_, mls_0, mls_1, mls_2, mls_3, mls_4, mls_5, kd_0, kd_1, kd_2, kd_3, ln_0, ln_1, ln_2, ln_3, gf_0, gf_1, gf_2, gf_3, gf_4, gf_7, gf_21, gf_63, dy_0, dy_1, dy_2, dy_3, dy_7, dy_21, px_brT, px_brF, true_and, and_true, and_false, false_and, and_self, true_implies, false_implies, or_true, true_or, or_false, false_or, eq_self, ne_eq, not_false_eq_true, not_true_eq_false, if_true, if_false, List.mem_cons, List.not_mem_nil, List.length_cons, List.length_nil, Nat.reduceEqDiff, Nat.reduceAdd, Nat.reduceSub, Nat.reduceLeDiff, Nat.reduceLT, Int.reduceEq, Int.reduceLT, Int.reduceLE, Int.reduceNeg, Int.reduceAdd, Int.reduceSub, Int.reduceToNat, ↓reduceIte, one_ne_zero_, zero_ne_one_, px_in32L, cd_293, cd_170, cd_204, cd_205, cd_206, cd_207, cd_187, cd_214, e17'.1]
      repeat' (first | (with_reducible apply And.intro) | (with_reducible refine px_br_intro (fun _ => ?_) (fun _ => ?_)))
      all_goals (try (first | (unfold px_in32; omega) | omega))
      all_goals (try exact h0 (by omega))
      all_goals have en' := en (by omega) (by omega)
      all_goals have ec : M 128 (1294 + 186 * s + 18 + 14 * i + 13) = Mc (Mc 21 s + 2) i := en'.1.2.2
      all_goals have hq := he (by omega) c3 z.1 z.2 (by omega)
      · rename_i c4 c5 c6 c7
        have e1 := fp_len en'.1.1.2.1
        rw [en'.1.2.1] at e1
        rw [if_pos c7, e1] at hq
        exact hq
      · rename_i c4 c5 c6 c7 c8
        have e57 := (tieC_p hT.1 en'.2.2.2.1 en'.2.2.2.2.1 en'.2.2.2.2.2).1
        have e57 : M 128 (654 + 6 * Mc (Mc 21 s + 2) i + 1) = Mc 57 (Mc (Mc 21 s + 2) i) := e57
        rw [if_neg c7, if_pos c8] at hq
        rw [ec, e57]
        exact hq
      · rename_i c4 c5 c6 c7 c8
        rw [if_neg c7, if_neg c8] at hq
        rw [ec]
        exact hq
end PS
