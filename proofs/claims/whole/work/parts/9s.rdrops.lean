set_option maxRecDepth 100000 in
/-- X12_drops -/
theorem cd_266 : px_at 266 0 = some (1, [], .iload_n 1, []) ∧ px_at 266 1 = some (2, [], .iconst 0, []) ∧ px_at 266 2 = some (5, [], .sipush 400, []) ∧ px_at 266 5 = some (8, [], .invokestatic 92, [170, 3, 11, 223]) ∧ px_at 266 8 = some (11, [], .ifCond .eq 12, [20]) ∧ px_at 266 11 = some (12, [], .iload_n 2, []) ∧ px_at 266 12 = some (13, [], .iconst 0, []) ∧ px_at 266 13 = some (14, [], .iconst 2, []) ∧ px_at 266 14 = some (17, [], .invokestatic 92, [170, 3, 11, 223]) ∧ px_at 266 17 = some (20, [], .ifCond .ne 5, [22]) ∧ px_at 266 20 = some (21, [], .iconst (-1), []) ∧ px_at 266 21 = some (22, [], .ireturn, [0]) ∧ px_at 266 22 = some (23, [], .aload_n 0, []) ∧ px_at 266 23 = some (26, [], .invokevirtual 347, [265, 0, 11, 310]) ∧ px_at 266 26 = some (27, [], .istore_n 3, []) ∧ px_at 266 27 = some (28, [], .iconst (-1), []) ∧ px_at 266 28 = some (30, [], .istore 4, []) ∧ px_at 266 30 = some (31, [], .iconst 0, []) ∧ px_at 266 31 = some (33, [], .istore 5, []) ∧ px_at 266 33 = some (35, [1, 1, 1, 1, 1, 1], .iload 5, []) ∧ px_at 266 35 = some (36, [], .iconst 1, []) ∧ px_at 266 36 = some (37, [], .aload_n 0, []) ∧ px_at 266 37 = some (40, [], .getfield 7, [11, 0, 2, 1, 125]) ∧ px_at 266 40 = some (41, [], .iconst 5, []) ∧ px_at 266 41 = some (42, [], .iaload, []) ∧ px_at 266 42 = some (43, [], .ishl, []) ∧ px_at 266 43 = some (46, [], .if_icmp .ge 52, [95]) ∧ px_at 266 46 = some (48, [], .iload 5, []) ∧ px_at 266 48 = some (49, [], .iload_n 3, []) ∧ px_at 266 49 = some (50, [], .iand, []) ∧ px_at 266 50 = some (53, [], .ifCond .ne 39, [89]) ∧ px_at 266 53 = some (55, [], .iload 4, []) ∧ px_at 266 55 = some (56, [], .iconst (-1), []) ∧ px_at 266 56 = some (59, [], .if_icmp .eq 16, [72]) ∧ px_at 266 59 = some (61, [], .iload 5, []) ∧ px_at 266 61 = some (64, [], .invokestatic 350, [174, 1, 11, 311]) ∧ px_at 266 64 = some (66, [], .iload 4, []) ∧ px_at 266 66 = some (69, [], .invokestatic 350, [174, 1, 11, 311]) ∧ px_at 266 69 = some (72, [], .if_icmp .ge 20, [89]) ∧ px_at 266 72 = some (73, [], .aload_n 0, []) ∧ px_at 266 73 = some (75, [], .iload 5, []) ∧ px_at 266 75 = some (78, [], .invokevirtual 353, [264, 1, 11, 312]) ∧ px_at 266 78 = some (79, [], .iload_n 1, []) ∧ px_at 266 79 = some (82, [], .if_icmp .ge 6, [85]) ∧ px_at 266 82 = some (85, [], .goto 7, [89]) ∧ px_at 266 85 = some (87, [], .iload 5, []) ∧ px_at 266 87 = some (89, [], .istore 4, []) ∧ px_at 266 89 = some (92, [], .iinc 5 1, []) ∧ px_at 266 92 = some (95, [], .goto (-59), [33]) ∧ px_at 266 95 = some (97, [], .iload 4, []) ∧ px_at 266 97 = some (98, [], .iconst (-1), []) ∧ px_at 266 98 = some (101, [], .if_icmp .ne 6, [104]) ∧ px_at 266 101 = some (103, [], .bipush (-2), []) ∧ px_at 266 103 = some (104, [], .ireturn, [0]) ∧ px_at 266 104 = some (105, [], .iload_n 2, []) ∧ px_at 266 105 = some (108, [], .ifCond .ne 11, [116]) ∧ px_at 266 108 = some (110, [], .iload 4, []) ∧ px_at 266 110 = some (113, [], .invokestatic 350, [174, 1, 11, 311]) ∧ px_at 266 113 = some (116, [], .goto 19, [132]) ∧ px_at 266 116 = some (117, [], .iload_n 2, []) ∧ px_at 266 117 = some (118, [], .iconst 1, []) ∧ px_at 266 118 = some (121, [], .if_icmp .ne 8, [126]) ∧ px_at 266 121 = some (123, [], .iload 4, []) ∧ px_at 266 123 = some (126, [], .goto 9, [132]) ∧ px_at 266 126 = some (127, [], .aload_n 0, []) ∧ px_at 266 127 = some (129, [], .iload 4, []) ∧ px_at 266 129 = some (132, [], .invokevirtual 353, [264, 1, 11, 312]) ∧ px_at 266 132 = some (133, [], .ireturn, [0]) := ⟨rfl, rfl, rfl, rfl, rfl, rfl, rfl, rfl, rfl, rfl, rfl, rfl, rfl, rfl, rfl, rfl, rfl, rfl, rfl, rfl, rfl, rfl, rfl, rfl, rfl, rfl, rfl, rfl, rfl, rfl, rfl, rfl, rfl, rfl, rfl, rfl, rfl, rfl, rfl, rfl, rfl, rfl, rfl, rfl, rfl, rfl, rfl, rfl, rfl, rfl, rfl, rfl, rfl, rfl, rfl, rfl, rfl, rfl, rfl, rfl, rfl, rfl, rfl, rfl, rfl, rfl, rfl, rfl⟩
/-! the reference: the least drops -/
section PS
variable {M : px_mem} {Q : Option pv → px_mem → Prop}
set_option maxHeartbeats 600000 in
set_option maxRecDepth 100000 in
theorem lp_rdrops {M0 Mc : px_mem} {many w sea : Int} {pl : Int → Int → List Int} {nm : Int → List Int} (hT : TE Mc pl nm (M0 128)) (hm : 0 ≤ many ∧ many ≤ 400) (hw2 : 0 ≤ w ∧ w ≤ 2) (hsea : 0 ≤ sea ∧ sea < 2 ^ 10) (h : ∀ M' b f, frb M' M0 → drR (fun s => px_iand s sea = 0 ∧ many ≤ bolC Mc s) (px_ishl 1 (Mc 20 1)).toNat = (b, f) → Q (some (0, if b < 0 then -2 else if w = 2 then bolC Mc b else if w = 0 then f else b)) M') (k : Int) (hk_k : k ≤ px_ishl 1 (Mc 20 1)) : ∀ M, 0 ≤ k → frb M M0 → px_WP 266 0 0 (px_Q0 LAY Q) 33 [(2, 127), (0, many), (0, w), (0, sea), (0, if (drR (fun s => px_iand s sea = 0 ∧ many ≤ bolC Mc s) k.toNat).1 < 0 then -1 else (drR (fun s => px_iand s sea = 0 ∧ many ≤ bolC Mc s) k.toNat).1), (0, k)] [] LAY M 0 0 := by
  refine up_ind (P := fun k => ∀ M, 0 ≤ k → frb M M0 → px_WP 266 0 0 (px_Q0 LAY Q) 33 [(2, 127), (0, many), (0, w), (0, sea), (0, if (drR (fun s => px_iand s sea = 0 ∧ many ≤ bolC Mc s) k.toNat).1 < 0 then -1 else (drR (fun s => px_iand s sea = 0 ∧ many ≤ bolC Mc s) k.toNat).1), (0, k)] [] LAY M 0 0) (px_ishl 1 (Mc 20 1)) (fun k hk_k ih => ?_) k hk_k
  intro M k0 hf
  have hTn := TE_n hT
  have e10 : (2 : Int) ^ 10 = 1024 := rfl
  have h5 : M 128 5 = Mc 20 1 := by rw [frb_128 hf]; exact hTn.1
  have hTM : TE Mc pl nm (M 128) := by rw [frb_128 hf]; exact hT
  have hsz : 1 ≤ px_ishl 1 (Mc 20 1) ∧ px_ishl 1 (Mc 20 1) ≤ 1024 := by
    rw [ishl_eq (by omega) (by omega)]
    have := p2_pos (Mc 20 1).toNat
    have := p2_le (j := (Mc 20 1).toNat) (k := 10) (by omega)
    omega
  have hr := drR_rng (c := fun s => px_iand s sea = 0 ∧ many ≤ bolC Mc s) k.toNat
  have hst := fun a b => drR_t (c := fun s => px_iand s sea = 0 ∧ many ≤ bolC Mc s) k0 a b
  have hsf := fun a => drR_f (c := fun s => px_iand s sea = 0 ∧ many ≤ bolC Mc s) k0 a
  have hhd : drR (fun s => px_iand s sea = 0 ∧ many ≤ bolC Mc s) k.toNat = drR (fun s => px_iand s sea = 0 ∧ many ≤ bolC Mc s) k.toNat := rfl
  have hend : k = px_ishl 1 (Mc 20 1) → ∀ M', frb M' M0 → Q (some (0, if (drR (fun s => px_iand s sea = 0 ∧ many ≤ bolC Mc s) k.toNat).1 < 0 then -2 else if w = 2 then bolC Mc (drR (fun s => px_iand s sea = 0 ∧ many ≤ bolC Mc s) k.toNat).1 else if w = 0 then (drR (fun s => px_iand s sea = 0 ∧ many ≤ bolC Mc s) k.toNat).2 else (drR (fun s => px_iand s sea = 0 ∧ many ≤ bolC Mc s) k.toNat).1)) M' := fun e M' a => by
    have := h M' (drR (fun s => px_iand s sea = 0 ∧ many ≤ bolC Mc s) k.toNat).1 (drR (fun s => px_iand s sea = 0 ∧ many ≤ bolC Mc s) k.toNat).2 a (by rw [e])
    exact this
  have hno : ¬ ((px_iand k sea = 0 ∧ many ≤ bolC Mc k) ∧ pcI k < (drR (fun s => px_iand s sea = 0 ∧ many ≤ bolC Mc s) k.toNat).2) → ∀ M', k < px_ishl 1 (Mc 20 1) → frb M' M0 → px_WP 266 0 0 (px_Q0 LAY Q) 33 [(2, 127), (0, many), (0, w), (0, sea), (0, if (drR (fun s => px_iand s sea = 0 ∧ many ≤ bolC Mc s) k.toNat).1 < 0 then -1 else (drR (fun s => px_iand s sea = 0 ∧ many ≤ bolC Mc s) k.toNat).1), (0, k + 1)] [] LAY M' 0 0 := fun q M' q2 a => by
    have := ih q2 M' (by omega) a
    rw [hsf q] at this; exact this
  have hyes : (px_iand k sea = 0 ∧ many ≤ bolC Mc k) → pcI k < (drR (fun s => px_iand s sea = 0 ∧ many ≤ bolC Mc s) k.toNat).2 → ∀ M', k < px_ishl 1 (Mc 20 1) → frb M' M0 → px_WP 266 0 0 (px_Q0 LAY Q) 33 [(2, 127), (0, many), (0, w), (0, sea), (0, k), (0, k + 1)] [] LAY M' 0 0 := fun q q1 M' q2 a => by
    have := ih q2 M' (by omega) a
    rw [hst q q1] at this
    rw [if_neg (show ¬ k < 0 by omega)] at this; exact this
  have hpk := pcI_rng k
  generalize drR (fun s => px_iand s sea = 0 ∧ many ≤ bolC Mc s) k.toNat = d at *
  have hg : ∃ g, (if d.1 < 0 then -1 else d.1) = g ∧ ((g = -1 ∧ d.1 < 0 ∧ d.2 = 11) ∨ (g = d.1 ∧ 0 ≤ g ∧ g < k ∧ d.2 = pcI g)) := by
    by_cases q : d.1 < 0
    · exact ⟨_, rfl, Or.inl (by rw [if_pos q]; omega)⟩
    · refine ⟨_, rfl, Or.inr ?_⟩
      rw [if_neg q]
      refine ⟨rfl, by omega, by omega, ?_⟩
      rcases hr with z | z
      · omega
      · exact z.2.2.1
  obtain ⟨g, eg, hgg⟩ := hg
  rw [eg] at hno ⊢
  clear hsf hst ih
  refine px_go_ok (inl := []) 60 ?_
  simp only [px_go, px_Q0_at, px_sx_0, px_sx_s, px_cl, px_step, ↓px_ll, px_lg, f4_, ↓px_r1, ↓px_r2, ↓px_r4, ↓px_r5, ↓px_p1, ↓px_p2, ↓px_p3, ↓px_pop, px_k_0, px_k_s, px_k3_0, px_stk_, px_cats, px_ent, px_st1, px_st2, px_mask, ↓px_tsw, ↓px_lsw, ct_, mls_0, mls_1, mls_2, mls_3, mls_4, mls_5, kd_0, kd_1, kd_2, kd_3, ln_0, ln_1, ln_2, ln_3, gf_0, gf_1, gf_2, gf_3, gf_4, gf_7, gf_21, gf_63, dy_0, dy_1, dy_2, dy_3, dy_7, dy_21, px_brT, px_brF, true_and, and_true, and_false, false_and, and_self, true_implies, false_implies, or_true, true_or, or_false, false_or, eq_self, ne_eq, not_false_eq_true, not_true_eq_false, if_true, if_false, List.mem_cons, List.not_mem_nil, List.length_cons, List.length_nil, Nat.reduceEqDiff, Nat.reduceAdd, Nat.reduceSub, Nat.reduceLeDiff, Nat.reduceLT, Int.reduceEq, Int.reduceLT, Int.reduceLE, Int.reduceNeg, Int.reduceAdd, Int.reduceSub, Int.reduceToNat, ↓reduceIte, one_ne_zero_, zero_ne_one_, px_in32L, cd_266, h5]
  repeat' (first | (with_reducible apply And.intro) | (with_reducible refine px_br_intro (fun _ => ?_) (fun _ => ?_)))
  all_goals (try (first | (unfold px_in32; omega) | omega))
  · rename_i c1 c2
    have := hend (by omega) M hf
    rw [if_pos (by omega)] at this; exact this
  · rename_i c1 c2 c3
    have := hend (by omega) M hf
    rw [if_neg (by omega), if_neg (by omega), if_pos c3] at this
    refine sp_sizeOf (by omega) ?_
    simp only [px_go, px_Q0_at, px_sx_0, px_sx_s, px_cl, px_step, ↓px_ll, px_lg, f4_, ↓px_r1, ↓px_r2, ↓px_r4, ↓px_r5, ↓px_p1, ↓px_p2, ↓px_p3, ↓px_pop, px_k_0, px_k_s, px_k3_0, px_stk_, px_cats, px_ent, px_st1, px_st2, px_mask, ↓px_tsw, ↓px_lsw, ct_, mls_0, mls_1, mls_2, mls_3, mls_4, mls_5, kd_0, kd_1, kd_2, kd_3, ln_0, ln_1, ln_2, ln_3, gf_0, gf_1, gf_2, gf_3, gf_4, gf_7, gf_21, gf_63, dy_0, dy_1, dy_2, dy_3, dy_7, dy_21, px_brT, px_brF, true_and, and_true, and_false, false_and, and_self, true_implies, false_implies, or_true, true_or, or_false, false_or, eq_self, ne_eq, not_false_eq_true, not_true_eq_false, if_true, if_false, List.mem_cons, List.not_mem_nil, List.length_cons, List.length_nil, Nat.reduceEqDiff, Nat.reduceAdd, Nat.reduceSub, Nat.reduceLeDiff, Nat.reduceLT, Int.reduceEq, Int.reduceLT, Int.reduceLE, Int.reduceNeg, Int.reduceAdd, Int.reduceSub, Int.reduceToNat, ↓reduceIte, one_ne_zero_, zero_ne_one_, px_in32L, cd_266]
    rw [show pcI g = d.2 by omega]; exact this
  · rename_i c1 c2 c3 c4
    have := hend (by omega) M hf
    rw [if_neg (by omega), if_neg (by omega), if_neg c3] at this
    rw [show g = d.1 by omega]; exact this
  · rename_i c1 c2 c3 c4
    refine sp_lessBy hTM (by omega) (fun M1 a1 => ?_)
    simp only [px_go, px_Q0_at, px_sx_0, px_sx_s, px_cl, px_step, ↓px_ll, px_lg, f4_, ↓px_r1, ↓px_r2, ↓px_r4, ↓px_r5, ↓px_p1, ↓px_p2, ↓px_p3, ↓px_pop, px_k_0, px_k_s, px_k3_0, px_stk_, px_cats, px_ent, px_st1, px_st2, px_mask, ↓px_tsw, ↓px_lsw, ct_, mls_0, mls_1, mls_2, mls_3, mls_4, mls_5, kd_0, kd_1, kd_2, kd_3, ln_0, ln_1, ln_2, ln_3, gf_0, gf_1, gf_2, gf_3, gf_4, gf_7, gf_21, gf_63, dy_0, dy_1, dy_2, dy_3, dy_7, dy_21, px_brT, px_brF, true_and, and_true, and_false, false_and, and_self, true_implies, false_implies, or_true, true_or, or_false, false_or, eq_self, ne_eq, not_false_eq_true, not_true_eq_false, if_true, if_false, List.mem_cons, List.not_mem_nil, List.length_cons, List.length_nil, Nat.reduceEqDiff, Nat.reduceAdd, Nat.reduceSub, Nat.reduceLeDiff, Nat.reduceLT, Int.reduceEq, Int.reduceLT, Int.reduceLE, Int.reduceNeg, Int.reduceAdd, Int.reduceSub, Int.reduceToNat, ↓reduceIte, one_ne_zero_, zero_ne_one_, px_in32L, cd_266]
    have := hend (by omega) M1 (frb_trans a1 hf)
    rw [if_neg (by omega), if_pos (by omega)] at this
    rw [show g = d.1 by omega]; exact this
  · rename_i c1 c2 c3
    refine sp_lessBy hTM (by omega) (fun M1 a1 => ?_)
    have a2 := frb_trans a1 hf
    simp only [px_go, px_Q0_at, px_sx_0, px_sx_s, px_cl, px_step, ↓px_ll, px_lg, f4_, ↓px_r1, ↓px_r2, ↓px_r4, ↓px_r5, ↓px_p1, ↓px_p2, ↓px_p3, ↓px_pop, px_k_0, px_k_s, px_k3_0, px_stk_, px_cats, px_ent, px_st1, px_st2, px_mask, ↓px_tsw, ↓px_lsw, ct_, mls_0, mls_1, mls_2, mls_3, mls_4, mls_5, kd_0, kd_1, kd_2, kd_3, ln_0, ln_1, ln_2, ln_3, gf_0, gf_1, gf_2, gf_3, gf_4, gf_7, gf_21, gf_63, dy_0, dy_1, dy_2, dy_3, dy_7, dy_21, px_brT, px_brF, true_and, and_true, and_false, false_and, and_self, true_implies, false_implies, or_true, true_or, or_false, false_or, eq_self, ne_eq, not_false_eq_true, not_true_eq_false, if_true, if_false, List.mem_cons, List.not_mem_nil, List.length_cons, List.length_nil, Nat.reduceEqDiff, Nat.reduceAdd, Nat.reduceSub, Nat.reduceLeDiff, Nat.reduceLT, Int.reduceEq, Int.reduceLT, Int.reduceLE, Int.reduceNeg, Int.reduceAdd, Int.reduceSub, Int.reduceToNat, ↓reduceIte, one_ne_zero_, zero_ne_one_, px_in32L, cd_266]
    repeat' (first | (with_reducible apply And.intro) | (with_reducible refine px_br_intro (fun _ => ?_) (fun _ => ?_)))
    all_goals (try (first | (unfold px_in32; omega) | omega))
    · rename_i c4
      exact hyes ⟨c2, c4⟩ (by omega) M1 (by omega) a2
    · rename_i c4
      exact hno (fun z => by have := z.1.2; omega) M1 (by omega) a2
  · rename_i c1 c2 c3
    refine sp_sizeOf (by omega) ?_
    simp only [px_go, px_Q0_at, px_sx_0, px_sx_s, px_cl, px_step, ↓px_ll, px_lg, f4_, ↓px_r1, ↓px_r2, ↓px_r4, ↓px_r5, ↓px_p1, ↓px_p2, ↓px_p3, ↓px_pop, px_k_0, px_k_s, px_k3_0, px_stk_, px_cats, px_ent, px_st1, px_st2, px_mask, ↓px_tsw, ↓px_lsw, ct_, mls_0, mls_1, mls_2, mls_3, mls_4, mls_5, kd_0, kd_1, kd_2, kd_3, ln_0, ln_1, ln_2, ln_3, gf_0, gf_1, gf_2, gf_3, gf_4, gf_7, gf_21, gf_63, dy_0, dy_1, dy_2, dy_3, dy_7, dy_21, px_brT, px_brF, true_and, and_true, and_false, false_and, and_self, true_implies, false_implies, or_true, true_or, or_false, false_or, eq_self, ne_eq, not_false_eq_true, not_true_eq_false, if_true, if_false, List.mem_cons, List.not_mem_nil, List.length_cons, List.length_nil, Nat.reduceEqDiff, Nat.reduceAdd, Nat.reduceSub, Nat.reduceLeDiff, Nat.reduceLT, Int.reduceEq, Int.reduceLT, Int.reduceLE, Int.reduceNeg, Int.reduceAdd, Int.reduceSub, Int.reduceToNat, ↓reduceIte, one_ne_zero_, zero_ne_one_, px_in32L, cd_266]
    refine sp_sizeOf (by omega) ?_
    simp only [px_go, px_Q0_at, px_sx_0, px_sx_s, px_cl, px_step, ↓px_ll, px_lg, f4_, ↓px_r1, ↓px_r2, ↓px_r4, ↓px_r5, ↓px_p1, ↓px_p2, ↓px_p3, ↓px_pop, px_k_0, px_k_s, px_k3_0, px_stk_, px_cats, px_ent, px_st1, px_st2, px_mask, ↓px_tsw, ↓px_lsw, ct_, mls_0, mls_1, mls_2, mls_3, mls_4, mls_5, kd_0, kd_1, kd_2, kd_3, ln_0, ln_1, ln_2, ln_3, gf_0, gf_1, gf_2, gf_3, gf_4, gf_7, gf_21, gf_63, dy_0, dy_1, dy_2, dy_3, dy_7, dy_21, px_brT, px_brF, true_and, and_true, and_false, false_and, and_self, true_implies, false_implies, or_true, true_or, or_false, false_or, eq_self, ne_eq, not_false_eq_true, not_true_eq_false, if_true, if_false, List.mem_cons, List.not_mem_nil, List.length_cons, List.length_nil, Nat.reduceEqDiff, Nat.reduceAdd, Nat.reduceSub, Nat.reduceLeDiff, Nat.reduceLT, Int.reduceEq, Int.reduceLT, Int.reduceLE, Int.reduceNeg, Int.reduceAdd, Int.reduceSub, Int.reduceToNat, ↓reduceIte, one_ne_zero_, zero_ne_one_, px_in32L, cd_266]
    repeat' (first | (with_reducible apply And.intro) | (with_reducible refine px_br_intro (fun _ => ?_) (fun _ => ?_)))
    all_goals (try (first | (unfold px_in32; omega) | omega))
    · exact hno (fun z => by have := z.2; omega) M (by omega) hf
    · refine sp_lessBy hTM (by omega) (fun M1 a1 => ?_)
      have a2 := frb_trans a1 hf
      simp only [px_go, px_Q0_at, px_sx_0, px_sx_s, px_cl, px_step, ↓px_ll, px_lg, f4_, ↓px_r1, ↓px_r2, ↓px_r4, ↓px_r5, ↓px_p1, ↓px_p2, ↓px_p3, ↓px_pop, px_k_0, px_k_s, px_k3_0, px_stk_, px_cats, px_ent, px_st1, px_st2, px_mask, ↓px_tsw, ↓px_lsw, ct_, mls_0, mls_1, mls_2, mls_3, mls_4, mls_5, kd_0, kd_1, kd_2, kd_3, ln_0, ln_1, ln_2, ln_3, gf_0, gf_1, gf_2, gf_3, gf_4, gf_7, gf_21, gf_63, dy_0, dy_1, dy_2, dy_3, dy_7, dy_21, px_brT, px_brF, true_and, and_true, and_false, false_and, and_self, true_implies, false_implies, or_true, true_or, or_false, false_or, eq_self, ne_eq, not_false_eq_true, not_true_eq_false, if_true, if_false, List.mem_cons, List.not_mem_nil, List.length_cons, List.length_nil, Nat.reduceEqDiff, Nat.reduceAdd, Nat.reduceSub, Nat.reduceLeDiff, Nat.reduceLT, Int.reduceEq, Int.reduceLT, Int.reduceLE, Int.reduceNeg, Int.reduceAdd, Int.reduceSub, Int.reduceToNat, ↓reduceIte, one_ne_zero_, zero_ne_one_, px_in32L, cd_266]
      repeat' (first | (with_reducible apply And.intro) | (with_reducible refine px_br_intro (fun _ => ?_) (fun _ => ?_)))
      all_goals (try (first | (unfold px_in32; omega) | omega))
      · rename_i c4
        exact hyes ⟨c2, c4⟩ (by omega) M1 (by omega) a2
      · rename_i c4
        exact hno (fun z => by have := z.1.2; omega) M1 (by omega) a2
  · rename_i c1 c2
    exact hno (fun z => c2 z.1.1) M (by omega) hf
set_option maxHeartbeats 600000 in
set_option maxRecDepth 100000 in
theorem sp_rdrops {Mc : px_mem} {many w : Int} {pl : Int → Int → List Int} {nm : Int → List Int} (hT : TE Mc pl nm (M 128)) (h0 : ¬ (0 ≤ many ∧ many ≤ 400 ∧ 0 ≤ w ∧ w ≤ 2) → Q (some (0, -1)) M) (h : ∀ M' sea b f, (0 ≤ many ∧ many ≤ 400 ∧ 0 ≤ w ∧ w ≤ 2) → frb M' M → seaC Mc sea → drR (fun s => px_iand s sea = 0 ∧ many ≤ bolC Mc s) (px_ishl 1 (Mc 20 1)).toNat = (b, f) → Q (some (0, if b < 0 then -2 else if w = 2 then bolC Mc b else if w = 0 then f else b)) M') : px_Ok 266 [(2, 127), (0, many), (0, w)] LAY M Q := by
  have hTn := TE_n hT
  refine px_ok_go (inl := [170]) (ls0 := [(2, 127), (0, many), (0, w), (9, 0), (9, 0), (9, 0)]) 60 (by decide) (Nat.le_of_ble_eq_true rfl) rfl ?_
  simp only [px_go, px_Q0_at, px_sx_0, px_sx_s, px_cl, px_step, ↓px_ll, px_lg, f4_, ↓px_r1, ↓px_r2, ↓px_r4, ↓px_r5, ↓px_p1, ↓px_p2, ↓px_p3, ↓px_pop, px_k_0, px_k_s, px_k3_0, px_stk_, px_cats, px_ent, px_st1, px_st2, px_mask, ↓px_tsw, ↓px_lsw, ct_, mls_0, mls_1, mls_2, mls_3, mls_4, mls_5, kd_0, kd_1, kd_2, kd_3, ln_0, ln_1, ln_2, ln_3, gf_0, gf_1, gf_2, gf_3, gf_4, gf_7, gf_21, gf_63, dy_0, dy_1, dy_2, dy_3, dy_7, dy_21, px_brT, px_brF, true_and, and_true, and_false, false_and, and_self, true_implies, false_implies, or_true, true_or, or_false, false_or, eq_self, ne_eq, not_false_eq_true, not_true_eq_false, if_true, if_false, List.mem_cons, List.not_mem_nil, List.length_cons, List.length_nil, Nat.reduceEqDiff, Nat.reduceAdd, Nat.reduceSub, Nat.reduceLeDiff, Nat.reduceLT, Int.reduceEq, Int.reduceLT, Int.reduceLE, Int.reduceNeg, Int.reduceAdd, Int.reduceSub, Int.reduceToNat, ↓reduceIte, one_ne_zero_, zero_ne_one_, px_in32L, cd_266, cd_170]
  repeat' (first | (with_reducible apply And.intro) | (with_reducible refine px_br_intro (fun _ => ?_) (fun _ => ?_)))
  all_goals (try (first | (unfold px_in32; omega) | omega))
  all_goals (try exact h0 (by omega))
  refine sp_rsealed hT (fun sea hsea => ?_)
  simp only [px_go, px_Q0_at, px_sx_0, px_sx_s, px_cl, px_step, ↓px_ll, px_lg, f4_, ↓px_r1, ↓px_r2, ↓px_r4, ↓px_r5, ↓px_p1, ↓px_p2, ↓px_p3, ↓px_pop, px_k_0, px_k_s, px_k3_0, px_stk_, px_cats, px_ent, px_st1, px_st2, px_mask, ↓px_tsw, ↓px_lsw, ct_, mls_0, mls_1, mls_2, mls_3, mls_4, mls_5, kd_0, kd_1, kd_2, kd_3, ln_0, ln_1, ln_2, ln_3, gf_0, gf_1, gf_2, gf_3, gf_4, gf_7, gf_21, gf_63, dy_0, dy_1, dy_2, dy_3, dy_7, dy_21, px_brT, px_brF, true_and, and_true, and_false, false_and, and_self, true_implies, false_implies, or_true, true_or, or_false, false_or, eq_self, ne_eq, not_false_eq_true, not_true_eq_false, if_true, if_false, List.mem_cons, List.not_mem_nil, List.length_cons, List.length_nil, Nat.reduceEqDiff, Nat.reduceAdd, Nat.reduceSub, Nat.reduceLeDiff, Nat.reduceLT, Int.reduceEq, Int.reduceLT, Int.reduceLE, Int.reduceNeg, Int.reduceAdd, Int.reduceSub, Int.reduceToNat, ↓reduceIte, one_ne_zero_, zero_ne_one_, px_in32L, cd_266, cd_170]
  repeat' (first | (with_reducible apply And.intro) | (with_reducible refine px_br_intro (fun _ => ?_) (fun _ => ?_)))
  all_goals (try (first | (unfold px_in32; omega) | omega))
  refine lp_rdrops hT (by omega) (by omega) hsea.1 (fun M' b f a1 a2 => h M' sea b f (by omega) a1 hsea a2) 0 ?_ M (Int.le_refl 0) (frb_refl M)
  rw [ishl_eq (by omega) (by omega)]
  have := p2_pos (Mc 20 1).toNat
  omega
end PS
