set_option maxRecDepth 100000 in
/-- X12_like -/
theorem cd_275 : px_at 275 0 = some (1, [], .aload_n 0, []) ∧ px_at 275 1 = some (2, [], .iload_n 1, []) ∧ px_at 275 2 = some (5, [], .invokevirtual 267, [208, 1, 11, 250]) ∧ px_at 275 5 = some (7, [], .istore 4, []) ∧ px_at 275 7 = some (9, [], .iload 4, []) ∧ px_at 275 9 = some (10, [], .iconst (-1), []) ∧ px_at 275 10 = some (13, [], .if_icmp .eq 17, [27]) ∧ px_at 275 13 = some (14, [], .aload_n 0, []) ∧ px_at 275 14 = some (15, [], .iload_n 2, []) ∧ px_at 275 15 = some (16, [], .iconst 0, []) ∧ px_at 275 16 = some (19, [], .invokevirtual 207, [222, 2, 11, 222]) ∧ px_at 275 19 = some (22, [], .ifCond .eq 8, [27]) ∧ px_at 275 22 = some (23, [], .iload_n 3, []) ∧ px_at 275 23 = some (24, [], .iconst (-1), []) ∧ px_at 275 24 = some (27, [], .if_icmp .ge 5, [29]) ∧ px_at 275 27 = some (28, [], .iconst (-1), []) ∧ px_at 275 28 = some (29, [], .ireturn, [0]) ∧ px_at 275 29 = some (30, [], .aload_n 0, []) ∧ px_at 275 30 = some (31, [], .iconst 0, []) ∧ px_at 275 31 = some (32, [], .iload_n 2, []) ∧ px_at 275 32 = some (33, [], .aload_n 0, []) ∧ px_at 275 33 = some (36, [], .getfield 20, [11, 4, 2, 1, 129]) ∧ px_at 275 36 = some (39, [], .invokevirtual 210, [179, 3, 11, 224]) ∧ px_at 275 39 = some (40, [], .iconst 1, []) ∧ px_at 275 40 = some (42, [], .istore 5, []) ∧ px_at 275 42 = some (44, [1, 0, 1, 1, 1, 1, 0], .iload 5, []) ∧ px_at 275 44 = some (45, [], .iload_n 2, []) ∧ px_at 275 45 = some (48, [], .if_icmp .gt 61, [106]) ∧ px_at 275 48 = some (49, [], .aload_n 0, []) ∧ px_at 275 49 = some (52, [], .getfield 20, [11, 4, 2, 1, 129]) ∧ px_at 275 52 = some (54, [], .iload 5, []) ∧ px_at 275 54 = some (55, [], .iaload, []) ∧ px_at 275 55 = some (58, [], .invokestatic 96, [180, 1, 11, 227]) ∧ px_at 275 58 = some (61, [], .ifCond .ne 42, [100]) ∧ px_at 275 61 = some (62, [], .aload_n 0, []) ∧ px_at 275 62 = some (65, [], .getfield 20, [11, 4, 2, 1, 129]) ∧ px_at 275 65 = some (67, [], .iload 5, []) ∧ px_at 275 67 = some (68, [], .iaload, []) ∧ px_at 275 68 = some (70, [], .bipush 47, []) ∧ px_at 275 70 = some (73, [], .if_icmp .eq 30, [100]) ∧ px_at 275 73 = some (74, [], .aload_n 0, []) ∧ px_at 275 74 = some (77, [], .getfield 20, [11, 4, 2, 1, 129]) ∧ px_at 275 77 = some (79, [], .iload 5, []) ∧ px_at 275 79 = some (80, [], .iaload, []) ∧ px_at 275 80 = some (82, [], .bipush 63, []) ∧ px_at 275 82 = some (85, [], .if_icmp .eq 18, [100]) ∧ px_at 275 85 = some (86, [], .aload_n 0, []) ∧ px_at 275 86 = some (89, [], .getfield 20, [11, 4, 2, 1, 129]) ∧ px_at 275 89 = some (91, [], .iload 5, []) ∧ px_at 275 91 = some (92, [], .iaload, []) ∧ px_at 275 92 = some (94, [], .bipush 42, []) ∧ px_at 275 94 = some (97, [], .if_icmp .eq 6, [100]) ∧ px_at 275 97 = some (99, [], .bipush (-2), []) ∧ px_at 275 99 = some (100, [], .ireturn, [0]) ∧ px_at 275 100 = some (103, [], .iinc 5 1, []) ∧ px_at 275 103 = some (106, [], .goto (-61), [42]) ∧ px_at 275 106 = some (107, [], .iconst 0, []) ∧ px_at 275 107 = some (109, [], .istore 5, []) ∧ px_at 275 109 = some (110, [], .iconst 0, []) ∧ px_at 275 110 = some (112, [], .istore 6, []) ∧ px_at 275 112 = some (114, [1, 0, 0, 1, 1, 1, 1], .iload 6, []) ∧ px_at 275 114 = some (115, [], .aload_n 0, []) ∧ px_at 275 115 = some (117, [], .iload 4, []) ∧ px_at 275 117 = some (120, [], .invokevirtual 180, [206, 1, 11, 253]) ∧ px_at 275 120 = some (123, [], .if_icmp .ge 42, [162]) ∧ px_at 275 123 = some (124, [], .aload_n 0, []) ∧ px_at 275 124 = some (125, [], .aload_n 0, []) ∧ px_at 275 125 = some (127, [], .iload 4, []) ∧ px_at 275 127 = some (129, [], .iload 6, []) ∧ px_at 275 129 = some (132, [], .invokevirtual 177, [205, 2, 11, 254]) ∧ px_at 275 132 = some (135, [], .invokevirtual 374, [274, 1, 11, 322]) ∧ px_at 275 135 = some (138, [], .ifCond .ne 6, [141]) ∧ px_at 275 138 = some (141, [], .goto 18, [156]) ∧ px_at 275 141 = some (143, [], .iload 5, []) ∧ px_at 275 143 = some (144, [], .iload_n 3, []) ∧ px_at 275 144 = some (147, [], .if_icmp .ne 6, [150]) ∧ px_at 275 147 = some (149, [], .iload 6, []) ∧ px_at 275 149 = some (150, [], .ireturn, [0]) ∧ px_at 275 150 = some (152, [], .iload 5, []) ∧ px_at 275 152 = some (153, [], .iconst 1, []) ∧ px_at 275 153 = some (154, [], .iadd, []) ∧ px_at 275 154 = some (156, [], .istore 5, []) ∧ px_at 275 156 = some (159, [], .iinc 6 1, []) ∧ px_at 275 159 = some (162, [], .goto (-47), [112]) ∧ px_at 275 162 = some (163, [], .iload_n 3, []) ∧ px_at 275 163 = some (164, [], .iconst (-1), []) ∧ px_at 275 164 = some (167, [], .if_icmp .ne 8, [172]) ∧ px_at 275 167 = some (169, [], .iload 5, []) ∧ px_at 275 169 = some (172, [], .goto 5, [174]) ∧ px_at 275 172 = some (174, [], .bipush (-3), []) ∧ px_at 275 174 = some (175, [], .ireturn, [0]) := ⟨rfl, rfl, rfl, rfl, rfl, rfl, rfl, rfl, rfl, rfl, rfl, rfl, rfl, rfl, rfl, rfl, rfl, rfl, rfl, rfl, rfl, rfl, rfl, rfl, rfl, rfl, rfl, rfl, rfl, rfl, rfl, rfl, rfl, rfl, rfl, rfl, rfl, rfl, rfl, rfl, rfl, rfl, rfl, rfl, rfl, rfl, rfl, rfl, rfl, rfl, rfl, rfl, rfl, rfl, rfl, rfl, rfl, rfl, rfl, rfl, rfl, rfl, rfl, rfl, rfl, rfl, rfl, rfl, rfl, rfl, rfl, rfl, rfl, rfl, rfl, rfl, rfl, rfl, rfl, rfl, rfl, rfl, rfl, rfl, rfl, rfl, rfl, rfl, rfl, rfl, rfl⟩
/-! the reference: like -/
def ftR (pl : Int → List Int) (P : List Int) (i : Int) : Prop := ftK (pl i) (nth P) P.length ((pl i).length : Int)
section PS
variable {M : px_mem} {Q : Option pv → px_mem → Prop}
set_option maxHeartbeats 600000 in
set_option maxRecDepth 100000 in
theorem lp_rlk42 {q k s : Int} {P : List Int} (hp : pth M 131 P) (hq : (P.length : Int) = q) (hx : (∀ b ∈ P, isS b) → px_WP 275 0 0 (px_Q0 LAY Q) 112 [(2, 127), (9, 0), (9, 0), (0, k), (0, s), (0, 0), (0, 0)] [] LAY M 0 0) (h2 : ¬ (∀ b ∈ P, isS b) → Q (some (0, -2)) M) (i : Int) (hk_i : i ≤ q+1) : 1 ≤ i → (∀ j, 1 ≤ j → j < i → isS (M 131 j)) → px_WP 275 0 0 (px_Q0 LAY Q) 42 [(2, 127), (9, 0), (0, q), (0, k), (0, s), (0, i), (9, 0)] [] LAY M 0 0 := by
  refine up_ind (P := fun i => 1 ≤ i → (∀ j, 1 ≤ j → j < i → isS (M 131 j)) → px_WP 275 0 0 (px_Q0 LAY Q) 42 [(2, 127), (9, 0), (0, q), (0, k), (0, s), (0, i), (9, 0)] [] LAY M 0 0) (q+1) (fun i hk_i ih => ?_) i hk_i
  intro i1 hj
  have hl0 := hp.1
  have hk := hp.2.2
  have hk2 := hk.2.2.1
  have hm : (∀ b ∈ P, isS b) ↔ ∀ j, 0 ≤ j → j < q → isS (M 131 (0 + 1 + j)) := by
    rw [← hq, ← hp.2.1]
    rw [fp_len hk.2.1]
    unfold fp
    constructor
    · intro z j j0 j1
      exact z _ (lst_mem.mpr ⟨j, j0, j1, rfl⟩)
    · intro z b hb
      obtain ⟨j, j0, j1, j2⟩ := lst_mem.mp hb
      rw [← j2]; exact z j j0 j1
  have hyes : i < q + 1 → isS (M 131 i) → px_WP 275 0 0 (px_Q0 LAY Q) 42 [(2, 127), (9, 0), (0, q), (0, k), (0, s), (0, i + 1), (9, 0)] [] LAY M 0 0 := fun z y => ih z (by omega) (fun j j0 j1 => by
    by_cases w : j = i
    · rw [w]; exact y
    · exact hj j j0 (by omega))
  refine px_go_ok (inl := []) 60 ?_
  simp only [px_go, px_Q0_at, px_sx_0, px_sx_s, px_cl, px_step, ↓px_ll, px_lg, f4_, ↓px_r1, ↓px_r2, ↓px_r4, ↓px_r5, ↓px_p1, ↓px_p2, ↓px_p3, ↓px_pop, px_k_0, px_k_s, px_k3_0, px_stk_, px_cats, px_ent, px_st1, px_st2, px_mask, ↓px_tsw, ↓px_lsw, ct_, mls_0, mls_1, mls_2, mls_3, mls_4, mls_5, kd_0, kd_1, kd_2, kd_3, ln_0, ln_1, ln_2, ln_3, gf_0, gf_1, gf_2, gf_3, gf_4, gf_7, gf_21, gf_63, dy_0, dy_1, dy_2, dy_3, dy_7, dy_21, px_brT, px_brF, true_and, and_true, and_false, false_and, and_self, true_implies, false_implies, or_true, true_or, or_false, false_or, eq_self, ne_eq, not_false_eq_true, not_true_eq_false, if_true, if_false, List.mem_cons, List.not_mem_nil, List.length_cons, List.length_nil, Nat.reduceEqDiff, Nat.reduceAdd, Nat.reduceSub, Nat.reduceLeDiff, Nat.reduceLT, Int.reduceEq, Int.reduceLT, Int.reduceLE, Int.reduceNeg, Int.reduceAdd, Int.reduceSub, Int.reduceToNat, ↓reduceIte, one_ne_zero_, zero_ne_one_, px_in32L, cd_275]
  repeat' (first | (with_reducible apply And.intro) | (with_reducible refine px_br_intro (fun _ => ?_) (fun _ => ?_)))
  all_goals (try (first | (unfold px_in32; omega) | omega))
  · rename_i c1
    refine hx (hm.mpr (fun j j0 j1 => ?_))
    exact hj (0 + 1 + j) (by omega) (by omega)
  · rename_i c1
    refine sp_isLetter (fun c4 => ?_) (fun c4 => ?_)
    · simp only [px_go, px_Q0_at, px_sx_0, px_sx_s, px_cl, px_step, ↓px_ll, px_lg, f4_, ↓px_r1, ↓px_r2, ↓px_r4, ↓px_r5, ↓px_p1, ↓px_p2, ↓px_p3, ↓px_pop, px_k_0, px_k_s, px_k3_0, px_stk_, px_cats, px_ent, px_st1, px_st2, px_mask, ↓px_tsw, ↓px_lsw, ct_, mls_0, mls_1, mls_2, mls_3, mls_4, mls_5, kd_0, kd_1, kd_2, kd_3, ln_0, ln_1, ln_2, ln_3, gf_0, gf_1, gf_2, gf_3, gf_4, gf_7, gf_21, gf_63, dy_0, dy_1, dy_2, dy_3, dy_7, dy_21, px_brT, px_brF, true_and, and_true, and_false, false_and, and_self, true_implies, false_implies, or_true, true_or, or_false, false_or, eq_self, ne_eq, not_false_eq_true, not_true_eq_false, if_true, if_false, List.mem_cons, List.not_mem_nil, List.length_cons, List.length_nil, Nat.reduceEqDiff, Nat.reduceAdd, Nat.reduceSub, Nat.reduceLeDiff, Nat.reduceLT, Int.reduceEq, Int.reduceLT, Int.reduceLE, Int.reduceNeg, Int.reduceAdd, Int.reduceSub, Int.reduceToNat, ↓reduceIte, one_ne_zero_, zero_ne_one_, px_in32L, cd_275]
      repeat' (first | (with_reducible apply And.intro) | (with_reducible refine px_br_intro (fun _ => ?_) (fun _ => ?_)))
      all_goals (try (first | (unfold px_in32; omega) | omega))
      exact hyes (by omega) (by unfold isS; have := sg_0 (M 131 i); omega)
    · simp only [px_go, px_Q0_at, px_sx_0, px_sx_s, px_cl, px_step, ↓px_ll, px_lg, f4_, ↓px_r1, ↓px_r2, ↓px_r4, ↓px_r5, ↓px_p1, ↓px_p2, ↓px_p3, ↓px_pop, px_k_0, px_k_s, px_k3_0, px_stk_, px_cats, px_ent, px_st1, px_st2, px_mask, ↓px_tsw, ↓px_lsw, ct_, mls_0, mls_1, mls_2, mls_3, mls_4, mls_5, kd_0, kd_1, kd_2, kd_3, ln_0, ln_1, ln_2, ln_3, gf_0, gf_1, gf_2, gf_3, gf_4, gf_7, gf_21, gf_63, dy_0, dy_1, dy_2, dy_3, dy_7, dy_21, px_brT, px_brF, true_and, and_true, and_false, false_and, and_self, true_implies, false_implies, or_true, true_or, or_false, false_or, eq_self, ne_eq, not_false_eq_true, not_true_eq_false, if_true, if_false, List.mem_cons, List.not_mem_nil, List.length_cons, List.length_nil, Nat.reduceEqDiff, Nat.reduceAdd, Nat.reduceSub, Nat.reduceLeDiff, Nat.reduceLT, Int.reduceEq, Int.reduceLT, Int.reduceLE, Int.reduceNeg, Int.reduceAdd, Int.reduceSub, Int.reduceToNat, ↓reduceIte, one_ne_zero_, zero_ne_one_, px_in32L, cd_275]
      repeat' (first | (with_reducible apply And.intro) | (with_reducible refine px_br_intro (fun _ => ?_) (fun _ => ?_)))
      all_goals (try (first | (unfold px_in32; omega) | omega))
      · rename_i c5
        exact hyes (by omega) (by unfold isS; have := sg_0 (M 131 i); omega)
      · rename_i c5 c6
        exact hyes (by omega) (by unfold isS; omega)
      · rename_i c5 c6 c7
        exact hyes (by omega) (by unfold isS; omega)
      · rename_i c5 c6 c7
        refine h2 (fun z => ?_)
        have := hm.mp z (i - 1) (by omega) (by omega)
        rw [show 0 + 1 + (i - 1) = i by omega] at this
        unfold isS at this
        have := sg_0 (M 131 i)
        omega
set_option maxHeartbeats 600000 in
set_option maxRecDepth 100000 in
theorem lp_rlk112 {M0 Mc : px_mem} {s k : Int} {P : List Int} {pl : Int → Int → List Int} {nm : Int → List Int} (hT : TE Mc pl nm (M0 128)) (hs : 0 ≤ s ∧ s < Mc 20 1) (hk : -1 ≤ k) (hp : pth M0 131 P) (h : ∀ M', frl M' M0 → Q (some (0, nthR (Mc (Mc 21 s) 2) (ftR (pl s) P) k (-3))) M') (i : Int) (hk_i : i ≤ Mc (Mc 21 s) 2) : ∀ (M : px_mem), 0 ≤ i → (0 ≤ k → sm i (fun j => b1 (ftR (pl s) P j)) ≤ k) → frl M M0 → px_WP 275 0 0 (px_Q0 LAY Q) 112 [(2, 127), (9, 0), (9, 0), (0, k), (0, s), (0, sm i (fun j => b1 (ftR (pl s) P j))), (0, i)] [] LAY M 0 0 := by
  refine up_ind (P := fun i => ∀ (M : px_mem), 0 ≤ i → (0 ≤ k → sm i (fun j => b1 (ftR (pl s) P j)) ≤ k) → frl M M0 → px_WP 275 0 0 (px_Q0 LAY Q) 112 [(2, 127), (9, 0), (9, 0), (0, k), (0, s), (0, sm i (fun j => b1 (ftR (pl s) P j))), (0, i)] [] LAY M 0 0) (Mc (Mc 21 s) 2) (fun i hk_i ih => ?_) i hk_i
  intro M i0 hle hf
  have e128 : M 128 = M0 128 := hf 128 (by decide)
  have e131 : M 131 = M0 131 := hf 131 (by decide)
  have hTn := TE_n hT
  have he := TE_e hT hs.1 hs.2
  have e17 : M0 128 (1294 + 186 * s + 17) = Mc (Mc 21 s) 2 := he.2.2.2.2.1
  have hn12 := he.2.2.2.2.2
  have hsm := sm_s i0 (fun j => b1 (ftR (pl s) P j))
  have hb := sm_bnd (c := 1) i0 (f := fun j => b1 (ftR (pl s) P j)) (fun j _ _ => b1_rng _)
  refine px_go_ok (inl := [204,205,206]) 60 ?_
  simp only [px_go, px_Q0_at, px_sx_0, px_sx_s, px_cl, px_step, ↓px_ll, px_lg, f4_, ↓px_r1, ↓px_r2, ↓px_r4, ↓px_r5, ↓px_p1, ↓px_p2, ↓px_p3, ↓px_pop, px_k_0, px_k_s, px_k3_0, px_stk_, px_cats, px_ent, px_st1, px_st2, px_mask, ↓px_tsw, ↓px_lsw, ct_, mls_0, mls_1, mls_2, mls_3, mls_4, mls_5, kd_0, kd_1, kd_2, kd_3, ln_0, ln_1, ln_2, ln_3, gf_0, gf_1, gf_2, gf_3, gf_4, gf_7, gf_21, gf_63, dy_0, dy_1, dy_2, dy_3, dy_7, dy_21, px_brT, px_brF, true_and, and_true, and_false, false_and, and_self, true_implies, false_implies, or_true, true_or, or_false, false_or, eq_self, ne_eq, not_false_eq_true, not_true_eq_false, if_true, if_false, List.mem_cons, List.not_mem_nil, List.length_cons, List.length_nil, Nat.reduceEqDiff, Nat.reduceAdd, Nat.reduceSub, Nat.reduceLeDiff, Nat.reduceLT, Int.reduceEq, Int.reduceLT, Int.reduceLE, Int.reduceNeg, Int.reduceAdd, Int.reduceSub, Int.reduceToNat, ↓reduceIte, one_ne_zero_, zero_ne_one_, px_in32L, cd_275, cd_204, cd_205, cd_206, e128, e17]
  repeat' (first | (with_reducible apply And.intro) | (with_reducible refine px_br_intro (fun _ => ?_) (fun _ => ?_)))
  all_goals (try (first | (unfold px_in32; omega) | omega))
  · rename_i c1 c2
    have h := h M hf
    rw [nthR_neg (by omega), ← show i = Mc (Mc 21 s) 2 by omega] at h; exact h
  · rename_i c1 c2
    have h := h M hf
    rw [nthR_miss he.2.2.2.2.2.1 (by omega) (by rw [← show i = Mc (Mc 21 s) 2 by omega]; exact hle (by omega))] at h; exact h
  · rename_i c1
    have en := TE_ent hT hs.1 hs.2 i0 (by omega)
    have hlen := fp_len en.1.1.2.1
    rw [en.1.2.1] at hlen
    have hP := hp.2.2
    have hpl : (P.length : Int) = M0 131 0 := by rw [← hp.2.1]; exact fp_len hP.2.1
    have hpby := pby_of en.1.1 en.1.2.1 en.2.1
    rw [← e128] at hpby
    refine sp_isLike (q := M0 131 0) (p := nth P) hpby ⟨hP.2.1, hP.2.2.1⟩ (by rw [e131]) (fun j j0 j1 => ?_) (fun M1 a1 a2 => ?_) (fun M1 a1 a2 => ?_)
    · rw [e131]
      have e := nth_lst (f := fun k => M0 131 (0 + 1 + k)) (n := M0 131 0) j0 j1
      have e2 : lst (fun k => M0 131 (0 + 1 + k)) (M0 131 0) = P := hp.2.1
      rw [e2] at e
      rw [e, Int.zero_add]
    · have w : ftR (pl s) P i := by
        unfold ftR
        rw [hlen, ← e128, show P.length = (M0 131 0).toNat by omega]; exact a2
      rw [b1_t w] at hsm
      simp only [px_go, px_Q0_at, px_sx_0, px_sx_s, px_cl, px_step, ↓px_ll, px_lg, f4_, ↓px_r1, ↓px_r2, ↓px_r4, ↓px_r5, ↓px_p1, ↓px_p2, ↓px_p3, ↓px_pop, px_k_0, px_k_s, px_k3_0, px_stk_, px_cats, px_ent, px_st1, px_st2, px_mask, ↓px_tsw, ↓px_lsw, ct_, mls_0, mls_1, mls_2, mls_3, mls_4, mls_5, kd_0, kd_1, kd_2, kd_3, ln_0, ln_1, ln_2, ln_3, gf_0, gf_1, gf_2, gf_3, gf_4, gf_7, gf_21, gf_63, dy_0, dy_1, dy_2, dy_3, dy_7, dy_21, px_brT, px_brF, true_and, and_true, and_false, false_and, and_self, true_implies, false_implies, or_true, true_or, or_false, false_or, eq_self, ne_eq, not_false_eq_true, not_true_eq_false, if_true, if_false, List.mem_cons, List.not_mem_nil, List.length_cons, List.length_nil, Nat.reduceEqDiff, Nat.reduceAdd, Nat.reduceSub, Nat.reduceLeDiff, Nat.reduceLT, Int.reduceEq, Int.reduceLT, Int.reduceLE, Int.reduceNeg, Int.reduceAdd, Int.reduceSub, Int.reduceToNat, ↓reduceIte, one_ne_zero_, zero_ne_one_, px_in32L, cd_275, cd_204, cd_205, cd_206]
      repeat' (first | (with_reducible apply And.intro) | (with_reducible refine px_br_intro (fun _ => ?_) (fun _ => ?_)))
      all_goals (try (first | (unfold px_in32; omega) | omega))
      · rename_i c2
        have h := h M1 (frl_trans a1 hf)
        rw [nthR_hit i0 (by omega) w c2] at h; exact h
      · rename_i c2
        have := ih (by omega) M1 (by omega) (fun z => by have := hle z; omega) (frl_trans a1 hf)
        rw [hsm] at this; exact this
    · have w : ¬ ftR (pl s) P i := by
        unfold ftR
        rw [hlen, ← e128, show P.length = (M0 131 0).toNat by omega]; exact a2
      rw [b1_f w, Int.add_zero] at hsm
      simp only [px_go, px_Q0_at, px_sx_0, px_sx_s, px_cl, px_step, ↓px_ll, px_lg, f4_, ↓px_r1, ↓px_r2, ↓px_r4, ↓px_r5, ↓px_p1, ↓px_p2, ↓px_p3, ↓px_pop, px_k_0, px_k_s, px_k3_0, px_stk_, px_cats, px_ent, px_st1, px_st2, px_mask, ↓px_tsw, ↓px_lsw, ct_, mls_0, mls_1, mls_2, mls_3, mls_4, mls_5, kd_0, kd_1, kd_2, kd_3, ln_0, ln_1, ln_2, ln_3, gf_0, gf_1, gf_2, gf_3, gf_4, gf_7, gf_21, gf_63, dy_0, dy_1, dy_2, dy_3, dy_7, dy_21, px_brT, px_brF, true_and, and_true, and_false, false_and, and_self, true_implies, false_implies, or_true, true_or, or_false, false_or, eq_self, ne_eq, not_false_eq_true, not_true_eq_false, if_true, if_false, List.mem_cons, List.not_mem_nil, List.length_cons, List.length_nil, Nat.reduceEqDiff, Nat.reduceAdd, Nat.reduceSub, Nat.reduceLeDiff, Nat.reduceLT, Int.reduceEq, Int.reduceLT, Int.reduceLE, Int.reduceNeg, Int.reduceAdd, Int.reduceSub, Int.reduceToNat, ↓reduceIte, one_ne_zero_, zero_ne_one_, px_in32L, cd_275, cd_204, cd_205, cd_206]
      repeat' (first | (with_reducible apply And.intro) | (with_reducible refine px_br_intro (fun _ => ?_) (fun _ => ?_)))
      all_goals (try (first | (unfold px_in32; omega) | omega))
      have := ih (by omega) M1 (by omega) (fun z => by have := hle z; omega) (frl_trans a1 hf)
      rw [hsm] at this; exact this
set_option maxHeartbeats 600000 in
set_option maxRecDepth 100000 in
theorem sp_rlike {Mc : px_mem} {num q k : Int} {pl : Int → Int → List Int} {nm : Int → List Int} (ht : 0 ≤ M 127 3 ∧ M 127 3 ≤ 160) (hT : TE Mc pl nm (M 128)) (h0 : (slot Mc num < 0 ∨ ¬ wdq M q ∨ k < -1) → Q (some (0, -1)) M) (h2 : ∀ M', 0 ≤ slot Mc num → wdq M q → -1 ≤ k → ¬ (∀ b ∈ tw (M 130) 0 q, isS b) → M' 128 = M 128 → out M' M → Q (some (0, -2)) M') (h1 : ∀ M', 0 ≤ slot Mc num → slot Mc num < Mc 20 1 → wdq M q → -1 ≤ k → (∀ b ∈ tw (M 130) 0 q, isS b) → M' 128 = M 128 → out M' M → Q (some (0, nthR (Mc (Mc 21 (slot Mc num)) 2) (ftR (pl (slot Mc num)) (tw (M 130) 0 q)) k (-3))) M') : px_Ok 275 [(2, 127), (0, num), (0, q), (0, k)] LAY M Q := by
  refine px_ok_go (inl := []) (ls0 := [(2, 127), (0, num), (0, q), (0, k), (9, 0), (9, 0), (9, 0)]) 60 (by decide) (Nat.le_of_ble_eq_true rfl) rfl ?_
  simp only [px_go, px_Q0_at, px_sx_0, px_sx_s, px_cl, px_step, ↓px_ll, px_lg, f4_, ↓px_r1, ↓px_r2, ↓px_r4, ↓px_r5, ↓px_p1, ↓px_p2, ↓px_p3, ↓px_pop, px_k_0, px_k_s, px_k3_0, px_stk_, px_cats, px_ent, px_st1, px_st2, px_mask, ↓px_tsw, ↓px_lsw, ct_, mls_0, mls_1, mls_2, mls_3, mls_4, mls_5, kd_0, kd_1, kd_2, kd_3, ln_0, ln_1, ln_2, ln_3, gf_0, gf_1, gf_2, gf_3, gf_4, gf_7, gf_21, gf_63, dy_0, dy_1, dy_2, dy_3, dy_7, dy_21, px_brT, px_brF, true_and, and_true, and_false, false_and, and_self, true_implies, false_implies, or_true, true_or, or_false, false_or, eq_self, ne_eq, not_false_eq_true, not_true_eq_false, if_true, if_false, List.mem_cons, List.not_mem_nil, List.length_cons, List.length_nil, Nat.reduceEqDiff, Nat.reduceAdd, Nat.reduceSub, Nat.reduceLeDiff, Nat.reduceLT, Int.reduceEq, Int.reduceLT, Int.reduceLE, Int.reduceNeg, Int.reduceAdd, Int.reduceSub, Int.reduceToNat, ↓reduceIte, one_ne_zero_, zero_ne_one_, px_in32L, cd_275]
  repeat' (first | (with_reducible apply And.intro) | (with_reducible refine px_br_intro (fun _ => ?_) (fun _ => ?_)))
  all_goals (try (first | (unfold px_in32; omega) | omega))
  have hsb := slot_bd Mc num
  refine sp_slotT hT ?_
  generalize hsl : slot Mc num = s at *
  simp only [px_go, px_Q0_at, px_sx_0, px_sx_s, px_cl, px_step, ↓px_ll, px_lg, f4_, ↓px_r1, ↓px_r2, ↓px_r4, ↓px_r5, ↓px_p1, ↓px_p2, ↓px_p3, ↓px_pop, px_k_0, px_k_s, px_k3_0, px_stk_, px_cats, px_ent, px_st1, px_st2, px_mask, ↓px_tsw, ↓px_lsw, ct_, mls_0, mls_1, mls_2, mls_3, mls_4, mls_5, kd_0, kd_1, kd_2, kd_3, ln_0, ln_1, ln_2, ln_3, gf_0, gf_1, gf_2, gf_3, gf_4, gf_7, gf_21, gf_63, dy_0, dy_1, dy_2, dy_3, dy_7, dy_21, px_brT, px_brF, true_and, and_true, and_false, false_and, and_self, true_implies, false_implies, or_true, true_or, or_false, false_or, eq_self, ne_eq, not_false_eq_true, not_true_eq_false, if_true, if_false, List.mem_cons, List.not_mem_nil, List.length_cons, List.length_nil, Nat.reduceEqDiff, Nat.reduceAdd, Nat.reduceSub, Nat.reduceLeDiff, Nat.reduceLT, Int.reduceEq, Int.reduceLT, Int.reduceLE, Int.reduceNeg, Int.reduceAdd, Int.reduceSub, Int.reduceToNat, ↓reduceIte, one_ne_zero_, zero_ne_one_, px_in32L, cd_275]
  repeat' (first | (with_reducible apply And.intro) | (with_reducible refine px_br_intro (fun _ => ?_) (fun _ => ?_)))
  all_goals (try (first | (unfold px_in32; omega) | omega))
  · exact h0 (Or.inl (by omega))
  · rename_i c1
    have hs' : 0 ≤ s ∧ s < Mc 20 1 := by omega
    refine sp_areLaid ht (fun w => ?_) (fun w => ?_)
    · have hq : wdq M q := ⟨w.1, w.2.1, by omega⟩
      simp only [px_go, px_Q0_at, px_sx_0, px_sx_s, px_cl, px_step, ↓px_ll, px_lg, f4_, ↓px_r1, ↓px_r2, ↓px_r4, ↓px_r5, ↓px_p1, ↓px_p2, ↓px_p3, ↓px_pop, px_k_0, px_k_s, px_k3_0, px_stk_, px_cats, px_ent, px_st1, px_st2, px_mask, ↓px_tsw, ↓px_lsw, ct_, mls_0, mls_1, mls_2, mls_3, mls_4, mls_5, kd_0, kd_1, kd_2, kd_3, ln_0, ln_1, ln_2, ln_3, gf_0, gf_1, gf_2, gf_3, gf_4, gf_7, gf_21, gf_63, dy_0, dy_1, dy_2, dy_3, dy_7, dy_21, px_brT, px_brF, true_and, and_true, and_false, false_and, and_self, true_implies, false_implies, or_true, true_or, or_false, false_or, eq_self, ne_eq, not_false_eq_true, not_true_eq_false, if_true, if_false, List.mem_cons, List.not_mem_nil, List.length_cons, List.length_nil, Nat.reduceEqDiff, Nat.reduceAdd, Nat.reduceSub, Nat.reduceLeDiff, Nat.reduceLT, Int.reduceEq, Int.reduceLT, Int.reduceLE, Int.reduceNeg, Int.reduceAdd, Int.reduceSub, Int.reduceToNat, ↓reduceIte, one_ne_zero_, zero_ne_one_, px_in32L, cd_275]
      repeat' (first | (with_reducible apply And.intro) | (with_reducible refine px_br_intro (fun _ => ?_) (fun _ => ?_)))
      all_goals (try (first | (unfold px_in32; omega) | omega))
      · rename_i c2
        refine sp_lay (Or.inl rfl) (by omega) (by omega) (fun M1 a1 a2 => ?_)
        have e128 : M1 128 = M 128 := a2 128 (by decide)
        have o2 : out M1 M := ⟨fun b b0 => a2 b (by omega), a2 130 (by decide), by rw [a2 127 (by decide)]⟩
        have hTM : TE Mc pl nm (M1 128) := by rw [e128]; exact hT
        have hlq : ((tw (M 130) 0 q).length : Int) = q := tw_len (by omega)
        simp only [px_go, px_Q0_at, px_sx_0, px_sx_s, px_cl, px_step, ↓px_ll, px_lg, f4_, ↓px_r1, ↓px_r2, ↓px_r4, ↓px_r5, ↓px_p1, ↓px_p2, ↓px_p3, ↓px_pop, px_k_0, px_k_s, px_k3_0, px_stk_, px_cats, px_ent, px_st1, px_st2, px_mask, ↓px_tsw, ↓px_lsw, ct_, mls_0, mls_1, mls_2, mls_3, mls_4, mls_5, kd_0, kd_1, kd_2, kd_3, ln_0, ln_1, ln_2, ln_3, gf_0, gf_1, gf_2, gf_3, gf_4, gf_7, gf_21, gf_63, dy_0, dy_1, dy_2, dy_3, dy_7, dy_21, px_brT, px_brF, true_and, and_true, and_false, false_and, and_self, true_implies, false_implies, or_true, true_or, or_false, false_or, eq_self, ne_eq, not_false_eq_true, not_true_eq_false, if_true, if_false, List.mem_cons, List.not_mem_nil, List.length_cons, List.length_nil, Nat.reduceEqDiff, Nat.reduceAdd, Nat.reduceSub, Nat.reduceLeDiff, Nat.reduceLT, Int.reduceEq, Int.reduceLT, Int.reduceLE, Int.reduceNeg, Int.reduceAdd, Int.reduceSub, Int.reduceToNat, ↓reduceIte, one_ne_zero_, zero_ne_one_, px_in32L, cd_275]
        refine lp_rlk42 a1 hlq (fun z => ?_) (fun z => h2 M1 hs'.1 hq c2 z e128 o2) 1 (by omega) (Int.le_refl 1) (fun j j0 j1 => by omega)
        have := lp_rlk112 (M0 := M1) (Q := Q) hTM hs' c2 a1 (fun M' f => h1 M' hs'.1 hs'.2 hq c2 z (by rw [f 128 (by decide), e128]) (out_trans ⟨fun b b0 => f b (by omega), f 130 (by decide), by rw [f 127 (by decide)]⟩ o2)) 0 (TE_e hT hs'.1 hs'.2).2.2.2.2.2.1 M1 (Int.le_refl 0) (fun z => by rw [sm_0]; exact z) (frl_refl M1)
        exact this
      · exact h0 (Or.inr (Or.inr (by omega)))
    · simp only [px_go, px_Q0_at, px_sx_0, px_sx_s, px_cl, px_step, ↓px_ll, px_lg, f4_, ↓px_r1, ↓px_r2, ↓px_r4, ↓px_r5, ↓px_p1, ↓px_p2, ↓px_p3, ↓px_pop, px_k_0, px_k_s, px_k3_0, px_stk_, px_cats, px_ent, px_st1, px_st2, px_mask, ↓px_tsw, ↓px_lsw, ct_, mls_0, mls_1, mls_2, mls_3, mls_4, mls_5, kd_0, kd_1, kd_2, kd_3, ln_0, ln_1, ln_2, ln_3, gf_0, gf_1, gf_2, gf_3, gf_4, gf_7, gf_21, gf_63, dy_0, dy_1, dy_2, dy_3, dy_7, dy_21, px_brT, px_brF, true_and, and_true, and_false, false_and, and_self, true_implies, false_implies, or_true, true_or, or_false, false_or, eq_self, ne_eq, not_false_eq_true, not_true_eq_false, if_true, if_false, List.mem_cons, List.not_mem_nil, List.length_cons, List.length_nil, Nat.reduceEqDiff, Nat.reduceAdd, Nat.reduceSub, Nat.reduceLeDiff, Nat.reduceLT, Int.reduceEq, Int.reduceLT, Int.reduceLE, Int.reduceNeg, Int.reduceAdd, Int.reduceSub, Int.reduceToNat, ↓reduceIte, one_ne_zero_, zero_ne_one_, px_in32L, cd_275]
      exact h0 (Or.inr (Or.inl (fun z => w ⟨z.1, z.2.1, Int.le_refl 0, by decide, by have := z.2.2; omega⟩)))
end PS
