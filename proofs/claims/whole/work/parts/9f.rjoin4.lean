set_option maxRecDepth 100000 in
/-- X12_join -/
theorem cd_245 : px_at 245 0 = some (1, [], .aload_n 0, []) ∧ px_at 245 1 = some (2, [], .iload_n 1, []) ∧ px_at 245 2 = some (5, [], .invokevirtual 267, [208, 1, 11, 250]) ∧ px_at 245 5 = some (6, [], .istore_n 3, []) ∧ px_at 245 6 = some (7, [], .aload_n 0, []) ∧ px_at 245 7 = some (8, [], .iload_n 2, []) ∧ px_at 245 8 = some (11, [], .invokevirtual 267, [208, 1, 11, 250]) ∧ px_at 245 11 = some (13, [], .istore 4, []) ∧ px_at 245 13 = some (14, [], .iload_n 3, []) ∧ px_at 245 14 = some (15, [], .iconst (-1), []) ∧ px_at 245 15 = some (18, [], .if_icmp .eq 9, [24]) ∧ px_at 245 18 = some (20, [], .iload 4, []) ∧ px_at 245 20 = some (21, [], .iconst (-1), []) ∧ px_at 245 21 = some (24, [], .if_icmp .ne 6, [27]) ∧ px_at 245 24 = some (26, [], .bipush (-2), []) ∧ px_at 245 26 = some (27, [], .ireturn, [0]) ∧ px_at 245 27 = some (28, [], .aload_n 0, []) ∧ px_at 245 28 = some (29, [], .iload_n 3, []) ∧ px_at 245 29 = some (31, [], .iload 4, []) ∧ px_at 245 31 = some (34, [], .invokevirtual 313, [244, 2, 11, 283]) ∧ px_at 245 34 = some (35, [], .iconst 0, []) ∧ px_at 245 35 = some (37, [], .istore 5, []) ∧ px_at 245 37 = some (39, [1, 1, 1, 0, 0, 1], .iload 5, []) ∧ px_at 245 39 = some (40, [], .aload_n 0, []) ∧ px_at 245 40 = some (43, [], .getfield 301, [11, 26, 0, 0, 151]) ∧ px_at 245 43 = some (46, [], .if_icmp .ge 26, [69]) ∧ px_at 245 46 = some (47, [], .aload_n 0, []) ∧ px_at 245 47 = some (48, [], .aload_n 0, []) ∧ px_at 245 48 = some (51, [], .getfield 57, [11, 22, 2, 1, 147]) ∧ px_at 245 51 = some (53, [], .iload 5, []) ∧ px_at 245 53 = some (54, [], .iaload, []) ∧ px_at 245 54 = some (57, [], .invokevirtual 141, [194, 1, 11, 257]) ∧ px_at 245 57 = some (60, [], .ifCond .ne 6, [63]) ∧ px_at 245 60 = some (62, [], .bipush (-3), []) ∧ px_at 245 62 = some (63, [], .ireturn, [0]) ∧ px_at 245 63 = some (66, [], .iinc 5 1, []) ∧ px_at 245 66 = some (69, [], .goto (-29), [37]) ∧ px_at 245 69 = some (70, [], .aload_n 0, []) ∧ px_at 245 70 = some (73, [], .getfield 301, [11, 26, 0, 0, 151]) ∧ px_at 245 73 = some (75, [], .bipush 12, []) ∧ px_at 245 75 = some (78, [], .if_icmp .le 6, [81]) ∧ px_at 245 78 = some (80, [], .bipush (-4), []) ∧ px_at 245 80 = some (81, [], .ireturn, [0]) ∧ px_at 245 81 = some (82, [], .aload_n 0, []) ∧ px_at 245 82 = some (85, [], .getfield 7, [11, 0, 2, 1, 125]) ∧ px_at 245 85 = some (86, [], .iconst 0, []) ∧ px_at 245 86 = some (87, [], .iconst 0, []) ∧ px_at 245 87 = some (88, [], .iastore, []) ∧ px_at 245 88 = some (89, [], .iconst 0, []) ∧ px_at 245 89 = some (91, [], .istore 5, []) ∧ px_at 245 91 = some (93, [1, 1, 1, 0, 0, 1], .iload 5, []) ∧ px_at 245 93 = some (94, [], .aload_n 0, []) ∧ px_at 245 94 = some (97, [], .getfield 301, [11, 26, 0, 0, 151]) ∧ px_at 245 97 = some (100, [], .if_icmp .ge 27, [124]) ∧ px_at 245 100 = some (101, [], .aload_n 0, []) ∧ px_at 245 101 = some (102, [], .aload_n 0, []) ∧ px_at 245 102 = some (105, [], .getfield 54, [11, 21, 2, 1, 146]) ∧ px_at 245 105 = some (107, [], .iload 5, []) ∧ px_at 245 107 = some (108, [], .iaload, []) ∧ px_at 245 108 = some (109, [], .aload_n 0, []) ∧ px_at 245 109 = some (112, [], .getfield 57, [11, 22, 2, 1, 147]) ∧ px_at 245 112 = some (114, [], .iload 5, []) ∧ px_at 245 114 = some (115, [], .iaload, []) ∧ px_at 245 115 = some (118, [], .invokevirtual 286, [236, 2, 11, 277]) ∧ px_at 245 118 = some (121, [], .iinc 5 1, []) ∧ px_at 245 121 = some (124, [], .goto (-30), [91]) ∧ px_at 245 124 = some (125, [], .aload_n 0, []) ∧ px_at 245 125 = some (128, [], .getfield 7, [11, 0, 2, 1, 125]) ∧ px_at 245 128 = some (129, [], .iconst 1, []) ∧ px_at 245 129 = some (130, [], .iload_n 1, []) ∧ px_at 245 130 = some (131, [], .iastore, []) ∧ px_at 245 131 = some (132, [], .aload_n 0, []) ∧ px_at 245 132 = some (135, [], .getfield 7, [11, 0, 2, 1, 125]) ∧ px_at 245 135 = some (136, [], .iconst 2, []) ∧ px_at 245 136 = some (137, [], .iload_n 2, []) ∧ px_at 245 137 = some (138, [], .iastore, []) ∧ px_at 245 138 = some (139, [], .aload_n 0, []) ∧ px_at 245 139 = some (142, [], .getfield 7, [11, 0, 2, 1, 125]) ∧ px_at 245 142 = some (143, [], .iconst 4, []) ∧ px_at 245 143 = some (144, [], .aload_n 0, []) ∧ px_at 245 144 = some (147, [], .getfield 304, [11, 27, 0, 0, 152]) ∧ px_at 245 147 = some (148, [], .iastore, []) ∧ px_at 245 148 = some (149, [], .aload_n 0, []) ∧ px_at 245 149 = some (152, [], .getfield 304, [11, 27, 0, 0, 152]) ∧ px_at 245 152 = some (153, [], .ireturn, [0]) := ⟨rfl, rfl, rfl, rfl, rfl, rfl, rfl, rfl, rfl, rfl, rfl, rfl, rfl, rfl, rfl, rfl, rfl, rfl, rfl, rfl, rfl, rfl, rfl, rfl, rfl, rfl, rfl, rfl, rfl, rfl, rfl, rfl, rfl, rfl, rfl, rfl, rfl, rfl, rfl, rfl, rfl, rfl, rfl, rfl, rfl, rfl, rfl, rfl, rfl, rfl, rfl, rfl, rfl, rfl, rfl, rfl, rfl, rfl, rfl, rfl, rfl, rfl, rfl, rfl, rfl, rfl, rfl, rfl, rfl, rfl, rfl, rfl, rfl, rfl, rfl, rfl, rfl, rfl, rfl, rfl, rfl, rfl, rfl, rfl, rfl⟩
/-! the reference: join -/
theorem J_at {J : List (List Int × Int)} {k : Int} (k0 : 0 ≤ k) (k1 : k < (J.length : Int)) : ∃ x, J[k.toNat]? = some x ∧ x ∈ J :=
  ⟨J[k.toNat]'(by omega), List.getElem?_eq_getElem (by omega), List.getElem_mem _⟩
theorem J_all {J : List (List Int × Int)} {p : List Int × Int → Prop} (h : ∀ k, 0 ≤ k → k < (J.length : Int) → ∀ x, J[k.toNat]? = some x → p x) : ∀ q ∈ J, p q := fun q hq => by
  obtain ⟨i, hi⟩ := List.getElem?_of_mem hq
  have hlt := (List.getElem?_eq_some_iff.mp hi).1
  exact h (i : Int) (by omega) (by omega) q (by rw [Int.toNat_natCast]; exact hi)
theorem gJ_srt {Mc : px_mem} {J : List (List Int × Int)} (h : jpw J) : srt (J.length : Int) (gJ Mc J) := by
  intro i j i0 i1 j1
  obtain ⟨x, x1, _⟩ := J_at (J := J) i0 (by omega)
  obtain ⟨y, y1, _⟩ := J_at (J := J) (show 0 ≤ j by omega) j1
  rw [gJ_at x1, gJ_at y1]
  have hx := List.getElem?_eq_some_iff.mp x1
  have hy := List.getElem?_eq_some_iff.mp y1
  obtain ⟨hx1, hx2⟩ := hx
  obtain ⟨hy1, hy2⟩ := hy
  have := (List.pairwise_iff_getElem.mp h) i.toNat j.toNat hx1 hy1 (by omega)
  rw [hx2, hy2] at this
  exact this
section PS
variable {M : px_mem} {Q : Option pv → px_mem → Prop}
set_option maxHeartbeats 600000 in
set_option maxRecDepth 100000 in
theorem lp_rj1 {M0 Mc : px_mem} {a b : Int} {J : List (List Int × Int)} (hT : tieC Mc (M0 128)) (hJ : rJ M0 J) (hJl : J.length ≤ 36) (hok : ∀ q ∈ J, 0 ≤ q.2 ∧ q.2 < 40 ∧ 0 ≤ Mc 62 q.2) (h3 : ∀ M', ¬ (∀ q ∈ J, Mc 105 q.2 ≠ 0) → frE M' M0 → Q (some (0, -3)) M') (hx : ∀ M', (∀ q ∈ J, Mc 105 q.2 ≠ 0) → frE M' M0 → px_WP 245 0 0 (px_Q0 LAY Q) 37 [(2, 127), (0, a), (0, b), (9, 0), (9, 0), (0, (J.length : Int))] [] LAY M' 0 0) (k : Int) (hk_k : k ≤ (J.length:Int)) : ∀ (M : px_mem), 0 ≤ k → (∀ j, 0 ≤ j → j < k → ∀ x, J[j.toNat]? = some x → Mc 105 x.2 ≠ 0) → frE M M0 → px_WP 245 0 0 (px_Q0 LAY Q) 37 [(2, 127), (0, a), (0, b), (9, 0), (9, 0), (0, k)] [] LAY M 0 0 := by
  refine up_ind (P := fun k => ∀ (M : px_mem), 0 ≤ k → (∀ j, 0 ≤ j → j < k → ∀ x, J[j.toNat]? = some x → Mc 105 x.2 ≠ 0) → frE M M0 → px_WP 245 0 0 (px_Q0 LAY Q) 37 [(2, 127), (0, a), (0, b), (9, 0), (9, 0), (0, k)] [] LAY M 0 0) ((J.length:Int)) (fun k hk_k ih => ?_) k hk_k
  intro M k0 hj hfr
  by_cases hkJ : k = (J.length : Int)
  · subst hkJ; exact hx M (J_all hj) hfr
  have e128 := frE_128 hfr
  have e143 := hfr.2 143 (by decide) (by decide) (by decide) (by decide) (by decide)
  have e26 : M 127 26 = (J.length : Int) := by rw [hfr.1 26 (by decide) (by decide)]; exact hJ.1
  refine px_go_ok (inl := []) 60 ?_
  simp only [px_go, px_Q0_at, px_sx_0, px_sx_s, px_cl, px_step, ↓px_ll, px_lg, f4_, ↓px_r1, ↓px_r2, ↓px_r4, ↓px_r5, ↓px_p1, ↓px_p2, ↓px_p3, ↓px_pop, px_k_0, px_k_s, px_k3_0, px_stk_, px_cats, px_ent, px_st1, px_st2, px_mask, ↓px_tsw, ↓px_lsw, ct_, mls_0, mls_1, mls_2, mls_3, mls_4, mls_5, kd_0, kd_1, kd_2, kd_3, ln_0, ln_1, ln_2, ln_3, gf_0, gf_1, gf_2, gf_3, gf_4, gf_7, gf_21, gf_63, dy_0, dy_1, dy_2, dy_3, dy_7, dy_21, px_brT, px_brF, true_and, and_true, and_false, false_and, and_self, true_implies, false_implies, or_true, true_or, or_false, false_or, eq_self, ne_eq, not_false_eq_true, not_true_eq_false, if_true, if_false, List.mem_cons, List.not_mem_nil, List.length_cons, List.length_nil, Nat.reduceEqDiff, Nat.reduceAdd, Nat.reduceSub, Nat.reduceLeDiff, Nat.reduceLT, Int.reduceEq, Int.reduceLT, Int.reduceLE, Int.reduceNeg, Int.reduceAdd, Int.reduceSub, Int.reduceToNat, ↓reduceIte, one_ne_zero_, zero_ne_one_, px_in32L, cd_245, e26]
  repeat' (first | (with_reducible apply And.intro) | (with_reducible refine px_br_intro (fun _ => ?_) (fun _ => ?_)))
  all_goals (try (first | (unfold px_in32; omega) | omega))
  · rename_i c1
    obtain ⟨x, x1, x2⟩ := J_at (J := J) k0 (by omega)
    have f := (hJ.2 k.toNat x x1).2
    rw [Int.toNat_of_nonneg k0] at f
    rw [e143, f]
    refine sp_wholeT (Mc := Mc) (by rw [e128]; exact hT) (hok x x2) (fun M1 a1 _ _ a4 => ?_) (fun M1 a1 a4 => ?_)
    · simp only [px_go, px_Q0_at, px_sx_0, px_sx_s, px_cl, px_step, ↓px_ll, px_lg, f4_, ↓px_r1, ↓px_r2, ↓px_r4, ↓px_r5, ↓px_p1, ↓px_p2, ↓px_p3, ↓px_pop, px_k_0, px_k_s, px_k3_0, px_stk_, px_cats, px_ent, px_st1, px_st2, px_mask, ↓px_tsw, ↓px_lsw, ct_, mls_0, mls_1, mls_2, mls_3, mls_4, mls_5, kd_0, kd_1, kd_2, kd_3, ln_0, ln_1, ln_2, ln_3, gf_0, gf_1, gf_2, gf_3, gf_4, gf_7, gf_21, gf_63, dy_0, dy_1, dy_2, dy_3, dy_7, dy_21, px_brT, px_brF, true_and, and_true, and_false, false_and, and_self, true_implies, false_implies, or_true, true_or, or_false, false_or, eq_self, ne_eq, not_false_eq_true, not_true_eq_false, if_true, if_false, List.mem_cons, List.not_mem_nil, List.length_cons, List.length_nil, Nat.reduceEqDiff, Nat.reduceAdd, Nat.reduceSub, Nat.reduceLeDiff, Nat.reduceLT, Int.reduceEq, Int.reduceLT, Int.reduceLE, Int.reduceNeg, Int.reduceAdd, Int.reduceSub, Int.reduceToNat, ↓reduceIte, one_ne_zero_, zero_ne_one_, px_in32L, cd_245]
      repeat' (first | (with_reducible apply And.intro) | (with_reducible refine px_br_intro (fun _ => ?_) (fun _ => ?_)))
      all_goals (try (first | (unfold px_in32; omega) | omega))
      refine ih (by omega) M1 (by omega) (fun j j0 j1 y hy => ?_) (frE_trans (frd_E a4) hfr)
      by_cases q : j = k
      · rw [q, x1] at hy
        injection hy with hy
        rw [← hy]; exact a1
      · exact hj j j0 (by omega) y hy
    · simp only [px_go, px_Q0_at, px_sx_0, px_sx_s, px_cl, px_step, ↓px_ll, px_lg, f4_, ↓px_r1, ↓px_r2, ↓px_r4, ↓px_r5, ↓px_p1, ↓px_p2, ↓px_p3, ↓px_pop, px_k_0, px_k_s, px_k3_0, px_stk_, px_cats, px_ent, px_st1, px_st2, px_mask, ↓px_tsw, ↓px_lsw, ct_, mls_0, mls_1, mls_2, mls_3, mls_4, mls_5, kd_0, kd_1, kd_2, kd_3, ln_0, ln_1, ln_2, ln_3, gf_0, gf_1, gf_2, gf_3, gf_4, gf_7, gf_21, gf_63, dy_0, dy_1, dy_2, dy_3, dy_7, dy_21, px_brT, px_brF, true_and, and_true, and_false, false_and, and_self, true_implies, false_implies, or_true, true_or, or_false, false_or, eq_self, ne_eq, not_false_eq_true, not_true_eq_false, if_true, if_false, List.mem_cons, List.not_mem_nil, List.length_cons, List.length_nil, Nat.reduceEqDiff, Nat.reduceAdd, Nat.reduceSub, Nat.reduceLeDiff, Nat.reduceLT, Int.reduceEq, Int.reduceLT, Int.reduceLE, Int.reduceNeg, Int.reduceAdd, Int.reduceSub, Int.reduceToNat, ↓reduceIte, one_ne_zero_, zero_ne_one_, px_in32L, cd_245]
      exact h3 M1 (fun z => z x x2 a1) (frE_trans (frd_E a4) hfr)
set_option maxHeartbeats 600000 in
set_option maxRecDepth 100000 in
theorem lp_rj2 {M0 Mc : px_mem} {a b c : Int} {J : List (List Int × Int)} (hT : tieC Mc (M0 128)) (hJ : rJ M0 J) (hJl : J.length ≤ 12) (hc : M0 127 27 = c) (hok : ∀ q ∈ J, okp q.1 ∧ q.1 ≠ [] ∧ (0 ≤ q.2 ∧ q.2 < 40 ∧ 0 ≤ Mc 62 q.2) ∧ Mc 105 q.2 ≠ 0) (hpw : jpw J) (h : ∀ M', sR (M' 128) (J.length : Int) (gJ Mc J) → M' 128 1 = a → M' 128 2 = b → M' 128 4 = c → (∀ x, x ≠ 0 → x ≠ 1 → x ≠ 2 → x ≠ 4 → ¬ (6 ≤ x ∧ x < 654) → M' 128 x = M0 128 x) → frC M' M0 → Q (some (0, c)) M') (k : Int) (hk_k : k ≤ (J.length:Int)) : ∀ (M : px_mem) (g' : Int → fe), 0 ≤ k → sR (M 128) k g' → srt k g' → (∀ y, isM k g' y ↔ ∃ j, 0 ≤ j ∧ j < k ∧ y = gJ Mc J j) → frf (M 128) (M0 128) → frC M M0 → px_WP 245 0 0 (px_Q0 LAY Q) 91 [(2, 127), (0, a), (0, b), (9, 0), (9, 0), (0, k)] [] LAY M 0 0 := by
  refine up_ind (P := fun k => ∀ (M : px_mem) (g' : Int → fe), 0 ≤ k → sR (M 128) k g' → srt k g' → (∀ y, isM k g' y ↔ ∃ j, 0 ≤ j ∧ j < k ∧ y = gJ Mc J j) → frf (M 128) (M0 128) → frC M M0 → px_WP 245 0 0 (px_Q0 LAY Q) 91 [(2, 127), (0, a), (0, b), (9, 0), (9, 0), (0, k)] [] LAY M 0 0) ((J.length:Int)) (fun k hk_k ih => ?_) k hk_k
  intro M g' k0 hst hso hm hff hfr
  have e26 : M 127 26 = (J.length : Int) := by rw [hfr.1 26 (by decide) (by decide) (by decide) (by decide) (by decide)]; exact hJ.1
  have e27 : M 127 27 = c := by rw [hfr.1 27 (by decide) (by decide) (by decide) (by decide) (by decide)]; exact hc
  have e142 := hfr.2 142 (by decide) (by decide) (by decide) (by decide) (by decide) (by decide) (by decide) (by decide) (by decide)
  have e143 := hfr.2 143 (by decide) (by decide) (by decide) (by decide) (by decide) (by decide) (by decide) (by decide) (by decide)
  refine px_go_ok (inl := []) 60 ?_
  simp only [px_go, px_Q0_at, px_sx_0, px_sx_s, px_cl, px_step, ↓px_ll, px_lg, f4_, ↓px_r1, ↓px_r2, ↓px_r4, ↓px_r5, ↓px_p1, ↓px_p2, ↓px_p3, ↓px_pop, px_k_0, px_k_s, px_k3_0, px_stk_, px_cats, px_ent, px_st1, px_st2, px_mask, ↓px_tsw, ↓px_lsw, ct_, mls_0, mls_1, mls_2, mls_3, mls_4, mls_5, kd_0, kd_1, kd_2, kd_3, ln_0, ln_1, ln_2, ln_3, gf_0, gf_1, gf_2, gf_3, gf_4, gf_7, gf_21, gf_63, dy_0, dy_1, dy_2, dy_3, dy_7, dy_21, px_brT, px_brF, true_and, and_true, and_false, false_and, and_self, true_implies, false_implies, or_true, true_or, or_false, false_or, eq_self, ne_eq, not_false_eq_true, not_true_eq_false, if_true, if_false, List.mem_cons, List.not_mem_nil, List.length_cons, List.length_nil, Nat.reduceEqDiff, Nat.reduceAdd, Nat.reduceSub, Nat.reduceLeDiff, Nat.reduceLT, Int.reduceEq, Int.reduceLT, Int.reduceLE, Int.reduceNeg, Int.reduceAdd, Int.reduceSub, Int.reduceToNat, ↓reduceIte, one_ne_zero_, zero_ne_one_, px_in32L, cd_245, e26, e27]
  repeat' (first | (with_reducible apply And.intro) | (with_reducible refine px_br_intro (fun _ => ?_) (fun _ => ?_)))
  all_goals (try (first | (unfold px_in32; omega) | omega))
  · rename_i c1
    have e : k = (J.length : Int) := by omega
    rw [e] at hst hso hm
    have hsr := gJ_srt (Mc := Mc) hpw
    have hu := srt_uniq hst.2.1 hst.2.1 hsr hso (fun y => by
      rw [hm y]
      exact ⟨fun ⟨j, j0, j1, j2⟩ => ⟨j, j0, j1, j2.symm⟩, fun ⟨j, j0, j1, j2⟩ => ⟨j, j0, j1, j2.symm⟩⟩)
    have hst' := sR_congr hst hu.2
    rw [show px_up (px_up M 128 1 a) 128 2 b 127 27 = c by rw [row_ne (by decide), row_ne (by decide)]; exact e27, show px_up (px_up (px_up M 128 1 a) 128 2 b) 128 4 c 127 27 = c by rw [row_ne (by decide), row_ne (by decide), row_ne (by decide)]; exact e27]
    refine h _ (sR_frame hst' ?_ (fun x x0 x1 => ?_)) ?_ ?_ ?_ (fun x x0 x1 x2 x4 x3 => ?_) (frC_trans (fr8_C (fun b b0 => by rw [row_ne b0, row_ne b0, row_ne b0])) hfr)
    · simp (disch := omega) only [upn]
    · simp (disch := omega) only [upn]
    · simp (disch := omega) only [upn, upe]
    · simp (disch := omega) only [upn, upe]
    · simp (disch := omega) only [upn, upe]
    · simp (disch := omega) only [upn]
      exact hff x x0 x3
  · rename_i c1
    obtain ⟨x, x1, x2⟩ := J_at (J := J) k0 (by omega)
    have f := hJ.2 k.toNat x x1
    rw [Int.toNat_of_nonneg k0] at f
    have hx := hok x x2
    rw [e142, e143, f.2]
    have he : ∀ y, 0 ≤ y → y < 13 → M 128 (M0 142 k + y) = M0 128 (M0 142 k + y) := fun y y0 y1 => hff _ (by have := f.1.2.1; omega) (by have := f.1.2.1; omega)
    have hp : fp (M 128) (M0 142 k) = x.1 := by rw [fp_congr he f.1.1.2.2.1]; exact f.1.2.2
    refine sp_comes (Mc := Mc) (tieC_f hT hff) hst hso (by omega) (pok_congr he f.1.1 ⟨f.1.1.1, f.1.1.2.2.2.1⟩) f.1.2.1 hp hx.1 hx.2.1 (fun j j0 j1 => ?_) hx.2.2.1 hx.2.2.2 (fun M1 g1 a1 a2 a3 a4 a5 => ?_)
    · obtain ⟨i, i0, i1, i2⟩ := (hm (g' j)).mp ⟨j, j0, j1, rfl⟩
      have := gJ_srt (Mc := Mc) hpw i k i0 i1 (by omega)
      rw [i2]
      intro e
      rw [e, gJ_at x1] at this
      dsimp only at this
      omega
    · simp only [px_go, px_Q0_at, px_sx_0, px_sx_s, px_cl, px_step, ↓px_ll, px_lg, f4_, ↓px_r1, ↓px_r2, ↓px_r4, ↓px_r5, ↓px_p1, ↓px_p2, ↓px_p3, ↓px_pop, px_k_0, px_k_s, px_k3_0, px_stk_, px_cats, px_ent, px_st1, px_st2, px_mask, ↓px_tsw, ↓px_lsw, ct_, mls_0, mls_1, mls_2, mls_3, mls_4, mls_5, kd_0, kd_1, kd_2, kd_3, ln_0, ln_1, ln_2, ln_3, gf_0, gf_1, gf_2, gf_3, gf_4, gf_7, gf_21, gf_63, dy_0, dy_1, dy_2, dy_3, dy_7, dy_21, px_brT, px_brF, true_and, and_true, and_false, false_and, and_self, true_implies, false_implies, or_true, true_or, or_false, false_or, eq_self, ne_eq, not_false_eq_true, not_true_eq_false, if_true, if_false, List.mem_cons, List.not_mem_nil, List.length_cons, List.length_nil, Nat.reduceEqDiff, Nat.reduceAdd, Nat.reduceSub, Nat.reduceLeDiff, Nat.reduceLT, Int.reduceEq, Int.reduceLT, Int.reduceLE, Int.reduceNeg, Int.reduceAdd, Int.reduceSub, Int.reduceToNat, ↓reduceIte, one_ne_zero_, zero_ne_one_, px_in32L, cd_245]
      repeat' (first | (with_reducible apply And.intro) | (with_reducible refine px_br_intro (fun _ => ?_) (fun _ => ?_)))
      all_goals (try (first | (unfold px_in32; omega) | omega))
      refine ih (by omega) M1 g1 (by omega) a1 a2 (fun y => ?_) (frf_trans a4 hff) (frC_trans a5 hfr)
      rw [a3 y, hm y]
      have ex : gJ Mc J k = (x.1, rdC Mc x.2) := gJ_at x1
      constructor
      · rintro (⟨j, j0, j1, j2⟩ | z)
        · exact ⟨j, j0, by omega, j2⟩
        · exact ⟨k, k0, by omega, by rw [ex]; exact z⟩
      · rintro ⟨j, j0, j1, j2⟩
        by_cases q : j = k
        · right; rw [q, ex] at j2; exact j2
        · exact Or.inl ⟨j, j0, by omega, j2⟩
set_option maxHeartbeats 600000 in
set_option maxRecDepth 100000 in
theorem sp_rjoin {Mc : px_mem} {a b : Int} {pl : Int → Int → List Int} {nm : Int → List Int} (hT : TE Mc pl nm (M 128)) (hnum : numI Mc) (hno : Mc 118 2 = 0) (h2 : (slot Mc a < 0 ∨ slot Mc b < 0) → Q (some (0, -2)) M) (h3 : ∀ M' so V, 0 ≤ slot Mc a → 0 ≤ slot Mc b → comS Mc a b so → jnU Mc pl so (slot Mc a) (slot Mc b) V → ¬ (∀ q ∈ (jnF Mc pl so (slot Mc a) (slot Mc b) V).1, Mc 105 q.2 ≠ 0) → M' 128 = M 128 → out M' M → Q (some (0, -3)) M') (h4 : ∀ M' so V, 0 ≤ slot Mc a → 0 ≤ slot Mc b → comS Mc a b so → jnU Mc pl so (slot Mc a) (slot Mc b) V → (∀ q ∈ (jnF Mc pl so (slot Mc a) (slot Mc b) V).1, Mc 105 q.2 ≠ 0) → 12 < (jnF Mc pl so (slot Mc a) (slot Mc b) V).1.length → M' 128 = M 128 → out M' M → Q (some (0, -4)) M') (h1 : ∀ M' so V, 0 ≤ slot Mc a → 0 ≤ slot Mc b → comS Mc a b so → jnU Mc pl so (slot Mc a) (slot Mc b) V → (∀ q ∈ (jnF Mc pl so (slot Mc a) (slot Mc b) V).1, Mc 105 q.2 ≠ 0) → (jnF Mc pl so (slot Mc a) (slot Mc b) V).1.length ≤ 12 → sR (M' 128) ((jnF Mc pl so (slot Mc a) (slot Mc b) V).1.length : Int) (gJ Mc (jnF Mc pl so (slot Mc a) (slot Mc b) V).1) → jpw (jnF Mc pl so (slot Mc a) (slot Mc b) V).1 → M' 128 1 = a → M' 128 2 = b → M' 128 4 = (jnF Mc pl so (slot Mc a) (slot Mc b) V).2 → (∀ x, x ≠ 0 → x ≠ 1 → x ≠ 2 → x ≠ 4 → ¬ (6 ≤ x ∧ x < 654) → M' 128 x = M 128 x) → out M' M → Q (some (0, (jnF Mc pl so (slot Mc a) (slot Mc b) V).2)) M') : px_Ok 245 [(2, 127), (0, a), (0, b)] LAY M Q := by
  have hsa := slot_bd Mc a
  have hsb := slot_bd Mc b
  refine px_ok_go (inl := []) (ls0 := [(2, 127), (0, a), (0, b), (9, 0), (9, 0), (9, 0)]) 60 (by decide) (Nat.le_of_ble_eq_true rfl) rfl ?_
  simp only [px_go, px_Q0_at, px_sx_0, px_sx_s, px_cl, px_step, ↓px_ll, px_lg, f4_, ↓px_r1, ↓px_r2, ↓px_r4, ↓px_r5, ↓px_p1, ↓px_p2, ↓px_p3, ↓px_pop, px_k_0, px_k_s, px_k3_0, px_stk_, px_cats, px_ent, px_st1, px_st2, px_mask, ↓px_tsw, ↓px_lsw, ct_, mls_0, mls_1, mls_2, mls_3, mls_4, mls_5, kd_0, kd_1, kd_2, kd_3, ln_0, ln_1, ln_2, ln_3, gf_0, gf_1, gf_2, gf_3, gf_4, gf_7, gf_21, gf_63, dy_0, dy_1, dy_2, dy_3, dy_7, dy_21, px_brT, px_brF, true_and, and_true, and_false, false_and, and_self, true_implies, false_implies, or_true, true_or, or_false, false_or, eq_self, ne_eq, not_false_eq_true, not_true_eq_false, if_true, if_false, List.mem_cons, List.not_mem_nil, List.length_cons, List.length_nil, Nat.reduceEqDiff, Nat.reduceAdd, Nat.reduceSub, Nat.reduceLeDiff, Nat.reduceLT, Int.reduceEq, Int.reduceLT, Int.reduceLE, Int.reduceNeg, Int.reduceAdd, Int.reduceSub, Int.reduceToNat, ↓reduceIte, one_ne_zero_, zero_ne_one_, px_in32L, cd_245]
  repeat' (first | (with_reducible apply And.intro) | (with_reducible refine px_br_intro (fun _ => ?_) (fun _ => ?_)))
  all_goals (try (first | (unfold px_in32; omega) | omega))
  refine sp_slotT hT ?_
  simp only [px_go, px_Q0_at, px_sx_0, px_sx_s, px_cl, px_step, ↓px_ll, px_lg, f4_, ↓px_r1, ↓px_r2, ↓px_r4, ↓px_r5, ↓px_p1, ↓px_p2, ↓px_p3, ↓px_pop, px_k_0, px_k_s, px_k3_0, px_stk_, px_cats, px_ent, px_st1, px_st2, px_mask, ↓px_tsw, ↓px_lsw, ct_, mls_0, mls_1, mls_2, mls_3, mls_4, mls_5, kd_0, kd_1, kd_2, kd_3, ln_0, ln_1, ln_2, ln_3, gf_0, gf_1, gf_2, gf_3, gf_4, gf_7, gf_21, gf_63, dy_0, dy_1, dy_2, dy_3, dy_7, dy_21, px_brT, px_brF, true_and, and_true, and_false, false_and, and_self, true_implies, false_implies, or_true, true_or, or_false, false_or, eq_self, ne_eq, not_false_eq_true, not_true_eq_false, if_true, if_false, List.mem_cons, List.not_mem_nil, List.length_cons, List.length_nil, Nat.reduceEqDiff, Nat.reduceAdd, Nat.reduceSub, Nat.reduceLeDiff, Nat.reduceLT, Int.reduceEq, Int.reduceLT, Int.reduceLE, Int.reduceNeg, Int.reduceAdd, Int.reduceSub, Int.reduceToNat, ↓reduceIte, one_ne_zero_, zero_ne_one_, px_in32L, cd_245]
  refine sp_slotT hT ?_
  simp only [px_go, px_Q0_at, px_sx_0, px_sx_s, px_cl, px_step, ↓px_ll, px_lg, f4_, ↓px_r1, ↓px_r2, ↓px_r4, ↓px_r5, ↓px_p1, ↓px_p2, ↓px_p3, ↓px_pop, px_k_0, px_k_s, px_k3_0, px_stk_, px_cats, px_ent, px_st1, px_st2, px_mask, ↓px_tsw, ↓px_lsw, ct_, mls_0, mls_1, mls_2, mls_3, mls_4, mls_5, kd_0, kd_1, kd_2, kd_3, ln_0, ln_1, ln_2, ln_3, gf_0, gf_1, gf_2, gf_3, gf_4, gf_7, gf_21, gf_63, dy_0, dy_1, dy_2, dy_3, dy_7, dy_21, px_brT, px_brF, true_and, and_true, and_false, false_and, and_self, true_implies, false_implies, or_true, true_or, or_false, false_or, eq_self, ne_eq, not_false_eq_true, not_true_eq_false, if_true, if_false, List.mem_cons, List.not_mem_nil, List.length_cons, List.length_nil, Nat.reduceEqDiff, Nat.reduceAdd, Nat.reduceSub, Nat.reduceLeDiff, Nat.reduceLT, Int.reduceEq, Int.reduceLT, Int.reduceLE, Int.reduceNeg, Int.reduceAdd, Int.reduceSub, Int.reduceToNat, ↓reduceIte, one_ne_zero_, zero_ne_one_, px_in32L, cd_245]
  refine px_br_intro (fun c1 => ?_) (fun c1 => ?_)
  · exact h2 (Or.inl (by omega))
  · refine px_br_intro (fun c2 => ?_) (fun c2 => ?_)
    · exact h2 (Or.inr (by omega))
    · have ha0 : 0 ≤ slot Mc a ∧ slot Mc a < Mc 20 1 := by omega
      have hb0 : 0 ≤ slot Mc b ∧ slot Mc b < Mc 20 1 := by omega
      refine sp_joinsAll hT (numI_acy hnum) hno rfl rfl ha0 hb0 (fun M1 so V a1 a2 a3 a4 a5 a6 a7 a8 => ?_)
      have hjo := jn_ok hT.2.1 hno a2 ha0 hb0 a3
      have h3 := fun M' => h3 M' so V ha0.1 hb0.1 a1 a3
      have h4 := fun M' => h4 M' so V ha0.1 hb0.1 a1 a3
      have h1 := fun M' => h1 M' so V ha0.1 hb0.1 a1 a3
      have e128 := frG_128 a8
      have o1 := frG_out a8
      generalize hJJ : jnF Mc pl so (slot Mc a) (slot Mc b) V = JJ at *
      simp only [px_go, px_Q0_at, px_sx_0, px_sx_s, px_cl, px_step, ↓px_ll, px_lg, f4_, ↓px_r1, ↓px_r2, ↓px_r4, ↓px_r5, ↓px_p1, ↓px_p2, ↓px_p3, ↓px_pop, px_k_0, px_k_s, px_k3_0, px_stk_, px_cats, px_ent, px_st1, px_st2, px_mask, ↓px_tsw, ↓px_lsw, ct_, mls_0, mls_1, mls_2, mls_3, mls_4, mls_5, kd_0, kd_1, kd_2, kd_3, ln_0, ln_1, ln_2, ln_3, gf_0, gf_1, gf_2, gf_3, gf_4, gf_7, gf_21, gf_63, dy_0, dy_1, dy_2, dy_3, dy_7, dy_21, px_brT, px_brF, true_and, and_true, and_false, false_and, and_self, true_implies, false_implies, or_true, true_or, or_false, false_or, eq_self, ne_eq, not_false_eq_true, not_true_eq_false, if_true, if_false, List.mem_cons, List.not_mem_nil, List.length_cons, List.length_nil, Nat.reduceEqDiff, Nat.reduceAdd, Nat.reduceSub, Nat.reduceLeDiff, Nat.reduceLT, Int.reduceEq, Int.reduceLT, Int.reduceLE, Int.reduceNeg, Int.reduceAdd, Int.reduceSub, Int.reduceToNat, ↓reduceIte, one_ne_zero_, zero_ne_one_, px_in32L, cd_245]
      refine lp_rj1 (M0 := M1) (J := JJ.1) (a := a) (b := b) (by rw [e128]; exact hT.1) a4 a7 (fun q hq => (hjo q hq).2.2) (fun M' z f => h3 M' z (by rw [frE_128 f, e128]) (out_trans (frE_out f) o1)) (fun M2 z f => ?_) 0 (by omega) M1 (Int.le_refl 0) (fun j j0 j1 => by omega) (frE_refl M1)
      have g128 : M2 128 = M 128 := by rw [frE_128 f, e128]
      have g26 : M2 127 26 = (JJ.1.length : Int) := by rw [f.1 26 (by decide) (by decide)]; exact a4.1
      have g27 : M2 127 27 = JJ.2 := by rw [f.1 27 (by decide) (by decide)]; exact a5
      have o2 := out_trans (frE_out f) o1
      have hJ2 : rJ M2 JJ.1 := rJ_frame a4 (f.1 26 (by decide) (by decide)) (frE_128 f) (f.2 142 (by decide) (by decide) (by decide) (by decide) (by decide)) (f.2 143 (by decide) (by decide) (by decide) (by decide) (by decide))
      refine px_go_ok (inl := []) 60 ?_
      simp only [px_go, px_Q0_at, px_sx_0, px_sx_s, px_cl, px_step, ↓px_ll, px_lg, f4_, ↓px_r1, ↓px_r2, ↓px_r4, ↓px_r5, ↓px_p1, ↓px_p2, ↓px_p3, ↓px_pop, px_k_0, px_k_s, px_k3_0, px_stk_, px_cats, px_ent, px_st1, px_st2, px_mask, ↓px_tsw, ↓px_lsw, ct_, mls_0, mls_1, mls_2, mls_3, mls_4, mls_5, kd_0, kd_1, kd_2, kd_3, ln_0, ln_1, ln_2, ln_3, gf_0, gf_1, gf_2, gf_3, gf_4, gf_7, gf_21, gf_63, dy_0, dy_1, dy_2, dy_3, dy_7, dy_21, px_brT, px_brF, true_and, and_true, and_false, false_and, and_self, true_implies, false_implies, or_true, true_or, or_false, false_or, eq_self, ne_eq, not_false_eq_true, not_true_eq_false, if_true, if_false, List.mem_cons, List.not_mem_nil, List.length_cons, List.length_nil, Nat.reduceEqDiff, Nat.reduceAdd, Nat.reduceSub, Nat.reduceLeDiff, Nat.reduceLT, Int.reduceEq, Int.reduceLT, Int.reduceLE, Int.reduceNeg, Int.reduceAdd, Int.reduceSub, Int.reduceToNat, ↓reduceIte, one_ne_zero_, zero_ne_one_, px_in32L, cd_245, g26]
      refine px_br_intro (fun _ => ?_) (fun c => by omega)
      repeat' (first | (with_reducible apply And.intro) | (with_reducible refine px_br_intro (fun _ => ?_) (fun _ => ?_)))
      all_goals (try (first | (unfold px_in32; omega) | omega))
      · rename_i c3
        refine lp_rj2 (M0 := M2) (J := JJ.1) (Mc := Mc) (a := a) (b := b) (c := JJ.2) (by rw [g128]; exact hT.1) hJ2 (by omega) g27 (fun q hq => ⟨(hjo q hq).2.1, isP_ne (hjo q hq).1, (hjo q hq).2.2, z q hq⟩) a6 (fun M3 w1 w2 w3 w4 w5 w6 => h1 M3 z (by omega) w1 a6 w2 w3 w4 (fun x x0 x1 x2 x4 x3 => by rw [w5 x x0 x1 x2 x4 x3, g128]) (out_trans (frC_out w6) o2)) 0 (by omega) _ (fun _ => ([], [])) (Int.le_refl 0) ⟨by rw [px_up_at, if_pos ⟨rfl, rfl⟩], Int.le_refl 0, by decide, fun i i0 i1 => by omega⟩ (fun x y x0 x1 y1 => by omega) (fun y => ⟨fun ⟨j, j0, j1, _⟩ => by omega, fun ⟨j, j0, j1, _⟩ => by omega⟩) (fun x x0 x1 => by rw [px_up_at, if_neg (fun z => x0 z.2)]) (fr8_C (fun b b0 => row_ne b0))
      · rename_i c3
        exact h4 M2 z (by omega) g128 o2
end PS
