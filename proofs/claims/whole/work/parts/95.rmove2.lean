set_option maxRecDepth 100000 in
/-- X12_laysMoved -/
theorem cd_229 : px_at 229 0 = some (1, [], .aload_n 0, []) ∧ px_at 229 1 = some (2, [], .iconst 0, []) ∧ px_at 229 2 = some (5, [], .putfield 245, [11, 20, 0, 0, 145]) ∧ px_at 229 5 = some (6, [], .iconst 0, []) ∧ px_at 229 6 = some (7, [], .istore_n 1, []) ∧ px_at 229 7 = some (8, [1, 1, 0, 0], .iload_n 1, []) ∧ px_at 229 8 = some (9, [], .aload_n 0, []) ∧ px_at 229 9 = some (12, [], .getfield 7, [11, 0, 2, 1, 125]) ∧ px_at 229 12 = some (13, [], .iconst 0, []) ∧ px_at 229 13 = some (14, [], .iaload, []) ∧ px_at 229 14 = some (17, [], .if_icmp .ge 107, [121]) ∧ px_at 229 17 = some (18, [], .aload_n 0, []) ∧ px_at 229 18 = some (21, [], .getfield 7, [11, 0, 2, 1, 125]) ∧ px_at 229 21 = some (22, [], .aload_n 0, []) ∧ px_at 229 22 = some (23, [], .iload_n 1, []) ∧ px_at 229 23 = some (26, [], .invokevirtual 196, [214, 1, 11, 229]) ∧ px_at 229 26 = some (27, [], .aload_n 0, []) ∧ px_at 229 27 = some (30, [], .getfield 20, [11, 4, 2, 1, 129]) ∧ px_at 229 30 = some (31, [], .iconst 0, []) ∧ px_at 229 31 = some (34, [], .invokestatic 104, [183, 4, 11, 233]) ∧ px_at 229 34 = some (37, [], .ifCond .ne 6, [40]) ∧ px_at 229 37 = some (40, [], .goto 78, [115]) ∧ px_at 229 40 = some (42, [], .bipush 54, []) ∧ px_at 229 42 = some (43, [], .aload_n 0, []) ∧ px_at 229 43 = some (46, [], .getfield 245, [11, 20, 0, 0, 145]) ∧ px_at 229 46 = some (47, [], .imul, []) ∧ px_at 229 47 = some (48, [], .istore_n 2, []) ∧ px_at 229 48 = some (49, [], .iconst 0, []) ∧ px_at 229 49 = some (50, [], .istore_n 3, []) ∧ px_at 229 50 = some (51, [1, 1, 1, 1], .iload_n 3, []) ∧ px_at 229 51 = some (53, [], .bipush 54, []) ∧ px_at 229 53 = some (56, [], .if_icmp .ge 29, [82]) ∧ px_at 229 56 = some (57, [], .aload_n 0, []) ∧ px_at 229 57 = some (60, [], .getfield 51, [11, 19, 2, 1, 144]) ∧ px_at 229 60 = some (61, [], .iload_n 2, []) ∧ px_at 229 61 = some (62, [], .iload_n 3, []) ∧ px_at 229 62 = some (63, [], .iadd, []) ∧ px_at 229 63 = some (64, [], .aload_n 0, []) ∧ px_at 229 64 = some (67, [], .getfield 7, [11, 0, 2, 1, 125]) ∧ px_at 229 67 = some (68, [], .aload_n 0, []) ∧ px_at 229 68 = some (69, [], .iload_n 1, []) ∧ px_at 229 69 = some (72, [], .invokevirtual 196, [214, 1, 11, 229]) ∧ px_at 229 72 = some (73, [], .iload_n 3, []) ∧ px_at 229 73 = some (74, [], .iadd, []) ∧ px_at 229 74 = some (75, [], .iaload, []) ∧ px_at 229 75 = some (76, [], .iastore, []) ∧ px_at 229 76 = some (79, [], .iinc 3 1, []) ∧ px_at 229 79 = some (82, [], .goto (-29), [50]) ∧ px_at 229 82 = some (83, [], .aload_n 0, []) ∧ px_at 229 83 = some (84, [], .aload_n 0, []) ∧ px_at 229 84 = some (85, [], .iload_n 1, []) ∧ px_at 229 85 = some (88, [], .invokevirtual 196, [214, 1, 11, 229]) ∧ px_at 229 88 = some (91, [], .invokevirtual 242, [227, 1, 11, 245]) ∧ px_at 229 91 = some (92, [], .pop, []) ∧ px_at 229 92 = some (93, [], .aload_n 0, []) ∧ px_at 229 93 = some (96, [], .getfield 26, [11, 6, 2, 1, 131]) ∧ px_at 229 96 = some (97, [], .iconst 0, []) ∧ px_at 229 97 = some (98, [], .aload_n 0, []) ∧ px_at 229 98 = some (101, [], .getfield 51, [11, 19, 2, 1, 144]) ∧ px_at 229 101 = some (102, [], .iload_n 2, []) ∧ px_at 229 102 = some (105, [], .invokestatic 203, [185, 4, 11, 236]) ∧ px_at 229 105 = some (106, [], .aload_n 0, []) ∧ px_at 229 106 = some (107, [], .aload_n 0, []) ∧ px_at 229 107 = some (110, [], .getfield 245, [11, 20, 0, 0, 145]) ∧ px_at 229 110 = some (111, [], .iconst 1, []) ∧ px_at 229 111 = some (112, [], .iadd, []) ∧ px_at 229 112 = some (115, [], .putfield 245, [11, 20, 0, 0, 145]) ∧ px_at 229 115 = some (118, [], .iinc 1 1, []) ∧ px_at 229 118 = some (121, [], .goto (-111), [7]) ∧ px_at 229 121 = some (122, [], .return_, []) := ⟨rfl, rfl, rfl, rfl, rfl, rfl, rfl, rfl, rfl, rfl, rfl, rfl, rfl, rfl, rfl, rfl, rfl, rfl, rfl, rfl, rfl, rfl, rfl, rfl, rfl, rfl, rfl, rfl, rfl, rfl, rfl, rfl, rfl, rfl, rfl, rfl, rfl, rfl, rfl, rfl, rfl, rfl, rfl, rfl, rfl, rfl, rfl, rfl, rfl, rfl, rfl, rfl, rfl, rfl, rfl, rfl, rfl, rfl, rfl, rfl, rfl, rfl, rfl, rfl, rfl, rfl, rfl, rfl, rfl, rfl⟩
set_option maxRecDepth 100000 in
/-- X12_putsMoved -/
theorem cd_230 : px_at 230 0 = some (1, [], .iconst 0, []) ∧ px_at 230 1 = some (2, [], .istore_n 1, []) ∧ px_at 230 2 = some (3, [1, 1, 0, 0], .iload_n 1, []) ∧ px_at 230 3 = some (4, [], .aload_n 0, []) ∧ px_at 230 4 = some (7, [], .getfield 245, [11, 20, 0, 0, 145]) ∧ px_at 230 7 = some (10, [], .if_icmp .ge 60, [67]) ∧ px_at 230 10 = some (11, [], .aload_n 0, []) ∧ px_at 230 11 = some (12, [], .aload_n 0, []) ∧ px_at 230 12 = some (15, [], .getfield 51, [11, 19, 2, 1, 144]) ∧ px_at 230 15 = some (17, [], .bipush 54, []) ∧ px_at 230 17 = some (18, [], .iload_n 1, []) ∧ px_at 230 18 = some (19, [], .imul, []) ∧ px_at 230 19 = some (22, [], .invokevirtual 228, [217, 2, 11, 234]) ∧ px_at 230 22 = some (23, [], .istore_n 2, []) ∧ px_at 230 23 = some (25, [], .bipush 13, []) ∧ px_at 230 25 = some (26, [], .istore_n 3, []) ∧ px_at 230 26 = some (27, [1, 1, 1, 1], .iload_n 3, []) ∧ px_at 230 27 = some (29, [], .bipush 54, []) ∧ px_at 230 29 = some (32, [], .if_icmp .ge 32, [61]) ∧ px_at 230 32 = some (33, [], .aload_n 0, []) ∧ px_at 230 33 = some (36, [], .getfield 7, [11, 0, 2, 1, 125]) ∧ px_at 230 36 = some (37, [], .aload_n 0, []) ∧ px_at 230 37 = some (38, [], .iload_n 2, []) ∧ px_at 230 38 = some (41, [], .invokevirtual 196, [214, 1, 11, 229]) ∧ px_at 230 41 = some (42, [], .iload_n 3, []) ∧ px_at 230 42 = some (43, [], .iadd, []) ∧ px_at 230 43 = some (44, [], .aload_n 0, []) ∧ px_at 230 44 = some (47, [], .getfield 51, [11, 19, 2, 1, 144]) ∧ px_at 230 47 = some (49, [], .bipush 54, []) ∧ px_at 230 49 = some (50, [], .iload_n 1, []) ∧ px_at 230 50 = some (51, [], .imul, []) ∧ px_at 230 51 = some (52, [], .iload_n 3, []) ∧ px_at 230 52 = some (53, [], .iadd, []) ∧ px_at 230 53 = some (54, [], .iaload, []) ∧ px_at 230 54 = some (55, [], .iastore, []) ∧ px_at 230 55 = some (58, [], .iinc 3 1, []) ∧ px_at 230 58 = some (61, [], .goto (-32), [26]) ∧ px_at 230 61 = some (64, [], .iinc 1 1, []) ∧ px_at 230 64 = some (67, [], .goto (-62), [2]) ∧ px_at 230 67 = some (68, [], .return_, []) := ⟨rfl, rfl, rfl, rfl, rfl, rfl, rfl, rfl, rfl, rfl, rfl, rfl, rfl, rfl, rfl, rfl, rfl, rfl, rfl, rfl, rfl, rfl, rfl, rfl, rfl, rfl, rfl, rfl, rfl, rfl, rfl, rfl, rfl, rfl, rfl, rfl, rfl, rfl, rfl, rfl⟩
/-! the reference: move, copy, on -/
/-- a file laid aside -/
def mvR (F : Int → Int) (m : Int) (x : fe) : Prop := okp x.1 ∧ x.1 ≠ [] ∧ pok F (54 * m) 648 ∧ fp F (54 * m) = x.1 ∧ F (54 * m + 13) = (x.2.length : Int) ∧ x.2.length ≤ 40 ∧ lst (fun k => F (54 * m + 14 + k)) (x.2.length : Int) = x.2 ∧ ∀ b ∈ x.2, 0 ≤ b ∧ b < 256
theorem mvR_at {F' F : Int → Int} {m : Int} {x : fe} (h : mvR F m x) (hm : 0 ≤ m ∧ m < 12) (he : ∀ y, 54 * m ≤ y → y < 54 * m + 54 → F' y = F y) : mvR F' m x := by
  obtain ⟨a1, a2, a3, a4, a5, a6, a7, a8⟩ := h
  have h1 : ∀ y, 0 ≤ y → y < 13 → F' (54 * m + y) = F (54 * m + y) := fun y y0 y1 => he _ (by omega) (by omega)
  refine ⟨a1, a2, pok_congr h1 a3 (by omega), ?_, ?_, a6, ?_, a8⟩
  · rw [fp_congr h1 a3.2.2.1]; exact a4
  · rw [he _ (by omega) (by omega)]; exact a5
  · rw [← a7, lst_len (by omega)]
    exact lst_congr (fun k k0 k1 => he _ (by omega) (by omega))
/-- files moved: those below f, with t in its place -/
def mvI (N : Int) (g : Int → fe) (f t : List Int) (i c : Int) (h : Int → fe) : Prop := c = sm i (fun j => b1 (wi (g j).1 f)) ∧ (∀ y, isM c h y ↔ ∃ j, 0 ≤ j ∧ j < i ∧ wi (g j).1 f ∧ y = (rnp f t (g j).1, (g j).2)) ∧ ∀ a b, 0 ≤ a → a < c → 0 ≤ b → b < c → (h a).1 = (h b).1 → a = b
theorem mvI_no {N i c : Int} {g h : Int → fe} {f t : List Int} (hI : mvI N g f t i c h) (i0 : 0 ≤ i) (hw : ¬ wi (g i).1 f) : mvI N g f t (i + 1) c h := by
  refine ⟨by rw [sm_w i0 _ (b1_f hw), Int.add_zero]; exact hI.1, fun y => ?_, hI.2.2⟩
  rw [hI.2.1 y]
  constructor
  · rintro ⟨j, j0, j1, j2⟩; exact ⟨j, j0, by omega, j2⟩
  · rintro ⟨j, j0, j1, j2, j3⟩
    by_cases q : j = i
    · rw [q] at j2; exact absurd j2 hw
    · exact ⟨j, j0, by omega, j2, j3⟩
theorem mvI_yes {N i c : Int} {g h : Int → fe} {f t : List Int} (hI : mvI N g f t i c h) (hso : srt N g) (i0 : 0 ≤ i) (i1 : i < N) (hw : wi (g i).1 f) (hok : ∀ j, 0 ≤ j → j < N → okp (g j).1) : mvI N g f t (i + 1) (c + 1) (stF h c (rnp f t (g i).1, (g i).2)) := by
  have c0 : 0 ≤ c := by rw [hI.1]; exact sm_0le (fun _ _ _ => (b1_rng _).1)
  have hne : ∀ a, 0 ≤ a → a < c → (h a).1 ≠ rnp f t (g i).1 := fun a a0 a1 e => by
    obtain ⟨j, j0, j1, j2, j3⟩ := (hI.2.1 (h a)).mp ⟨a, a0, a1, rfl⟩
    rw [j3] at e
    have := rnp_inj j2 hw e
    have := srt_ne hso j0 (by omega) i0 i1 (by rw [this])
    omega
  refine ⟨by rw [sm_w i0 _ (b1_t hw), hI.1], fun y => ?_, fun a b a0 a1 b0 b1' e => ?_⟩
  · rw [stF_isM c0, hI.2.1 y]
    constructor
    · rintro (⟨j, j0, j1, j2⟩ | z)
      · exact ⟨j, j0, by omega, j2⟩
      · exact ⟨i, i0, by omega, hw, z⟩
    · rintro ⟨j, j0, j1, j2, j3⟩
      by_cases q : j = i
      · right; rw [q] at j3; exact j3
      · exact Or.inl ⟨j, j0, by omega, j2, j3⟩
  · unfold stF at e
    by_cases p : a = c
    · by_cases q : b = c
      · omega
      · rw [if_pos p, if_neg q] at e
        exact absurd e.symm (hne b b0 (by omega))
    · by_cases q : b = c
      · rw [if_neg p, if_pos q] at e
        exact absurd e (hne a a0 (by omega))
      · rw [if_neg p, if_neg q] at e
        exact hI.2.2 a b a0 (by omega) b0 (by omega) e
section PS
variable {M : px_mem} {Q : Option pv → px_mem → Prop}
set_option maxHeartbeats 600000 in
set_option maxRecDepth 100000 in
theorem lp_lm2 {M0 : px_mem} {i c : Int} {X : fe} {f t : List Int} (hi : 0 ≤ i ∧ i < 12) (hc : 0 ≤ c ∧ c < 12) (h20 : M0 127 20 = c) (hX : fR (M0 128) i X) (hf : pth M0 131 f) (hfn : f ≠ []) (ht : pth M0 132 t) (htn : okp t) (hw : wi X.1 f) (hlen : (X.1.length : Int) - f.length + t.length ≤ 12) (htn2 : t ≠ []) (hx : ∀ M', M' 127 20 = c + 1 → (∀ j, j ≠ 20 → M' 127 j = M0 127 j) → mvR (M' 141) c (rnp f t X.1, X.2) → (∀ x, ¬ (54 * c ≤ x ∧ x < 54 * c + 54) → M' 141 x = M0 141 x) → (∀ b, b ≠ 127 → b ≠ 133 → b ≠ 141 → M' b = M0 b) → px_WP 229 0 0 (px_Q0 LAY Q) 7 [(2, 127), (0, i + 1), (9, 0), (9, 0)] [] LAY M' 0 0) (k : Int) (hk_k : k ≤ 54) : ∀ (M : px_mem), 0 ≤ k → (∀ x, M 141 x = if 54 * c ≤ x ∧ x < 54 * c + k then M0 128 (6 + 54 * i + (x - 54 * c)) else M0 141 x) → (∀ b, b ≠ 141 → M b = M0 b) → px_WP 229 0 0 (px_Q0 LAY Q) 50 [(2, 127), (0, i), (0, 54 * c), (0, k)] [] LAY M 0 0 := by
  refine up_ind (P := fun k => ∀ (M : px_mem), 0 ≤ k → (∀ x, M 141 x = if 54 * c ≤ x ∧ x < 54 * c + k then M0 128 (6 + 54 * i + (x - 54 * c)) else M0 141 x) → (∀ b, b ≠ 141 → M b = M0 b) → px_WP 229 0 0 (px_Q0 LAY Q) 50 [(2, 127), (0, i), (0, 54 * c), (0, k)] [] LAY M 0 0) (54) (fun k hk_k ih => ?_) k hk_k
  intro M k0 hv hfr
  have e128 := hfr 128 (by decide)
  have e131 := hfr 131 (by decide)
  have e132 := hfr 132 (by decide)
  have e127 := hfr 127 (by decide)
  refine px_go_ok (inl := [214]) 60 ?_
  simp only [px_go, px_Q0_at, px_sx_0, px_sx_s, px_cl, px_step, ↓px_ll, px_lg, f4_, ↓px_r1, ↓px_r2, ↓px_r4, ↓px_r5, ↓px_p1, ↓px_p2, ↓px_p3, ↓px_pop, px_k_0, px_k_s, px_k3_0, px_stk_, px_cats, px_ent, px_st1, px_st2, px_mask, ↓px_tsw, ↓px_lsw, ct_, mls_0, mls_1, mls_2, mls_3, mls_4, mls_5, kd_0, kd_1, kd_2, kd_3, ln_0, ln_1, ln_2, ln_3, gf_0, gf_1, gf_2, gf_3, gf_4, gf_7, gf_21, gf_63, dy_0, dy_1, dy_2, dy_3, dy_7, dy_21, px_brT, px_brF, true_and, and_true, and_false, false_and, and_self, true_implies, false_implies, or_true, true_or, or_false, false_or, eq_self, ne_eq, not_false_eq_true, not_true_eq_false, if_true, if_false, List.mem_cons, List.not_mem_nil, List.length_cons, List.length_nil, Nat.reduceEqDiff, Nat.reduceAdd, Nat.reduceSub, Nat.reduceLeDiff, Nat.reduceLT, Int.reduceEq, Int.reduceLT, Int.reduceLE, Int.reduceNeg, Int.reduceAdd, Int.reduceSub, Int.reduceToNat, ↓reduceIte, one_ne_zero_, zero_ne_one_, px_in32L, cd_229, cd_214, e128]
  repeat' (first | (with_reducible apply And.intro) | (with_reducible refine px_br_intro (fun _ => ?_) (fun _ => ?_)))
  all_goals (try (first | (unfold px_in32; omega) | omega))
  · rename_i c1
    have ek : k = 54 := by omega
    subst ek
    refine sp_turns (pth_frame hf e131) (pth_frame ht e132) hfn (by rw [e128]; exact hX.2.2.1) (by rw [e128]; exact hX.2.2.2.1) hw (fun z => by omega) (fun M1 _ a1 a2 => ?_)
    simp only [px_go, px_Q0_at, px_sx_0, px_sx_s, px_cl, px_step, ↓px_ll, px_lg, f4_, ↓px_r1, ↓px_r2, ↓px_r4, ↓px_r5, ↓px_p1, ↓px_p2, ↓px_p3, ↓px_pop, px_k_0, px_k_s, px_k3_0, px_stk_, px_cats, px_ent, px_st1, px_st2, px_mask, ↓px_tsw, ↓px_lsw, ct_, mls_0, mls_1, mls_2, mls_3, mls_4, mls_5, kd_0, kd_1, kd_2, kd_3, ln_0, ln_1, ln_2, ln_3, gf_0, gf_1, gf_2, gf_3, gf_4, gf_7, gf_21, gf_63, dy_0, dy_1, dy_2, dy_3, dy_7, dy_21, px_brT, px_brF, true_and, and_true, and_false, false_and, and_self, true_implies, false_implies, or_true, true_or, or_false, false_or, eq_self, ne_eq, not_false_eq_true, not_true_eq_false, if_true, if_false, List.mem_cons, List.not_mem_nil, List.length_cons, List.length_nil, Nat.reduceEqDiff, Nat.reduceAdd, Nat.reduceSub, Nat.reduceLeDiff, Nat.reduceLT, Int.reduceEq, Int.reduceLT, Int.reduceLE, Int.reduceNeg, Int.reduceAdd, Int.reduceSub, Int.reduceToNat, ↓reduceIte, one_ne_zero_, zero_ne_one_, px_in32L, cd_229, cd_214]
    refine sp_copiesPath rfl rfl ⟨Int.le_refl 0, by decide⟩ ⟨by omega, by rw [show px_ln LAY 141 = 648 from rfl]; omega⟩ ⟨by decide, by decide⟩ (Or.inl (by decide)) (fun M2 b1 b2 => ?_)
    have e20 : M2 127 20 = c := by rw [b2 127 (by decide), a2 127 (by decide), e127, h20]
    simp only [px_go, px_Q0_at, px_sx_0, px_sx_s, px_cl, px_step, ↓px_ll, px_lg, f4_, ↓px_r1, ↓px_r2, ↓px_r4, ↓px_r5, ↓px_p1, ↓px_p2, ↓px_p3, ↓px_pop, px_k_0, px_k_s, px_k3_0, px_stk_, px_cats, px_ent, px_st1, px_st2, px_mask, ↓px_tsw, ↓px_lsw, ct_, mls_0, mls_1, mls_2, mls_3, mls_4, mls_5, kd_0, kd_1, kd_2, kd_3, ln_0, ln_1, ln_2, ln_3, gf_0, gf_1, gf_2, gf_3, gf_4, gf_7, gf_21, gf_63, dy_0, dy_1, dy_2, dy_3, dy_7, dy_21, px_brT, px_brF, true_and, and_true, and_false, false_and, and_self, true_implies, false_implies, or_true, true_or, or_false, false_or, eq_self, ne_eq, not_false_eq_true, not_true_eq_false, if_true, if_false, List.mem_cons, List.not_mem_nil, List.length_cons, List.length_nil, Nat.reduceEqDiff, Nat.reduceAdd, Nat.reduceSub, Nat.reduceLeDiff, Nat.reduceLT, Int.reduceEq, Int.reduceLT, Int.reduceLE, Int.reduceNeg, Int.reduceAdd, Int.reduceSub, Int.reduceToNat, ↓reduceIte, one_ne_zero_, zero_ne_one_, px_in32L, cd_229, cd_214, e20]
    repeat' (first | (with_reducible apply And.intro) | (with_reducible refine px_br_intro (fun _ => ?_) (fun _ => ?_)))
    all_goals (try (first | (unfold px_in32; omega) | omega))
    have d141 : ∀ x, M2 141 x = if 54 * c ≤ x ∧ x < 54 * c + 13 then M1 133 (0 + (x - 54 * c)) else M 141 x := fun x => by rw [b1 x, a2 141 (by decide)]
    refine hx _ (by rw [px_up_at, if_pos ⟨rfl, rfl⟩]) (fun j j0 => by rw [px_up_at, if_neg (fun z => j0 z.2), b2 127 (by decide), a2 127 (by decide), e127]) ?_ (fun x x0 => ?_) (fun b b0 b1' b2' => by rw [row_ne b0, b2 b b2', a2 b b1', hfr b b2'])
    · rw [row_ne (by decide)]
      have he : ∀ y, 0 ≤ y → y < 13 → M2 141 (54 * c + y) = M1 133 (0 + y) := fun y y0 y1 => by rw [d141, if_pos (by omega), show 54 * c + y - 54 * c = y by omega]
      have hr : ∀ y, 13 ≤ y → y < 54 → M2 141 (54 * c + y) = M0 128 (6 + 54 * i + y) := fun y y0 y1 => by rw [d141, if_neg (by omega), hv, if_pos (by omega), show 54 * c + y - 54 * c = y by omega]
      refine ⟨rnp_okp hX.1 htn hlen hw, ?_, pok_congr he a1.2.2 (by omega), ?_, ?_, hX.2.2.2.2.2.1, ?_, hX.2.2.2.2.2.2.2⟩
      · unfold rnp
        intro z
        exact htn2 (List.append_eq_nil_iff.mp z).1
      · rw [fp_congr he a1.2.2.2.2.1]; exact a1.2.1
      · rw [hr 13 (by decide) (by decide)]; exact hX.2.2.2.2.1
      · have := hX.2.2.2.2.2.2.1
        have h40 := hX.2.2.2.2.2.1
        refine Eq.trans (lst_congr (fun j j0 j1 => ?_)) this
        have j2 : j < (X.2.length : Int) := j1
        rw [Int.add_assoc, hr (14 + j) (by omega) (by omega), ← Int.add_assoc]
    · rw [row_ne (by decide), d141, if_neg (by omega), hv, if_neg (by omega)]
  · rename_i c1
    refine ih (by omega) _ (by omega) (fun x => ?_) (fun b b0 => by rw [row_ne b0]; exact hfr b b0)
    rw [px_up_at, hv x]
    by_cases q : x = 54 * c + k
    · rw [if_pos ⟨rfl, q⟩, if_pos (by omega), show x - 54 * c = k by omega]
    · rw [if_neg (fun z => q z.2)]
      by_cases r : 54 * c ≤ x ∧ x < 54 * c + k
      · rw [if_pos r, if_pos (by omega)]
      · rw [if_neg r, if_neg (by omega)]
/-- laid aside: what it leaves alone -/
def frM (M' M : px_mem) : Prop := (∀ j, j ≠ 20 → M' 127 j = M 127 j) ∧ ∀ b, b ≠ 127 → b ≠ 133 → b ≠ 141 → M' b = M b
set_option maxHeartbeats 600000 in
set_option maxRecDepth 100000 in
theorem lp_lm1 {M0 : px_mem} {N : Int} {g : Int → fe} {f t : List Int} (hst : sR (M0 128) N g) (hso : srt N g) (hf : pth M0 131 f) (hfn : f ≠ []) (ht : pth M0 132 t) (htk : okp t) (htn : t ≠ []) (hcan : ∀ i, 0 ≤ i → i < N → wi (g i).1 f → ((g i).1.length : Int) - f.length + t.length ≤ 12) (hx : ∀ M' h, mvI N g f t N (M' 127 20) h → (∀ m, 0 ≤ m → m < M' 127 20 → mvR (M' 141) m (h m)) → frM M' M0 → Q none M') (i : Int) (hk_i : i ≤ N) : ∀ (M : px_mem) (h : Int → fe), 0 ≤ i → mvI N g f t i (M 127 20) h → (∀ m, 0 ≤ m → m < M 127 20 → mvR (M 141) m (h m)) → frM M M0 → px_WP 229 0 0 (px_Q0 LAY Q) 7 [(2, 127), (0, i), (9, 0), (9, 0)] [] LAY M 0 0 := by
  refine up_ind (P := fun i => ∀ (M : px_mem) (h : Int → fe), 0 ≤ i → mvI N g f t i (M 127 20) h → (∀ m, 0 ≤ m → m < M 127 20 → mvR (M 141) m (h m)) → frM M M0 → px_WP 229 0 0 (px_Q0 LAY Q) 7 [(2, 127), (0, i), (9, 0), (9, 0)] [] LAY M 0 0) (N) (fun i hk_i ih => ?_) i hk_i
  intro M h i0 hI hmv hfr
  have e128 := hfr.2 128 (by decide) (by decide) (by decide)
  have e131 := hfr.2 131 (by decide) (by decide) (by decide)
  have e132 := hfr.2 132 (by decide) (by decide) (by decide)
  have hF0 := hst.1
  have h2 := hst.2.1
  have hn3 := hst.2.2.1
  have hfl : 0 < M0 131 0 := by rw [hf.1]; have := List.length_pos_iff.mpr hfn; omega
  have hcb := sm_bnd (n := i) (c := 1) (f := fun j => b1 (wi (g j).1 f)) i0 (fun _ _ _ => b1_rng _)
  rw [← hI.1] at hcb
  refine px_go_ok (inl := [214]) 60 ?_
  simp only [px_go, px_Q0_at, px_sx_0, px_sx_s, px_cl, px_step, ↓px_ll, px_lg, f4_, ↓px_r1, ↓px_r2, ↓px_r4, ↓px_r5, ↓px_p1, ↓px_p2, ↓px_p3, ↓px_pop, px_k_0, px_k_s, px_k3_0, px_stk_, px_cats, px_ent, px_st1, px_st2, px_mask, ↓px_tsw, ↓px_lsw, ct_, mls_0, mls_1, mls_2, mls_3, mls_4, mls_5, kd_0, kd_1, kd_2, kd_3, ln_0, ln_1, ln_2, ln_3, gf_0, gf_1, gf_2, gf_3, gf_4, gf_7, gf_21, gf_63, dy_0, dy_1, dy_2, dy_3, dy_7, dy_21, px_brT, px_brF, true_and, and_true, and_false, false_and, and_self, true_implies, false_implies, or_true, true_or, or_false, false_or, eq_self, ne_eq, not_false_eq_true, not_true_eq_false, if_true, if_false, List.mem_cons, List.not_mem_nil, List.length_cons, List.length_nil, Nat.reduceEqDiff, Nat.reduceAdd, Nat.reduceSub, Nat.reduceLeDiff, Nat.reduceLT, Int.reduceEq, Int.reduceLT, Int.reduceLE, Int.reduceNeg, Int.reduceAdd, Int.reduceSub, Int.reduceToNat, ↓reduceIte, one_ne_zero_, zero_ne_one_, px_in32L, cd_229, cd_214, e128, hF0]
  repeat' (first | (with_reducible apply And.intro) | (with_reducible refine px_br_intro (fun _ => ?_) (fun _ => ?_)))
  all_goals (try (first | (unfold px_in32; omega) | omega))
  · rename_i c1
    rw [show i = N by omega] at hI
    exact hx M h hI hmv hfr
  · rename_i c1
    have fk := hst.2.2.2 i i0 (by omega)
    refine sp_isUnder rfl rfl (by rw [e128]; exact fk.2.2.1) (by rw [e131]; exact hf.2.2) ⟨by decide, by decide⟩ (by rw [e131]; exact hfl) (fun w => ?_) (fun w => ?_)
    · rw [e128, e131, fk.2.2.2.1, hf.2.1] at w
      simp only [px_go, px_Q0_at, px_sx_0, px_sx_s, px_cl, px_step, ↓px_ll, px_lg, f4_, ↓px_r1, ↓px_r2, ↓px_r4, ↓px_r5, ↓px_p1, ↓px_p2, ↓px_p3, ↓px_pop, px_k_0, px_k_s, px_k3_0, px_stk_, px_cats, px_ent, px_st1, px_st2, px_mask, ↓px_tsw, ↓px_lsw, ct_, mls_0, mls_1, mls_2, mls_3, mls_4, mls_5, kd_0, kd_1, kd_2, kd_3, ln_0, ln_1, ln_2, ln_3, gf_0, gf_1, gf_2, gf_3, gf_4, gf_7, gf_21, gf_63, dy_0, dy_1, dy_2, dy_3, dy_7, dy_21, px_brT, px_brF, true_and, and_true, and_false, false_and, and_self, true_implies, false_implies, or_true, true_or, or_false, false_or, eq_self, ne_eq, not_false_eq_true, not_true_eq_false, if_true, if_false, List.mem_cons, List.not_mem_nil, List.length_cons, List.length_nil, Nat.reduceEqDiff, Nat.reduceAdd, Nat.reduceSub, Nat.reduceLeDiff, Nat.reduceLT, Int.reduceEq, Int.reduceLT, Int.reduceLE, Int.reduceNeg, Int.reduceAdd, Int.reduceSub, Int.reduceToNat, ↓reduceIte, one_ne_zero_, zero_ne_one_, px_in32L, cd_229, cd_214]
      repeat' (first | (with_reducible apply And.intro) | (with_reducible refine px_br_intro (fun _ => ?_) (fun _ => ?_)))
      all_goals (try (first | (unfold px_in32; omega) | omega))
      refine lp_lm2 (M0 := M) (i := i) (c := M 127 20) (X := g i) (f := f) (t := t) ⟨i0, by omega⟩ ⟨by omega, by omega⟩ rfl (by rw [e128]; exact fk) (pth_frame hf e131) hfn (pth_frame ht e132) htk w (hcan i i0 (by omega) w) htn (fun M' a1 a2 a3 a4 a5 => ?_) 0 (by decide) M (Int.le_refl 0) (fun x => by rw [if_neg (by omega)]) (fun _ _ => rfl)
      refine ih (by omega) M' (stF h (M 127 20) (rnp f t (g i).1, (g i).2)) (by omega) (by rw [a1]; exact mvI_yes hI hso i0 (by omega) w (fun j j0 j1 => (hst.2.2.2 j j0 j1).1)) (fun m m0 m1 => ?_) ⟨fun j j0 => by rw [a2 j j0, hfr.1 j j0], fun b b0 b1' b2' => by rw [a5 b b0 b1' b2', hfr.2 b b0 b1' b2']⟩
      rw [a1] at m1
      unfold stF
      by_cases q : m = M 127 20
      · rw [if_pos q, q]; exact a3
      · rw [if_neg q]
        exact mvR_at (hmv m m0 (by omega)) ⟨m0, by omega⟩ (fun y y0 y1 => a4 y (by omega))
    · rw [e128, e131, fk.2.2.2.1, hf.2.1] at w
      simp only [px_go, px_Q0_at, px_sx_0, px_sx_s, px_cl, px_step, ↓px_ll, px_lg, f4_, ↓px_r1, ↓px_r2, ↓px_r4, ↓px_r5, ↓px_p1, ↓px_p2, ↓px_p3, ↓px_pop, px_k_0, px_k_s, px_k3_0, px_stk_, px_cats, px_ent, px_st1, px_st2, px_mask, ↓px_tsw, ↓px_lsw, ct_, mls_0, mls_1, mls_2, mls_3, mls_4, mls_5, kd_0, kd_1, kd_2, kd_3, ln_0, ln_1, ln_2, ln_3, gf_0, gf_1, gf_2, gf_3, gf_4, gf_7, gf_21, gf_63, dy_0, dy_1, dy_2, dy_3, dy_7, dy_21, px_brT, px_brF, true_and, and_true, and_false, false_and, and_self, true_implies, false_implies, or_true, true_or, or_false, false_or, eq_self, ne_eq, not_false_eq_true, not_true_eq_false, if_true, if_false, List.mem_cons, List.not_mem_nil, List.length_cons, List.length_nil, Nat.reduceEqDiff, Nat.reduceAdd, Nat.reduceSub, Nat.reduceLeDiff, Nat.reduceLT, Int.reduceEq, Int.reduceLT, Int.reduceLE, Int.reduceNeg, Int.reduceAdd, Int.reduceSub, Int.reduceToNat, ↓reduceIte, one_ne_zero_, zero_ne_one_, px_in32L, cd_229, cd_214]
      repeat' (first | (with_reducible apply And.intro) | (with_reducible refine px_br_intro (fun _ => ?_) (fun _ => ?_)))
      all_goals (try (first | (unfold px_in32; omega) | omega))
      exact ih (by omega) M h (by omega) (mvI_no hI i0 w) hmv hfr
set_option maxHeartbeats 600000 in
set_option maxRecDepth 100000 in
theorem sp_laysMoved {N : Int} {g : Int → fe} {f t : List Int} (hst : sR (M 128) N g) (hso : srt N g) (hf : pth M 131 f) (hfn : f ≠ []) (ht : pth M 132 t) (htk : okp t) (htn : t ≠ []) (hcan : ∀ i, 0 ≤ i → i < N → wi (g i).1 f → ((g i).1.length : Int) - f.length + t.length ≤ 12) (hx : ∀ M' h, mvI N g f t N (M' 127 20) h → (∀ m, 0 ≤ m → m < M' 127 20 → mvR (M' 141) m (h m)) → frM M' M → Q none M') : px_Ok 229 [(2, 127)] LAY M Q := by
  refine px_ok_go (inl := []) (ls0 := [(2, 127), (9, 0), (9, 0), (9, 0)]) 60 (by decide) (Nat.le_of_ble_eq_true rfl) rfl ?_
  simp only [px_go, px_Q0_at, px_sx_0, px_sx_s, px_cl, px_step, ↓px_ll, px_lg, f4_, ↓px_r1, ↓px_r2, ↓px_r4, ↓px_r5, ↓px_p1, ↓px_p2, ↓px_p3, ↓px_pop, px_k_0, px_k_s, px_k3_0, px_stk_, px_cats, px_ent, px_st1, px_st2, px_mask, ↓px_tsw, ↓px_lsw, ct_, mls_0, mls_1, mls_2, mls_3, mls_4, mls_5, kd_0, kd_1, kd_2, kd_3, ln_0, ln_1, ln_2, ln_3, gf_0, gf_1, gf_2, gf_3, gf_4, gf_7, gf_21, gf_63, dy_0, dy_1, dy_2, dy_3, dy_7, dy_21, px_brT, px_brF, true_and, and_true, and_false, false_and, and_self, true_implies, false_implies, or_true, true_or, or_false, false_or, eq_self, ne_eq, not_false_eq_true, not_true_eq_false, if_true, if_false, List.mem_cons, List.not_mem_nil, List.length_cons, List.length_nil, Nat.reduceEqDiff, Nat.reduceAdd, Nat.reduceSub, Nat.reduceLeDiff, Nat.reduceLT, Int.reduceEq, Int.reduceLT, Int.reduceLE, Int.reduceNeg, Int.reduceAdd, Int.reduceSub, Int.reduceToNat, ↓reduceIte, one_ne_zero_, zero_ne_one_, px_in32L, cd_229]
  repeat' (first | (with_reducible apply And.intro) | (with_reducible refine px_br_intro (fun _ => ?_) (fun _ => ?_)))
  all_goals (try (first | (unfold px_in32; omega) | omega))
  have e0 : px_up M 127 20 0 127 20 = 0 := by rw [px_up_at, if_pos ⟨rfl, rfl⟩]
  refine lp_lm1 (M0 := M) hst hso hf hfn ht htk htn hcan hx 0 hst.2.1 _ (fun _ => ([], [])) (Int.le_refl 0) ⟨by rw [e0]; rfl, fun y => ?_, fun a b a0 a1 => by rw [e0] at a1; omega⟩ (fun m m0 m1 => by rw [e0] at m1; omega) ⟨fun j j0 => by rw [px_up_at, if_neg (fun z => j0 z.2)], fun b b0 _ _ => row_ne b0⟩
  rw [e0]
  exact ⟨fun ⟨j, j0, j1, _⟩ => by omega, fun ⟨j, j0, j1, _⟩ => by omega⟩
set_option maxHeartbeats 600000 in
set_option maxRecDepth 100000 in
theorem lp_pm2 {M0 : px_mem} {i m : Int} {x : fe} (hi : 0 ≤ i ∧ i < 12) (hm : 0 ≤ m ∧ m < 12) (hX : mvR (M0 141) m x) (hx : ∀ M', slf (M' 128) (M0 128) i x.2 → (∀ b, b ≠ 128 → M' b = M0 b) → px_WP 230 0 0 (px_Q0 LAY Q) 2 [(2, 127), (0, m + 1), (9, 0), (9, 0)] [] LAY M' 0 0) (k : Int) (hk_k : k ≤ 54) : ∀ (M : px_mem), 13 ≤ k → (∀ x, M 128 x = if 6 + 54 * i + 13 ≤ x ∧ x < 6 + 54 * i + k then M0 141 (54 * m + (x - (6 + 54 * i))) else M0 128 x) → (∀ b, b ≠ 128 → M b = M0 b) → px_WP 230 0 0 (px_Q0 LAY Q) 26 [(2, 127), (0, m), (0, i), (0, k)] [] LAY M 0 0 := by
  refine up_ind (P := fun k => ∀ (M : px_mem), 13 ≤ k → (∀ x, M 128 x = if 6 + 54 * i + 13 ≤ x ∧ x < 6 + 54 * i + k then M0 141 (54 * m + (x - (6 + 54 * i))) else M0 128 x) → (∀ b, b ≠ 128 → M b = M0 b) → px_WP 230 0 0 (px_Q0 LAY Q) 26 [(2, 127), (0, m), (0, i), (0, k)] [] LAY M 0 0) (54) (fun k hk_k ih => ?_) k hk_k
  intro M k0 hv hfr
  have e141 := hfr 141 (by decide)
  refine px_go_ok (inl := [214]) 60 ?_
  simp only [px_go, px_Q0_at, px_sx_0, px_sx_s, px_cl, px_step, ↓px_ll, px_lg, f4_, ↓px_r1, ↓px_r2, ↓px_r4, ↓px_r5, ↓px_p1, ↓px_p2, ↓px_p3, ↓px_pop, px_k_0, px_k_s, px_k3_0, px_stk_, px_cats, px_ent, px_st1, px_st2, px_mask, ↓px_tsw, ↓px_lsw, ct_, mls_0, mls_1, mls_2, mls_3, mls_4, mls_5, kd_0, kd_1, kd_2, kd_3, ln_0, ln_1, ln_2, ln_3, gf_0, gf_1, gf_2, gf_3, gf_4, gf_7, gf_21, gf_63, dy_0, dy_1, dy_2, dy_3, dy_7, dy_21, px_brT, px_brF, true_and, and_true, and_false, false_and, and_self, true_implies, false_implies, or_true, true_or, or_false, false_or, eq_self, ne_eq, not_false_eq_true, not_true_eq_false, if_true, if_false, List.mem_cons, List.not_mem_nil, List.length_cons, List.length_nil, Nat.reduceEqDiff, Nat.reduceAdd, Nat.reduceSub, Nat.reduceLeDiff, Nat.reduceLT, Int.reduceEq, Int.reduceLT, Int.reduceLE, Int.reduceNeg, Int.reduceAdd, Int.reduceSub, Int.reduceToNat, ↓reduceIte, one_ne_zero_, zero_ne_one_, px_in32L, cd_230, cd_214, e141]
  repeat' (first | (with_reducible apply And.intro) | (with_reducible refine px_br_intro (fun _ => ?_) (fun _ => ?_)))
  all_goals (try (first | (unfold px_in32; omega) | omega))
  · rename_i c1
    have ek : k = 54 := by omega
    subst ek
    have h40 := hX.2.2.2.2.2.1
    refine hx M ⟨fun y y0 => by rw [hv, if_neg (by omega)], ?_, ?_⟩ hfr
    · rw [hv, if_pos (by omega), show 6 + 54 * i + 13 - (6 + 54 * i) = 13 by omega]; exact hX.2.2.2.2.1
    · refine Eq.trans (lst_congr (fun j j0 j1 => ?_)) hX.2.2.2.2.2.2.1
      rw [hv, if_pos (by omega), show 54 * m + (6 + 54 * i + 14 + j - (6 + 54 * i)) = 54 * m + 14 + j by omega]
  · rename_i c1
    refine ih (by omega) _ (by omega) (fun x => ?_) (fun b b0 => by rw [row_ne b0]; exact hfr b b0)
    rw [px_up_at, hv x]
    by_cases q : x = 6 + 54 * i + k
    · rw [if_pos ⟨rfl, q⟩, if_pos (by omega), show x - (6 + 54 * i) = k by omega]
    · rw [if_neg (fun z => q z.2)]
      by_cases r : 6 + 54 * i + 13 ≤ x ∧ x < 6 + 54 * i + k
      · rw [if_pos r, if_pos (by omega)]
      · rw [if_neg r, if_neg (by omega)]
set_option maxHeartbeats 600000 in
set_option maxRecDepth 100000 in
theorem lp_pm1 {M0 : px_mem} {N c : Int} {g h : Int → fe} (hc : c = M0 127 20) (hN : 0 ≤ N ∧ N + c ≤ 12) (hmv : ∀ m, 0 ≤ m → m < c → mvR (M0 141) m (h m)) (hd1 : ∀ i m, 0 ≤ i → i < N → 0 ≤ m → m < c → (g i).1 ≠ (h m).1) (hd2 : ∀ a b, 0 ≤ a → a < c → 0 ≤ b → b < c → (h a).1 = (h b).1 → a = b) (hx : ∀ M' g', sR (M' 128) (N + c) g' → srt (N + c) g' → (∀ y, isM (N + c) g' y ↔ (isM N g y ∨ isM c h y)) → frf (M' 128) (M0 128) → (∀ b, b ≠ 128 → M' b = M0 b) → Q none M') (m : Int) (hk_m : m ≤ c) : ∀ (M : px_mem) (g' : Int → fe), 0 ≤ m → sR (M 128) (N + m) g' → srt (N + m) g' → (∀ y, isM (N + m) g' y ↔ (isM N g y ∨ isM m h y)) → frf (M 128) (M0 128) → (∀ b, b ≠ 128 → M b = M0 b) → px_WP 230 0 0 (px_Q0 LAY Q) 2 [(2, 127), (0, m), (9, 0), (9, 0)] [] LAY M 0 0 := by
  refine up_ind (P := fun m => ∀ (M : px_mem) (g' : Int → fe), 0 ≤ m → sR (M 128) (N + m) g' → srt (N + m) g' → (∀ y, isM (N + m) g' y ↔ (isM N g y ∨ isM m h y)) → frf (M 128) (M0 128) → (∀ b, b ≠ 128 → M b = M0 b) → px_WP 230 0 0 (px_Q0 LAY Q) 2 [(2, 127), (0, m), (9, 0), (9, 0)] [] LAY M 0 0) (c) (fun m hk_m ih => ?_) m hk_m
  intro M g' m0 hst hso hm hff hfr
  have e141 := hfr 141 (by decide)
  have e127 : M 127 20 = c := by rw [hfr 127 (by decide), hc]
  refine px_go_ok (inl := []) 60 ?_
  simp only [px_go, px_Q0_at, px_sx_0, px_sx_s, px_cl, px_step, ↓px_ll, px_lg, f4_, ↓px_r1, ↓px_r2, ↓px_r4, ↓px_r5, ↓px_p1, ↓px_p2, ↓px_p3, ↓px_pop, px_k_0, px_k_s, px_k3_0, px_stk_, px_cats, px_ent, px_st1, px_st2, px_mask, ↓px_tsw, ↓px_lsw, ct_, mls_0, mls_1, mls_2, mls_3, mls_4, mls_5, kd_0, kd_1, kd_2, kd_3, ln_0, ln_1, ln_2, ln_3, gf_0, gf_1, gf_2, gf_3, gf_4, gf_7, gf_21, gf_63, dy_0, dy_1, dy_2, dy_3, dy_7, dy_21, px_brT, px_brF, true_and, and_true, and_false, false_and, and_self, true_implies, false_implies, or_true, true_or, or_false, false_or, eq_self, ne_eq, not_false_eq_true, not_true_eq_false, if_true, if_false, List.mem_cons, List.not_mem_nil, List.length_cons, List.length_nil, Nat.reduceEqDiff, Nat.reduceAdd, Nat.reduceSub, Nat.reduceLeDiff, Nat.reduceLT, Int.reduceEq, Int.reduceLT, Int.reduceLE, Int.reduceNeg, Int.reduceAdd, Int.reduceSub, Int.reduceToNat, ↓reduceIte, one_ne_zero_, zero_ne_one_, px_in32L, cd_230, e127]
  repeat' (first | (with_reducible apply And.intro) | (with_reducible refine px_br_intro (fun _ => ?_) (fun _ => ?_)))
  all_goals (try (first | (unfold px_in32; omega) | omega))
  · rename_i c1
    have e : m = c := by omega
    subst e
    exact hx M g' hst hso hm hff hfr
  · rename_i c1
    have mv := hmv m m0 (by omega)
    refine sp_opens hst hso (by omega) rfl (by rw [e141]; exact mv.2.2.1) (by decide) (Or.inl (by decide)) (by rw [e141, mv.2.2.2.1]; exact mv.1) (fun M1 i i0 i1 a1 a2 a3 a4 => ?_)
    rw [e141, mv.2.2.2.1] at a1 a2
    simp only [px_go, px_Q0_at, px_sx_0, px_sx_s, px_cl, px_step, ↓px_ll, px_lg, f4_, ↓px_r1, ↓px_r2, ↓px_r4, ↓px_r5, ↓px_p1, ↓px_p2, ↓px_p3, ↓px_pop, px_k_0, px_k_s, px_k3_0, px_stk_, px_cats, px_ent, px_st1, px_st2, px_mask, ↓px_tsw, ↓px_lsw, ct_, mls_0, mls_1, mls_2, mls_3, mls_4, mls_5, kd_0, kd_1, kd_2, kd_3, ln_0, ln_1, ln_2, ln_3, gf_0, gf_1, gf_2, gf_3, gf_4, gf_7, gf_21, gf_63, dy_0, dy_1, dy_2, dy_3, dy_7, dy_21, px_brT, px_brF, true_and, and_true, and_false, false_and, and_self, true_implies, false_implies, or_true, true_or, or_false, false_or, eq_self, ne_eq, not_false_eq_true, not_true_eq_false, if_true, if_false, List.mem_cons, List.not_mem_nil, List.length_cons, List.length_nil, Nat.reduceEqDiff, Nat.reduceAdd, Nat.reduceSub, Nat.reduceLeDiff, Nat.reduceLT, Int.reduceEq, Int.reduceLT, Int.reduceLE, Int.reduceNeg, Int.reduceAdd, Int.reduceSub, Int.reduceToNat, ↓reduceIte, one_ne_zero_, zero_ne_one_, px_in32L, cd_230]
    refine lp_pm2 (M0 := M1) (i := i) (m := m) (x := h m) ⟨i0, by omega⟩ ⟨m0, by omega⟩ (by rw [a4 141 (by decide), e141]; exact mv) (fun M2 b1 b2 => ?_) 13 (by decide) M1 (Int.le_refl 13) (fun x => by rw [if_neg (by omega)]) (fun _ _ => rfl)
    have hA := ins_all (x := h m) hst hso (by omega) i0 i1 a1 a2 (fun j j0 j1 => ?_) a3 b1 ⟨mv.1, mv.2.1, mv.2.2.2.2.2.1, mv.2.2.2.2.2.2.2⟩ (by rw [e141]; exact pok_congr (b := 54 * m) (fun y y0 y1 => by simp only [Int.zero_add]) mv.2.2.1 ⟨Int.le_refl 0, by decide⟩) (by rw [e141, ← mv.2.2.2.1]; exact fp_congr (fun y y0 y1 => by simp only [Int.zero_add]) mv.2.2.1.2.2.1)
    · rw [Int.add_assoc] at hA
      refine ih (by omega) M2 _ (by omega) hA.1 hA.2.1 (fun y => ?_) (frf_trans hA.2.2.2 hff) (fun b b0 => by rw [b2 b b0, a4 b b0, hfr b b0])
      rw [hA.2.2.1 y, hm y]
      constructor
      · rintro ((z | z) | z)
        · exact Or.inl z
        · obtain ⟨j, j0, j1, j2⟩ := z
          exact Or.inr ⟨j, j0, by omega, j2⟩
        · exact Or.inr ⟨m, m0, by omega, z.symm⟩
      · rintro (z | ⟨j, j0, j1, j2⟩)
        · exact Or.inl (Or.inl z)
        · by_cases q : j = m
          · right; rw [← j2, q]
          · exact Or.inl (Or.inr ⟨j, j0, by omega, j2⟩)
    · intro e
      rcases (hm (g' j)).mp ⟨j, j0, j1, rfl⟩ with ⟨l, l0, l1, l2⟩ | ⟨l, l0, l1, l2⟩
      · exact hd1 l m l0 l1 m0 (by omega) (by rw [l2]; exact e)
      · have := hd2 l m l0 (by omega) m0 (by omega) (by rw [l2]; exact e)
        omega
set_option maxHeartbeats 600000 in
set_option maxRecDepth 100000 in
theorem sp_putsMoved {N c : Int} {g h : Int → fe} (hst : sR (M 128) N g) (hso : srt N g) (hc : c = M 127 20 ∧ 0 ≤ c) (hN : N + c ≤ 12) (hmv : ∀ m, 0 ≤ m → m < c → mvR (M 141) m (h m)) (hd1 : ∀ i m, 0 ≤ i → i < N → 0 ≤ m → m < c → (g i).1 ≠ (h m).1) (hd2 : ∀ a b, 0 ≤ a → a < c → 0 ≤ b → b < c → (h a).1 = (h b).1 → a = b) (hx : ∀ M' g', sR (M' 128) (N + c) g' → srt (N + c) g' → (∀ y, isM (N + c) g' y ↔ (isM N g y ∨ isM c h y)) → frf (M' 128) (M 128) → (∀ b, b ≠ 128 → M' b = M b) → Q none M') : px_Ok 230 [(2, 127)] LAY M Q := by
  refine px_ok_go (inl := []) (ls0 := [(2, 127), (9, 0), (9, 0), (9, 0)]) 60 (by decide) (Nat.le_of_ble_eq_true rfl) rfl ?_
  simp only [px_go, px_Q0_at, px_sx_0, px_sx_s, px_cl, px_step, ↓px_ll, px_lg, f4_, ↓px_r1, ↓px_r2, ↓px_r4, ↓px_r5, ↓px_p1, ↓px_p2, ↓px_p3, ↓px_pop, px_k_0, px_k_s, px_k3_0, px_stk_, px_cats, px_ent, px_st1, px_st2, px_mask, ↓px_tsw, ↓px_lsw, ct_, mls_0, mls_1, mls_2, mls_3, mls_4, mls_5, kd_0, kd_1, kd_2, kd_3, ln_0, ln_1, ln_2, ln_3, gf_0, gf_1, gf_2, gf_3, gf_4, gf_7, gf_21, gf_63, dy_0, dy_1, dy_2, dy_3, dy_7, dy_21, px_brT, px_brF, true_and, and_true, and_false, false_and, and_self, true_implies, false_implies, or_true, true_or, or_false, false_or, eq_self, ne_eq, not_false_eq_true, not_true_eq_false, if_true, if_false, List.mem_cons, List.not_mem_nil, List.length_cons, List.length_nil, Nat.reduceEqDiff, Nat.reduceAdd, Nat.reduceSub, Nat.reduceLeDiff, Nat.reduceLT, Int.reduceEq, Int.reduceLT, Int.reduceLE, Int.reduceNeg, Int.reduceAdd, Int.reduceSub, Int.reduceToNat, ↓reduceIte, one_ne_zero_, zero_ne_one_, px_in32L, cd_230]
  repeat' (first | (with_reducible apply And.intro) | (with_reducible refine px_br_intro (fun _ => ?_) (fun _ => ?_)))
  all_goals (try (first | (unfold px_in32; omega) | omega))
  exact lp_pm1 (M0 := M) hc.1 ⟨hst.2.1, hN⟩ hmv hd1 hd2 hx 0 hc.2 M g (Int.le_refl 0) (by rw [Int.add_zero]; exact hst) (by rw [Int.add_zero]; exact hso) (fun y => by rw [Int.add_zero]; exact ⟨Or.inl, fun z => z.elim id (fun ⟨j, j0, j1, _⟩ => by omega)⟩) (frf_refl _) (fun _ _ => rfl)
end PS
