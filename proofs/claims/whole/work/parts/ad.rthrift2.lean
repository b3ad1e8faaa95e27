set_option maxRecDepth 100000 in
/-- X12_laysAnew -/
theorem cd_267 : px_at 267 0 = some (1, [], .aload_n 0, []) ∧ px_at 267 1 = some (2, [], .iconst 0, []) ∧ px_at 267 2 = some (5, [], .putfield 356, [11, 31, 0, 0, 156]) ∧ px_at 267 5 = some (6, [], .aload_n 0, []) ∧ px_at 267 6 = some (7, [], .iconst 0, []) ∧ px_at 267 7 = some (10, [], .putfield 359, [11, 32, 0, 0, 157]) ∧ px_at 267 10 = some (11, [], .iconst 0, []) ∧ px_at 267 11 = some (12, [], .istore_n 1, []) ∧ px_at 267 12 = some (13, [1, 1, 0], .iload_n 1, []) ∧ px_at 267 13 = some (15, [], .bipush 40, []) ∧ px_at 267 15 = some (18, [], .if_icmp .ge 109, [124]) ∧ px_at 267 18 = some (19, [], .aload_n 0, []) ∧ px_at 267 19 = some (20, [], .iload_n 1, []) ∧ px_at 267 20 = some (21, [], .iconst 0, []) ∧ px_at 267 21 = some (24, [], .invokevirtual 109, [187, 2, 11, 259]) ∧ px_at 267 24 = some (27, [], .ifCond .eq 94, [118]) ∧ px_at 267 27 = some (28, [], .aload_n 0, []) ∧ px_at 267 28 = some (29, [], .iload_n 1, []) ∧ px_at 267 29 = some (32, [], .invokevirtual 190, [210, 1, 11, 291]) ∧ px_at 267 32 = some (35, [], .ifCond .ne 6, [38]) ∧ px_at 267 35 = some (38, [], .goto 83, [118]) ∧ px_at 267 38 = some (39, [], .aload_n 0, []) ∧ px_at 267 39 = some (40, [], .iload_n 1, []) ∧ px_at 267 40 = some (43, [], .invokevirtual 141, [194, 1, 11, 257]) ∧ px_at 267 43 = some (46, [], .ifCond .ne 11, [54]) ∧ px_at 267 46 = some (47, [], .aload_n 0, []) ∧ px_at 267 47 = some (49, [], .bipush (-2), []) ∧ px_at 267 49 = some (52, [], .putfield 359, [11, 32, 0, 0, 157]) ∧ px_at 267 52 = some (53, [], .iconst 0, []) ∧ px_at 267 53 = some (54, [], .ireturn, [4]) ∧ px_at 267 54 = some (55, [], .aload_n 0, []) ∧ px_at 267 55 = some (58, [], .getfield 75, [11, 30, 2, 1, 155]) ∧ px_at 267 58 = some (60, [], .bipush 41, []) ∧ px_at 267 60 = some (61, [], .aload_n 0, []) ∧ px_at 267 61 = some (64, [], .getfield 356, [11, 31, 0, 0, 156]) ∧ px_at 267 64 = some (65, [], .imul, []) ∧ px_at 267 65 = some (66, [], .aload_n 0, []) ∧ px_at 267 66 = some (69, [], .getfield 115, [11, 9, 0, 0, 134]) ∧ px_at 267 69 = some (70, [], .iastore, []) ∧ px_at 267 70 = some (71, [], .iconst 0, []) ∧ px_at 267 71 = some (72, [], .istore_n 2, []) ∧ px_at 267 72 = some (73, [1, 1, 1], .iload_n 2, []) ∧ px_at 267 73 = some (74, [], .aload_n 0, []) ∧ px_at 267 74 = some (77, [], .getfield 115, [11, 9, 0, 0, 134]) ∧ px_at 267 77 = some (80, [], .if_icmp .ge 31, [108]) ∧ px_at 267 80 = some (81, [], .aload_n 0, []) ∧ px_at 267 81 = some (84, [], .getfield 75, [11, 30, 2, 1, 155]) ∧ px_at 267 84 = some (86, [], .bipush 41, []) ∧ px_at 267 86 = some (87, [], .aload_n 0, []) ∧ px_at 267 87 = some (90, [], .getfield 356, [11, 31, 0, 0, 156]) ∧ px_at 267 90 = some (91, [], .imul, []) ∧ px_at 267 91 = some (92, [], .iconst 1, []) ∧ px_at 267 92 = some (93, [], .iadd, []) ∧ px_at 267 93 = some (94, [], .iload_n 2, []) ∧ px_at 267 94 = some (95, [], .iadd, []) ∧ px_at 267 95 = some (96, [], .aload_n 0, []) ∧ px_at 267 96 = some (99, [], .getfield 29, [11, 7, 2, 1, 132]) ∧ px_at 267 99 = some (100, [], .iload_n 2, []) ∧ px_at 267 100 = some (101, [], .iaload, []) ∧ px_at 267 101 = some (102, [], .iastore, []) ∧ px_at 267 102 = some (105, [], .iinc 2 1, []) ∧ px_at 267 105 = some (108, [], .goto (-33), [72]) ∧ px_at 267 108 = some (109, [], .aload_n 0, []) ∧ px_at 267 109 = some (110, [], .aload_n 0, []) ∧ px_at 267 110 = some (113, [], .getfield 356, [11, 31, 0, 0, 156]) ∧ px_at 267 113 = some (114, [], .iconst 1, []) ∧ px_at 267 114 = some (115, [], .iadd, []) ∧ px_at 267 115 = some (118, [], .putfield 356, [11, 31, 0, 0, 156]) ∧ px_at 267 118 = some (121, [], .iinc 1 1, []) ∧ px_at 267 121 = some (124, [], .goto (-109), [12]) ∧ px_at 267 124 = some (125, [], .iconst 1, []) ∧ px_at 267 125 = some (126, [], .ireturn, [4]) := ⟨rfl, rfl, rfl, rfl, rfl, rfl, rfl, rfl, rfl, rfl, rfl, rfl, rfl, rfl, rfl, rfl, rfl, rfl, rfl, rfl, rfl, rfl, rfl, rfl, rfl, rfl, rfl, rfl, rfl, rfl, rfl, rfl, rfl, rfl, rfl, rfl, rfl, rfl, rfl, rfl, rfl, rfl, rfl, rfl, rfl, rfl, rfl, rfl, rfl, rfl, rfl, rfl, rfl, rfl, rfl, rfl, rfl, rfl, rfl, rfl, rfl, rfl, rfl, rfl, rfl, rfl, rfl, rfl, rfl, rfl, rfl, rfl⟩
set_option maxRecDepth 100000 in
/-- X12_keepsAnew -/
theorem cd_268 : px_at 268 0 = some (1, [], .aload_n 0, []) ∧ px_at 268 1 = some (2, [], .aload_n 0, []) ∧ px_at 268 2 = some (5, [], .getfield 75, [11, 30, 2, 1, 155]) ∧ px_at 268 5 = some (7, [], .bipush 41, []) ∧ px_at 268 7 = some (8, [], .iload_n 1, []) ∧ px_at 268 8 = some (9, [], .imul, []) ∧ px_at 268 9 = some (10, [], .iaload, []) ∧ px_at 268 10 = some (13, [], .putfield 129, [11, 14, 0, 0, 139]) ∧ px_at 268 13 = some (14, [], .iconst 0, []) ∧ px_at 268 14 = some (15, [], .istore_n 2, []) ∧ px_at 268 15 = some (16, [1, 1, 1], .iload_n 2, []) ∧ px_at 268 16 = some (17, [], .aload_n 0, []) ∧ px_at 268 17 = some (20, [], .getfield 129, [11, 14, 0, 0, 139]) ∧ px_at 268 20 = some (23, [], .if_icmp .ge 28, [48]) ∧ px_at 268 23 = some (24, [], .aload_n 0, []) ∧ px_at 268 24 = some (27, [], .getfield 38, [11, 11, 2, 1, 136]) ∧ px_at 268 27 = some (28, [], .iload_n 2, []) ∧ px_at 268 28 = some (29, [], .aload_n 0, []) ∧ px_at 268 29 = some (32, [], .getfield 75, [11, 30, 2, 1, 155]) ∧ px_at 268 32 = some (34, [], .bipush 41, []) ∧ px_at 268 34 = some (35, [], .iload_n 1, []) ∧ px_at 268 35 = some (36, [], .imul, []) ∧ px_at 268 36 = some (37, [], .iconst 1, []) ∧ px_at 268 37 = some (38, [], .iadd, []) ∧ px_at 268 38 = some (39, [], .iload_n 2, []) ∧ px_at 268 39 = some (40, [], .iadd, []) ∧ px_at 268 40 = some (41, [], .iaload, []) ∧ px_at 268 41 = some (42, [], .iastore, []) ∧ px_at 268 42 = some (45, [], .iinc 2 1, []) ∧ px_at 268 45 = some (48, [], .goto (-30), [15]) ∧ px_at 268 48 = some (49, [], .aload_n 0, []) ∧ px_at 268 49 = some (52, [], .invokevirtual 280, [203, 0, 11, 266]) ∧ px_at 268 52 = some (53, [], .iconst (-1), []) ∧ px_at 268 53 = some (56, [], .if_icmp .eq 7, [60]) ∧ px_at 268 56 = some (57, [], .iconst 1, []) ∧ px_at 268 57 = some (60, [], .goto 4, [61]) ∧ px_at 268 60 = some (61, [], .iconst 0, []) ∧ px_at 268 61 = some (62, [], .ireturn, [4]) := ⟨rfl, rfl, rfl, rfl, rfl, rfl, rfl, rfl, rfl, rfl, rfl, rfl, rfl, rfl, rfl, rfl, rfl, rfl, rfl, rfl, rfl, rfl, rfl, rfl, rfl, rfl, rfl, rfl, rfl, rfl, rfl, rfl, rfl, rfl, rfl, rfl, rfl, rfl⟩
/-! the reference: thrift -/
/-- rows of what is to be kept anew -/
def anR (Mc : px_mem) (v : Int) (R : Int → Int) (c : Int) : Prop := ∀ d, 0 ≤ d → d < c → selA Mc v d → R (41 * cntS Mc v d) = Mc 57 d ∧ lst (fun j => R (41 * cntS Mc v d + 1 + j)) (Mc 57 d) = rdC Mc d
def frZ (M' M : px_mem) : Prop := (∀ j, j ≠ 9 → j ≠ 31 → j ≠ 32 → M' 127 j = M 127 j) ∧ ∀ b, b ≠ 127 → b ≠ 134 → b ≠ 135 → b ≠ 136 → b ≠ 149 → M' b = M b
theorem frZ_refl (M : px_mem) : frZ M M := ⟨fun _ _ _ _ => rfl, fun _ _ _ _ _ _ => rfl⟩
theorem frZ_trans {A B C : px_mem} (h : frZ A B) (h2 : frZ B C) : frZ A C := ⟨fun j a b c => (h.1 j a b c).trans (h2.1 j a b c), fun b a0 a1 a2 a3 a4 => (h.2 b a0 a1 a2 a3 a4).trans (h2.2 b a0 a1 a2 a3 a4)⟩
theorem frZ_out {A B : px_mem} (h : frZ A B) : out A B := ⟨fun b b0 => h.2 b (by omega) (by omega) (by omega) (by omega) (by omega), h.2 130 (by decide) (by decide) (by decide) (by decide) (by decide), h.1 3 (by decide) (by decide) (by decide)⟩
theorem frd_Z {A B : px_mem} (h : frd A B) : frZ A B := ⟨fun j j0 _ _ => h.1 j j0, fun b b0 b1 b2 b3 _ => h.2 b b0 b1 b2 b3⟩
theorem frZ_128 {A B : px_mem} (h : frZ A B) : A 128 = B 128 := h.2 128 (by decide) (by decide) (by decide) (by decide) (by decide)
section PS
variable {M : px_mem} {Q : Option pv → px_mem → Prop}
set_option maxHeartbeats 600000 in
set_option maxRecDepth 100000 in
theorem lp_an2 {M0 : px_mem} {c t n : Int} (h9 : M0 127 9 = n) (h31 : M0 127 31 = t) (ht : 0 ≤ t ∧ t < 40) (hn : 0 ≤ n ∧ n ≤ 40) (hc : 0 ≤ c ∧ c < 40) (hx : ∀ M', (∀ j, 0 ≤ j → j < n → M' 149 (41 * t + 1 + j) = M0 134 j) → (∀ x, ¬ (41 * t + 1 ≤ x ∧ x < 41 * t + 1 + n) → M' 149 x = M0 149 x) → (∀ b, b ≠ 149 → M' b = M0 b) → px_WP 267 0 0 (px_Q0 LAY Q) 12 [(2, 127), (0, c + 1), (9, 0)] [] LAY (px_up M' 127 31 (t + 1)) 0 0) (k : Int) (hk_k : k ≤ n) : ∀ (M : px_mem), 0 ≤ k → (∀ j, 0 ≤ j → j < k → M 149 (41 * t + 1 + j) = M0 134 j) → (∀ x, ¬ (41 * t + 1 ≤ x ∧ x < 41 * t + 1 + k) → M 149 x = M0 149 x) → (∀ b, b ≠ 149 → M b = M0 b) → px_WP 267 0 0 (px_Q0 LAY Q) 72 [(2, 127), (0, c), (0, k)] [] LAY M 0 0 := by
  refine up_ind (P := fun k => ∀ (M : px_mem), 0 ≤ k → (∀ j, 0 ≤ j → j < k → M 149 (41 * t + 1 + j) = M0 134 j) → (∀ x, ¬ (41 * t + 1 ≤ x ∧ x < 41 * t + 1 + k) → M 149 x = M0 149 x) → (∀ b, b ≠ 149 → M b = M0 b) → px_WP 267 0 0 (px_Q0 LAY Q) 72 [(2, 127), (0, c), (0, k)] [] LAY M 0 0) (n) (fun k hk_k ih => ?_) k hk_k
  intro M k0 hv ho hf
  have f127 := hf 127 (by decide)
  have e9 : M 127 9 = n := by rw [f127]; exact h9
  have e31 : M 127 31 = t := by rw [f127]; exact h31
  have f134 := hf 134 (by decide)
  refine px_go_ok (inl := []) 60 ?_
  simp only [px_go, px_Q0_at, px_sx_0, px_sx_s, px_cl, px_step, ↓px_ll, px_lg, f4_, ↓px_r1, ↓px_r2, ↓px_r4, ↓px_r5, ↓px_p1, ↓px_p2, ↓px_p3, ↓px_pop, px_k_0, px_k_s, px_k3_0, px_stk_, px_cats, px_ent, px_st1, px_st2, px_mask, ↓px_tsw, ↓px_lsw, ct_, mls_0, mls_1, mls_2, mls_3, mls_4, mls_5, kd_0, kd_1, kd_2, kd_3, ln_0, ln_1, ln_2, ln_3, gf_0, gf_1, gf_2, gf_3, gf_4, gf_7, gf_21, gf_63, dy_0, dy_1, dy_2, dy_3, dy_7, dy_21, px_brT, px_brF, true_and, and_true, and_false, false_and, and_self, true_implies, false_implies, or_true, true_or, or_false, false_or, eq_self, ne_eq, not_false_eq_true, not_true_eq_false, if_true, if_false, List.mem_cons, List.not_mem_nil, List.length_cons, List.length_nil, Nat.reduceEqDiff, Nat.reduceAdd, Nat.reduceSub, Nat.reduceLeDiff, Nat.reduceLT, Int.reduceEq, Int.reduceLT, Int.reduceLE, Int.reduceNeg, Int.reduceAdd, Int.reduceSub, Int.reduceToNat, ↓reduceIte, one_ne_zero_, zero_ne_one_, px_in32L, cd_267, e9, e31]
  repeat' (first | (with_reducible apply And.intro) | (with_reducible refine px_br_intro (fun _ => ?_) (fun _ => ?_)))
  all_goals (try (first | (unfold px_in32; omega) | omega))
  · rename_i c1
    have ek : k = n := by omega
    subst ek
    exact hx M hv ho hf
  · rename_i c1
    refine ih (by omega) _ (by omega) (fun j j0 j1 => ?_) (fun x x0 => ?_) (fun b b0 => by rw [row_ne b0]; exact hf b b0)
    · rw [px_up_at]
      by_cases q : j = k
      · rw [if_pos ⟨rfl, by omega⟩, f134, q]
      · rw [if_neg (fun z => q (by omega))]; exact hv j j0 (by omega)
    · rw [px_up_at, if_neg (fun z => by omega)]; exact ho x (by omega)
set_option maxHeartbeats 600000 in
set_option maxRecDepth 100000 in
theorem lp_an1 {M0 Mc : px_mem} {v : Int} {pl : Int → Int → List Int} {nm : Int → List Int} (hT : TE Mc pl nm (M0 128)) (hsel : ∀ c, 0 ≤ c → c < 40 → (selA Mc v c ↔ 0 ≤ Mc 62 c ∧ rlsd (M0 128) c)) (h1 : ∀ M', (∀ d, 0 ≤ d → d < 40 → selA Mc v d → Mc 105 d ≠ 0) → M' 127 31 = cntS Mc v 40 → anR Mc v (M' 149) 40 → frZ M' M0 → Q (some (0, 1)) M') (h0 : ∀ M' c, 0 ≤ c → c < 40 → selA Mc v c → Mc 105 c = 0 → (∀ d, 0 ≤ d → d < c → selA Mc v d → Mc 105 d ≠ 0) → M' 127 31 = cntS Mc v c → anR Mc v (M' 149) c → frZ M' M0 → Q (some (0, 0)) M') (c : Int) (hk_c : c ≤ 40) : ∀ (M : px_mem), 0 ≤ c → M 127 31 = cntS Mc v c → (∀ d, 0 ≤ d → d < c → selA Mc v d → Mc 105 d ≠ 0) → anR Mc v (M 149) c → frZ M M0 → px_WP 267 0 0 (px_Q0 LAY Q) 12 [(2, 127), (0, c), (9, 0)] [] LAY M 0 0 := by
  refine up_ind (P := fun c => ∀ (M : px_mem), 0 ≤ c → M 127 31 = cntS Mc v c → (∀ d, 0 ≤ d → d < c → selA Mc v d → Mc 105 d ≠ 0) → anR Mc v (M 149) c → frZ M M0 → px_WP 267 0 0 (px_Q0 LAY Q) 12 [(2, 127), (0, c), (9, 0)] [] LAY M 0 0) (40) (fun c hk_c ih => ?_) c hk_c
  intro M c0 h31 hw hr hf
  have e128 := frZ_128 hf
  have hTM : TE Mc pl nm (M 128) := by rw [e128]; exact hT
  have hio := hTM.1.2.1 c c0
  have hsc := hsel c c0
  have hcr := cntS_rng Mc v c0
  have hskip : c < 40 → ¬ selA Mc v c → px_WP 267 0 0 (px_Q0 LAY Q) 12 [(2, 127), (0, c + 1), (9, 0)] [] LAY M 0 0 := fun q z => ih q M (by omega) (by rw [cntS_f c0 z]; exact h31) (fun d d0 d1 d2 => by
    rcases (by omega : d < c ∨ d = c) with y | y
    · exact hw d d0 y d2
    · rw [y] at d2; exact absurd d2 z) (fun d d0 d1 d2 => by
    rcases (by omega : d < c ∨ d = c) with y | y
    · exact hr d d0 y d2
    · rw [y] at d2; exact absurd d2 z) hf
  refine px_go_ok (inl := [187]) 60 ?_
  simp only [px_go, px_Q0_at, px_sx_0, px_sx_s, px_cl, px_step, ↓px_ll, px_lg, f4_, ↓px_r1, ↓px_r2, ↓px_r4, ↓px_r5, ↓px_p1, ↓px_p2, ↓px_p3, ↓px_pop, px_k_0, px_k_s, px_k3_0, px_stk_, px_cats, px_ent, px_st1, px_st2, px_mask, ↓px_tsw, ↓px_lsw, ct_, mls_0, mls_1, mls_2, mls_3, mls_4, mls_5, kd_0, kd_1, kd_2, kd_3, ln_0, ln_1, ln_2, ln_3, gf_0, gf_1, gf_2, gf_3, gf_4, gf_7, gf_21, gf_63, dy_0, dy_1, dy_2, dy_3, dy_7, dy_21, px_brT, px_brF, true_and, and_true, and_false, false_and, and_self, true_implies, false_implies, or_true, true_or, or_false, false_or, eq_self, ne_eq, not_false_eq_true, not_true_eq_false, if_true, if_false, List.mem_cons, List.not_mem_nil, List.length_cons, List.length_nil, Nat.reduceEqDiff, Nat.reduceAdd, Nat.reduceSub, Nat.reduceLeDiff, Nat.reduceLT, Int.reduceEq, Int.reduceLT, Int.reduceLE, Int.reduceNeg, Int.reduceAdd, Int.reduceSub, Int.reduceToNat, ↓reduceIte, one_ne_zero_, zero_ne_one_, px_in32L, cd_267, cd_187]
  repeat' (first | (with_reducible apply And.intro) | (with_reducible refine px_br_intro (fun _ => ?_) (fun _ => ?_)))
  all_goals (try (first | (unfold px_in32; omega) | omega))
  · rename_i c1
    have e : c = 40 := by omega
    subst e
    exact h1 M hw h31 hr hf
  · rename_i c1 c2
    have c2 : rC (M 128) c 0 = 0 := c2
    have hio := hio (by omega)
    exact hskip (by omega) (fun z => by have := z.1; omega)
  · rename_i c1 c2
    have c2 : ¬ rC (M 128) c 0 = 0 := c2
    have hio := hio (by omega)
    have hsc := hsc (by omega)
    have hd : 0 ≤ Mc 62 c := by omega
    refine sp_isListed (TE_rls hTM) (fun w => ?_) (fun w => ?_)
    · rw [e128] at w
      have hse : selA Mc v c := hsc.mpr ⟨hd, w⟩
      simp only [px_go, px_Q0_at, px_sx_0, px_sx_s, px_cl, px_step, ↓px_ll, px_lg, f4_, ↓px_r1, ↓px_r2, ↓px_r4, ↓px_r5, ↓px_p1, ↓px_p2, ↓px_p3, ↓px_pop, px_k_0, px_k_s, px_k3_0, px_stk_, px_cats, px_ent, px_st1, px_st2, px_mask, ↓px_tsw, ↓px_lsw, ct_, mls_0, mls_1, mls_2, mls_3, mls_4, mls_5, kd_0, kd_1, kd_2, kd_3, ln_0, ln_1, ln_2, ln_3, gf_0, gf_1, gf_2, gf_3, gf_4, gf_7, gf_21, gf_63, dy_0, dy_1, dy_2, dy_3, dy_7, dy_21, px_brT, px_brF, true_and, and_true, and_false, false_and, and_self, true_implies, false_implies, or_true, true_or, or_false, false_or, eq_self, ne_eq, not_false_eq_true, not_true_eq_false, if_true, if_false, List.mem_cons, List.not_mem_nil, List.length_cons, List.length_nil, Nat.reduceEqDiff, Nat.reduceAdd, Nat.reduceSub, Nat.reduceLeDiff, Nat.reduceLT, Int.reduceEq, Int.reduceLT, Int.reduceLE, Int.reduceNeg, Int.reduceAdd, Int.reduceSub, Int.reduceToNat, ↓reduceIte, one_ne_zero_, zero_ne_one_, px_in32L, cd_267, cd_187]
      refine sp_wholeT hTM.1 ⟨c0, by omega, hd⟩ (fun M1 a1 a2 a3 a4 => ?_) (fun M1 a1 a4 => ?_)
      · have hrl := rdC_len hT.1.1 c0 (by omega) hd
        have g31 : M1 127 31 = cntS Mc v c := by rw [a4.1 31 (by decide)]; exact h31
        have g149 : M1 149 = M 149 := a4.2 149 (by decide) (by decide) (by decide) (by decide)
        have f127 : ∀ x y, px_up M1 149 x y 127 = M1 127 := fun x y => row_ne (by decide)
        simp only [px_go, px_Q0_at, px_sx_0, px_sx_s, px_cl, px_step, ↓px_ll, px_lg, f4_, ↓px_r1, ↓px_r2, ↓px_r4, ↓px_r5, ↓px_p1, ↓px_p2, ↓px_p3, ↓px_pop, px_k_0, px_k_s, px_k3_0, px_stk_, px_cats, px_ent, px_st1, px_st2, px_mask, ↓px_tsw, ↓px_lsw, ct_, mls_0, mls_1, mls_2, mls_3, mls_4, mls_5, kd_0, kd_1, kd_2, kd_3, ln_0, ln_1, ln_2, ln_3, gf_0, gf_1, gf_2, gf_3, gf_4, gf_7, gf_21, gf_63, dy_0, dy_1, dy_2, dy_3, dy_7, dy_21, px_brT, px_brF, true_and, and_true, and_false, false_and, and_self, true_implies, false_implies, or_true, true_or, or_false, false_or, eq_self, ne_eq, not_false_eq_true, not_true_eq_false, if_true, if_false, List.mem_cons, List.not_mem_nil, List.length_cons, List.length_nil, Nat.reduceEqDiff, Nat.reduceAdd, Nat.reduceSub, Nat.reduceLeDiff, Nat.reduceLT, Int.reduceEq, Int.reduceLT, Int.reduceLE, Int.reduceNeg, Int.reduceAdd, Int.reduceSub, Int.reduceToNat, ↓reduceIte, one_ne_zero_, zero_ne_one_, px_in32L, cd_267, cd_187, g31, a3]
        repeat' (first | (with_reducible apply And.intro) | (with_reducible refine px_br_intro (fun _ => ?_) (fun _ => ?_)))
        all_goals (try (first | (unfold px_in32; omega) | omega))
        refine lp_an2 (M0 := px_up M1 149 (41 * cntS Mc v c) ((rdC Mc c).length : Int)) (t := cntS Mc v c) (n := ((rdC Mc c).length : Int)) (by rw [f127]; exact a3) (by rw [f127]; exact g31) ⟨hcr.1, by omega⟩ ⟨by omega, by omega⟩ ⟨c0, by omega⟩ (fun M2 b1' b2 b3 => ?_) 0 (by omega) _ (Int.le_refl 0) (fun j j0 j1 => by omega) (fun _ _ => rfl) (fun _ _ => rfl)
        refine ih (by omega) _ (by omega) (by rw [px_up_at, if_pos ⟨rfl, rfl⟩, cntS_t c0 hse]) (fun d d0 d1 d2 => ?_) (fun d d0 d1 d2 => ?_) (frZ_trans ⟨fun j _ j1 _ => ?_, fun b b0 b1 b2 b3' b4 => ?_⟩ (frZ_trans (frd_Z a4) hf))
        · rcases (by omega : d < c ∨ d = c) with y | y
          · exact hw d d0 y d2
          · rw [y]; exact a1
        · rw [row_ne (by decide)]
          rcases (by omega : d < c ∨ d = c) with y | y
          · have hlt := cntS_lt d0 y d2
            have hdr := cntS_rng Mc v d0
            have o := hr d d0 y d2
            have hk := cokC (hT.1.1.1 d d0 (by omega) d2.1)
            have hu : ∀ x, x < 41 * cntS Mc v c → M2 149 x = M 149 x := fun x x0 => by
              rw [b2 x (by omega), px_up_at, if_neg (fun z => by have := z.2; omega), g149]
            refine ⟨by rw [hu _ (by omega)]; exact o.1, ?_⟩
            rw [← o.2]
            exact lst_congr (fun j j0 j1 => hu _ (by omega))
          · subst y
            refine ⟨by rw [b2 _ (by omega), px_up_at, if_pos ⟨rfl, rfl⟩]; exact hrl.1, ?_⟩
            rw [← hrl.1]
            have e2 : lst (fun j => M2 149 (41 * cntS Mc v d + 1 + j)) ((rdC Mc d).length : Int) = lst (M1 134) ((rdC Mc d).length : Int) := lst_congr (fun j j0 j1 => by rw [b1' j j0 j1, row_ne (by decide)])
            rw [e2]; exact a2
        · rw [px_up_at, if_neg (fun z => j1 z.2), b3 127 (by decide), f127]
        · rw [row_ne b0, b3 b b4, row_ne b4]
      · simp only [px_go, px_Q0_at, px_sx_0, px_sx_s, px_cl, px_step, ↓px_ll, px_lg, f4_, ↓px_r1, ↓px_r2, ↓px_r4, ↓px_r5, ↓px_p1, ↓px_p2, ↓px_p3, ↓px_pop, px_k_0, px_k_s, px_k3_0, px_stk_, px_cats, px_ent, px_st1, px_st2, px_mask, ↓px_tsw, ↓px_lsw, ct_, mls_0, mls_1, mls_2, mls_3, mls_4, mls_5, kd_0, kd_1, kd_2, kd_3, ln_0, ln_1, ln_2, ln_3, gf_0, gf_1, gf_2, gf_3, gf_4, gf_7, gf_21, gf_63, dy_0, dy_1, dy_2, dy_3, dy_7, dy_21, px_brT, px_brF, true_and, and_true, and_false, false_and, and_self, true_implies, false_implies, or_true, true_or, or_false, false_or, eq_self, ne_eq, not_false_eq_true, not_true_eq_false, if_true, if_false, List.mem_cons, List.not_mem_nil, List.length_cons, List.length_nil, Nat.reduceEqDiff, Nat.reduceAdd, Nat.reduceSub, Nat.reduceLeDiff, Nat.reduceLT, Int.reduceEq, Int.reduceLT, Int.reduceLE, Int.reduceNeg, Int.reduceAdd, Int.reduceSub, Int.reduceToNat, ↓reduceIte, one_ne_zero_, zero_ne_one_, px_in32L, cd_267, cd_187]
        have g := frZ_trans (frd_Z a4) hf
        refine h0 _ c c0 (by omega) hse a1 hw ?_ ?_ (frZ_trans ⟨fun j _ _ j2 => by rw [px_up_at, if_neg (fun z => j2 z.2)], fun b b0 _ _ _ _ => row_ne b0⟩ g)
        · rw [px_up_at, if_neg (by decide), a4.1 31 (by decide)]; exact h31
        · rw [row_ne (by decide), a4.2 149 (by decide) (by decide) (by decide) (by decide)]; exact hr
    · rw [e128] at w
      simp only [px_go, px_Q0_at, px_sx_0, px_sx_s, px_cl, px_step, ↓px_ll, px_lg, f4_, ↓px_r1, ↓px_r2, ↓px_r4, ↓px_r5, ↓px_p1, ↓px_p2, ↓px_p3, ↓px_pop, px_k_0, px_k_s, px_k3_0, px_stk_, px_cats, px_ent, px_st1, px_st2, px_mask, ↓px_tsw, ↓px_lsw, ct_, mls_0, mls_1, mls_2, mls_3, mls_4, mls_5, kd_0, kd_1, kd_2, kd_3, ln_0, ln_1, ln_2, ln_3, gf_0, gf_1, gf_2, gf_3, gf_4, gf_7, gf_21, gf_63, dy_0, dy_1, dy_2, dy_3, dy_7, dy_21, px_brT, px_brF, true_and, and_true, and_false, false_and, and_self, true_implies, false_implies, or_true, true_or, or_false, false_or, eq_self, ne_eq, not_false_eq_true, not_true_eq_false, if_true, if_false, List.mem_cons, List.not_mem_nil, List.length_cons, List.length_nil, Nat.reduceEqDiff, Nat.reduceAdd, Nat.reduceSub, Nat.reduceLeDiff, Nat.reduceLT, Int.reduceEq, Int.reduceLT, Int.reduceLE, Int.reduceNeg, Int.reduceAdd, Int.reduceSub, Int.reduceToNat, ↓reduceIte, one_ne_zero_, zero_ne_one_, px_in32L, cd_267, cd_187]
      repeat' (first | (with_reducible apply And.intro) | (with_reducible refine px_br_intro (fun _ => ?_) (fun _ => ?_)))
      all_goals (try (first | (unfold px_in32; omega) | omega))
      exact hskip (by omega) (fun z => w (hsc.mp z).2)
set_option maxHeartbeats 600000 in
set_option maxRecDepth 100000 in
theorem sp_laysAnew {Mc : px_mem} {v : Int} {pl : Int → Int → List Int} {nm : Int → List Int} (hT : TE Mc pl nm (M 128)) (hsel : ∀ c, 0 ≤ c → c < 40 → (selA Mc v c ↔ 0 ≤ Mc 62 c ∧ rlsd (M 128) c)) (h1 : ∀ M', (∀ d, 0 ≤ d → d < 40 → selA Mc v d → Mc 105 d ≠ 0) → M' 127 31 = cntS Mc v 40 → anR Mc v (M' 149) 40 → frZ M' M → Q (some (0, 1)) M') (h0 : ∀ M' c, 0 ≤ c → c < 40 → selA Mc v c → Mc 105 c = 0 → (∀ d, 0 ≤ d → d < c → selA Mc v d → Mc 105 d ≠ 0) → M' 127 31 = cntS Mc v c → anR Mc v (M' 149) c → frZ M' M → Q (some (0, 0)) M') : px_Ok 267 [(2, 127)] LAY M Q := by
  refine px_ok_go (inl := []) (ls0 := [(2, 127), (9, 0), (9, 0)]) 60 (by decide) (Nat.le_of_ble_eq_true rfl) rfl ?_
  simp only [px_go, px_Q0_at, px_sx_0, px_sx_s, px_cl, px_step, ↓px_ll, px_lg, f4_, ↓px_r1, ↓px_r2, ↓px_r4, ↓px_r5, ↓px_p1, ↓px_p2, ↓px_p3, ↓px_pop, px_k_0, px_k_s, px_k3_0, px_stk_, px_cats, px_ent, px_st1, px_st2, px_mask, ↓px_tsw, ↓px_lsw, ct_, mls_0, mls_1, mls_2, mls_3, mls_4, mls_5, kd_0, kd_1, kd_2, kd_3, ln_0, ln_1, ln_2, ln_3, gf_0, gf_1, gf_2, gf_3, gf_4, gf_7, gf_21, gf_63, dy_0, dy_1, dy_2, dy_3, dy_7, dy_21, px_brT, px_brF, true_and, and_true, and_false, false_and, and_self, true_implies, false_implies, or_true, true_or, or_false, false_or, eq_self, ne_eq, not_false_eq_true, not_true_eq_false, if_true, if_false, List.mem_cons, List.not_mem_nil, List.length_cons, List.length_nil, Nat.reduceEqDiff, Nat.reduceAdd, Nat.reduceSub, Nat.reduceLeDiff, Nat.reduceLT, Int.reduceEq, Int.reduceLT, Int.reduceLE, Int.reduceNeg, Int.reduceAdd, Int.reduceSub, Int.reduceToNat, ↓reduceIte, one_ne_zero_, zero_ne_one_, px_in32L, cd_267]
  repeat' (first | (with_reducible apply And.intro) | (with_reducible refine px_br_intro (fun _ => ?_) (fun _ => ?_)))
  all_goals (try (first | (unfold px_in32; omega) | omega))
  refine lp_an1 (M0 := M) hT hsel h1 h0 0 (by decide) _ (Int.le_refl 0) ?_ (fun d d0 d1 => by omega) (fun d d0 d1 => by omega) ⟨fun j _ j1 j2 => ?_, fun b b0 _ _ _ _ => by rw [row_ne b0, row_ne b0]⟩
  · rw [px_up_at, if_neg (by decide), px_up_at, if_pos ⟨rfl, rfl⟩]; rfl
  · rw [px_up_at, if_neg (fun z => j2 z.2), px_up_at, if_neg (fun z => j1 z.2)]
def frY (M' M : px_mem) : Prop := (∀ j, j ≠ 9 → j ≠ 14 → j ≠ 15 → j ≠ 16 → j ≠ 17 → M' 127 j = M 127 j) ∧ ∀ b, b ≠ 127 → b ≠ 128 → b ≠ 134 → b ≠ 135 → b ≠ 136 → b ≠ 137 → b ≠ 138 → b ≠ 139 → b ≠ 140 → M' b = M b
theorem frY_trans {A B C : px_mem} (h : frY A B) (h2 : frY B C) : frY A C := ⟨fun j a b c d e => (h.1 j a b c d e).trans (h2.1 j a b c d e), fun b a0 a1 a2 a3 a4 a5 a6 a7 a8 => (h.2 b a0 a1 a2 a3 a4 a5 a6 a7 a8).trans (h2.2 b a0 a1 a2 a3 a4 a5 a6 a7 a8)⟩
theorem frY_out {A B : px_mem} (h : frY A B) : out A B := ⟨fun b b0 => h.2 b (by omega) (by omega) (by omega) (by omega) (by omega) (by omega) (by omega) (by omega) (by omega), h.2 130 (by decide) (by decide) (by decide) (by decide) (by decide) (by decide) (by decide) (by decide) (by decide), h.1 3 (by decide) (by decide) (by decide) (by decide) (by decide)⟩
theorem frk_Y {A B : px_mem} (h : frk A B) : frY A B := ⟨fun j a _ c d e => h.1 j a c d e, fun b a0 a1 a2 a3 a4 _ a6 a7 a8 => h.2 b a0 a1 a2 a3 a4 a6 a7 a8⟩
set_option maxHeartbeats 600000 in
set_option maxRecDepth 100000 in
theorem lp_ka {M0 : px_mem} {t n : Int} (h14 : M0 127 14 = n) (ht : 0 ≤ t ∧ t < 40) (hn : n ≤ 40) (hx : ∀ M', (∀ j, 0 ≤ j → j < n → M' 137 j = M0 149 (41 * t + 1 + j)) → (∀ b, b ≠ 137 → M' b = M0 b) → px_WP 268 0 0 (px_Q0 LAY Q) 15 [(2, 127), (0, t), (0, n)] [] LAY M' 0 0) (k : Int) (hk_k : k ≤ n) : ∀ (M : px_mem), 0 ≤ k → (∀ j, 0 ≤ j → j < k → M 137 j = M0 149 (41 * t + 1 + j)) → (∀ b, b ≠ 137 → M b = M0 b) → px_WP 268 0 0 (px_Q0 LAY Q) 15 [(2, 127), (0, t), (0, k)] [] LAY M 0 0 := by
  refine up_ind (P := fun k => ∀ (M : px_mem), 0 ≤ k → (∀ j, 0 ≤ j → j < k → M 137 j = M0 149 (41 * t + 1 + j)) → (∀ b, b ≠ 137 → M b = M0 b) → px_WP 268 0 0 (px_Q0 LAY Q) 15 [(2, 127), (0, t), (0, k)] [] LAY M 0 0) (n) (fun k hk_k ih => ?_) k hk_k
  intro M k0 hv hf
  by_cases hkn : k = n
  · subst hkn; exact hx M hv hf
  have e14 : M 127 14 = n := by rw [hf 127 (by decide)]; exact h14
  have f149 := hf 149 (by decide)
  refine px_go_ok (inl := []) 60 ?_
  simp only [px_go, px_Q0_at, px_sx_0, px_sx_s, px_cl, px_step, ↓px_ll, px_lg, f4_, ↓px_r1, ↓px_r2, ↓px_r4, ↓px_r5, ↓px_p1, ↓px_p2, ↓px_p3, ↓px_pop, px_k_0, px_k_s, px_k3_0, px_stk_, px_cats, px_ent, px_st1, px_st2, px_mask, ↓px_tsw, ↓px_lsw, ct_, mls_0, mls_1, mls_2, mls_3, mls_4, mls_5, kd_0, kd_1, kd_2, kd_3, ln_0, ln_1, ln_2, ln_3, gf_0, gf_1, gf_2, gf_3, gf_4, gf_7, gf_21, gf_63, dy_0, dy_1, dy_2, dy_3, dy_7, dy_21, px_brT, px_brF, true_and, and_true, and_false, false_and, and_self, true_implies, false_implies, or_true, true_or, or_false, false_or, eq_self, ne_eq, not_false_eq_true, not_true_eq_false, if_true, if_false, List.mem_cons, List.not_mem_nil, List.length_cons, List.length_nil, Nat.reduceEqDiff, Nat.reduceAdd, Nat.reduceSub, Nat.reduceLeDiff, Nat.reduceLT, Int.reduceEq, Int.reduceLT, Int.reduceLE, Int.reduceNeg, Int.reduceAdd, Int.reduceSub, Int.reduceToNat, ↓reduceIte, one_ne_zero_, zero_ne_one_, px_in32L, cd_268, e14]
  repeat' (first | (with_reducible apply And.intro) | (with_reducible refine px_br_intro (fun _ => ?_) (fun _ => ?_)))
  all_goals (try (first | (unfold px_in32; omega) | omega))
  · rename_i c1
    refine ih (by omega) _ (by omega) (fun j j0 j1 => ?_) (fun b b0 => by rw [row_ne b0]; exact hf b b0)
    rw [px_up_at]
    by_cases q : j = k
    · rw [if_pos ⟨rfl, q⟩, f149, q]
    · rw [if_neg (fun z => q z.2)]; exact hv j j0 (by omega)
set_option maxHeartbeats 600000 in
set_option maxRecDepth 100000 in
theorem sp_keepsAnew {dd : Int → Int} {t : Int} {D : List Int} (hr : rok (M 128) dd) (hu : rus (M 128) dd) (ht : 0 ≤ t ∧ t < 40) (h41 : M 149 (41 * t) = (D.length : Int)) (hD : lst (fun j => M 149 (41 * t + 1 + j)) (D.length : Int) = D) (hn : D.length ≤ 40) (hby : ∀ b ∈ D, 0 ≤ b ∧ b < 256) (h0 : ∀ M', (fnd 40 (fun c => dd c < 0) = -1 ∨ ∃ b l, isBB (cndR (M 128) dd) (szR (M 128) D) (D.length : Int) 40 b l ∧ rmF (fun x => ¬ occ (M 128) dd x) l = -1) → M' 128 = M 128 → frY M' M → Q (some (0, 0)) M') (h1 : ∀ M' c b l p P, fnd 40 (fun c => dd c < 0) = c → 0 ≤ c → c < 40 → isBB (cndR (M 128) dd) (szR (M 128) D) (D.length : Int) 40 b l → rmF (fun x => ¬ occ (M 128) dd x) l = p → 0 ≤ p → lst P l = bstR (M 128) D b → keptR (M 128) (M' 128) c (D.length : Int) (mkl D) b l p P → frY M' M → Q (some (0, 1)) M') : px_Ok 268 [(2, 127), (0, t)] LAY M Q := by
  refine px_ok_go (inl := []) (ls0 := [(2, 127), (0, t), (9, 0)]) 60 (by decide) (Nat.le_of_ble_eq_true rfl) rfl ?_
  simp only [px_go, px_Q0_at, px_sx_0, px_sx_s, px_cl, px_step, ↓px_ll, px_lg, f4_, ↓px_r1, ↓px_r2, ↓px_r4, ↓px_r5, ↓px_p1, ↓px_p2, ↓px_p3, ↓px_pop, px_k_0, px_k_s, px_k3_0, px_stk_, px_cats, px_ent, px_st1, px_st2, px_mask, ↓px_tsw, ↓px_lsw, ct_, mls_0, mls_1, mls_2, mls_3, mls_4, mls_5, kd_0, kd_1, kd_2, kd_3, ln_0, ln_1, ln_2, ln_3, gf_0, gf_1, gf_2, gf_3, gf_4, gf_7, gf_21, gf_63, dy_0, dy_1, dy_2, dy_3, dy_7, dy_21, px_brT, px_brF, true_and, and_true, and_false, false_and, and_self, true_implies, false_implies, or_true, true_or, or_false, false_or, eq_self, ne_eq, not_false_eq_true, not_true_eq_false, if_true, if_false, List.mem_cons, List.not_mem_nil, List.length_cons, List.length_nil, Nat.reduceEqDiff, Nat.reduceAdd, Nat.reduceSub, Nat.reduceLeDiff, Nat.reduceLT, Int.reduceEq, Int.reduceLT, Int.reduceLE, Int.reduceNeg, Int.reduceAdd, Int.reduceSub, Int.reduceToNat, ↓reduceIte, one_ne_zero_, zero_ne_one_, px_in32L, cd_268, h41]
  repeat' (first | (with_reducible apply And.intro) | (with_reducible refine px_br_intro (fun _ => ?_) (fun _ => ?_)))
  all_goals (try (first | (unfold px_in32; omega) | omega))
  refine lp_ka (M0 := px_up M 127 14 (D.length : Int)) (n := (D.length : Int)) (by rw [px_up_at, if_pos ⟨rfl, rfl⟩]) ht (by omega) (fun M1 a1 a2 => ?_) 0 (by omega) _ (Int.le_refl 0) (fun j j0 j1 => by omega) (fun _ _ => rfl)
  have e14 : M1 127 14 = (D.length : Int) := by rw [a2 127 (by decide), px_up_at, if_pos ⟨rfl, rfl⟩]
  have e128 : M1 128 = M 128 := by rw [a2 128 (by decide), row_ne (by decide)]
  have e137 : lst (M1 137) (D.length : Int) = D := by
    rw [← hD, lst_len (by omega)]
    exact lst_congr (fun j j0 j1 => by rw [a1 j j0 j1, row_ne (by decide)])
  have hf : frY M1 M := ⟨fun j _ j1 _ _ _ => by rw [a2 127 (by decide), px_up_at, if_neg (fun z => j1 z.2)], fun b b0 _ _ _ _ b5 _ _ _ => by rw [a2 b b5, row_ne b0]⟩
  refine px_go_ok (inl := []) 60 ?_
  simp only [px_go, px_Q0_at, px_sx_0, px_sx_s, px_cl, px_step, ↓px_ll, px_lg, f4_, ↓px_r1, ↓px_r2, ↓px_r4, ↓px_r5, ↓px_p1, ↓px_p2, ↓px_p3, ↓px_pop, px_k_0, px_k_s, px_k3_0, px_stk_, px_cats, px_ent, px_st1, px_st2, px_mask, ↓px_tsw, ↓px_lsw, ct_, mls_0, mls_1, mls_2, mls_3, mls_4, mls_5, kd_0, kd_1, kd_2, kd_3, ln_0, ln_1, ln_2, ln_3, gf_0, gf_1, gf_2, gf_3, gf_4, gf_7, gf_21, gf_63, dy_0, dy_1, dy_2, dy_3, dy_7, dy_21, px_brT, px_brF, true_and, and_true, and_false, false_and, and_self, true_implies, false_implies, or_true, true_or, or_false, false_or, eq_self, ne_eq, not_false_eq_true, not_true_eq_false, if_true, if_false, List.mem_cons, List.not_mem_nil, List.length_cons, List.length_nil, Nat.reduceEqDiff, Nat.reduceAdd, Nat.reduceSub, Nat.reduceLeDiff, Nat.reduceLT, Int.reduceEq, Int.reduceLT, Int.reduceLE, Int.reduceNeg, Int.reduceAdd, Int.reduceSub, Int.reduceToNat, ↓reduceIte, one_ne_zero_, zero_ne_one_, px_in32L, cd_268, e14]
  refine px_br_intro (fun _ => ?_) (fun c => by omega)
  refine sp_keepsDue (dd := dd) (D := D) (by rw [e128]; exact hr) (by rw [e128]; exact hu) e137 e14 hn hby (fun M2 b1' b2 => ?_) (fun M2 c b l p P b1' b2 b3 b4 b5 b6 b7 b8 b9 => ?_)
  · rw [e128] at b1'
    simp only [px_go, px_Q0_at, px_sx_0, px_sx_s, px_cl, px_step, ↓px_ll, px_lg, f4_, ↓px_r1, ↓px_r2, ↓px_r4, ↓px_r5, ↓px_p1, ↓px_p2, ↓px_p3, ↓px_pop, px_k_0, px_k_s, px_k3_0, px_stk_, px_cats, px_ent, px_st1, px_st2, px_mask, ↓px_tsw, ↓px_lsw, ct_, mls_0, mls_1, mls_2, mls_3, mls_4, mls_5, kd_0, kd_1, kd_2, kd_3, ln_0, ln_1, ln_2, ln_3, gf_0, gf_1, gf_2, gf_3, gf_4, gf_7, gf_21, gf_63, dy_0, dy_1, dy_2, dy_3, dy_7, dy_21, px_brT, px_brF, true_and, and_true, and_false, false_and, and_self, true_implies, false_implies, or_true, true_or, or_false, false_or, eq_self, ne_eq, not_false_eq_true, not_true_eq_false, if_true, if_false, List.mem_cons, List.not_mem_nil, List.length_cons, List.length_nil, Nat.reduceEqDiff, Nat.reduceAdd, Nat.reduceSub, Nat.reduceLeDiff, Nat.reduceLT, Int.reduceEq, Int.reduceLT, Int.reduceLE, Int.reduceNeg, Int.reduceAdd, Int.reduceSub, Int.reduceToNat, ↓reduceIte, one_ne_zero_, zero_ne_one_, px_in32L, cd_268]
    exact h0 M2 b1' (by rw [b2.1, e128]) (frY_trans (frk_Y b2.2) hf)
  · rw [e128] at b4 b5 b7 b8
    simp only [px_go, px_Q0_at, px_sx_0, px_sx_s, px_cl, px_step, ↓px_ll, px_lg, f4_, ↓px_r1, ↓px_r2, ↓px_r4, ↓px_r5, ↓px_p1, ↓px_p2, ↓px_p3, ↓px_pop, px_k_0, px_k_s, px_k3_0, px_stk_, px_cats, px_ent, px_st1, px_st2, px_mask, ↓px_tsw, ↓px_lsw, ct_, mls_0, mls_1, mls_2, mls_3, mls_4, mls_5, kd_0, kd_1, kd_2, kd_3, ln_0, ln_1, ln_2, ln_3, gf_0, gf_1, gf_2, gf_3, gf_4, gf_7, gf_21, gf_63, dy_0, dy_1, dy_2, dy_3, dy_7, dy_21, px_brT, px_brF, true_and, and_true, and_false, false_and, and_self, true_implies, false_implies, or_true, true_or, or_false, false_or, eq_self, ne_eq, not_false_eq_true, not_true_eq_false, if_true, if_false, List.mem_cons, List.not_mem_nil, List.length_cons, List.length_nil, Nat.reduceEqDiff, Nat.reduceAdd, Nat.reduceSub, Nat.reduceLeDiff, Nat.reduceLT, Int.reduceEq, Int.reduceLT, Int.reduceLE, Int.reduceNeg, Int.reduceAdd, Int.reduceSub, Int.reduceToNat, ↓reduceIte, one_ne_zero_, zero_ne_one_, px_in32L, cd_268]
    refine px_br_intro (fun c => by omega) (fun _ => ?_)
    exact h1 M2 c b l p P b1' b2 b3 b4 b5 b6 b7 b8 (frY_trans (frk_Y b9) hf)
theorem th_to {Mc : px_mem} {v : Int} {D S F dd : Int → Int} {c : Int} (c0 : 0 ≤ c) (h : thS Mc v D S F dd c) : ∀ (n : Nat), cntS Mc v (c + n) = cntS Mc v c → thS Mc v D S F dd (c + n) ∧ sumA Mc v S (c + n) = sumA Mc v S c := by
  intro n
  induction n with
  | zero => intro _; rw [show c + ((0 : Nat) : Int) = c by omega]; exact ⟨h, rfl⟩
  | succ n ih =>
    intro e
    rw [Int.natCast_succ, ← Int.add_assoc] at e ⊢
    have hns : ¬ selA Mc v (c + n) := fun z => by
      have h1 := cntS_t (show 0 ≤ c + n by omega) z
      have h2 := sm_mono (f := fun d => b1 (selA Mc v d)) (n := c + n) (fun j _ _ => (b1_rng _).1) (i := c) c0 (by omega)
      have h3 : cntS Mc v c ≤ cntS Mc v (c + n) := h2
      omega
    rw [cntS_f (by omega) hns] at e
    obtain ⟨h1, h2⟩ := ih e
    exact ⟨th_skip (by omega) hns h1, by rw [sumA_f (by omega) hns]; exact h2⟩
set_option maxHeartbeats 600000 in
set_option maxRecDepth 100000 in
theorem sp_back2 (h : ∀ M', (∀ x, 0 ≤ x → x < 3154 → M' 128 x = M 129 x) → (∀ x, ¬ (0 ≤ x ∧ x < 3154) → M' 128 x = M 128 x) → (∀ c, c ≠ 128 → M' c = M c) → Q none M') : px_Ok 176 [(2, 127)] LAY M Q := by
  refine px_ok_go (inl := []) (ls0 := [(2, 127), (9, 0)]) 60 (by decide) (Nat.le_of_ble_eq_true rfl) rfl ?_
  simp only [px_go, px_Q0_at, px_sx_0, px_sx_s, px_cl, px_step, ↓px_ll, px_lg, f4_, ↓px_r1, ↓px_r2, ↓px_r4, ↓px_r5, ↓px_p1, ↓px_p2, ↓px_p3, ↓px_pop, px_k_0, px_k_s, px_k3_0, px_stk_, px_cats, px_ent, px_st1, px_st2, px_mask, ↓px_tsw, ↓px_lsw, ct_, mls_0, mls_1, mls_2, mls_3, mls_4, mls_5, kd_0, kd_1, kd_2, kd_3, ln_0, ln_1, ln_2, ln_3, gf_0, gf_1, gf_2, gf_3, gf_4, gf_7, gf_21, gf_63, dy_0, dy_1, dy_2, dy_3, dy_7, dy_21, px_brT, px_brF, true_and, and_true, and_false, false_and, and_self, true_implies, false_implies, or_true, true_or, or_false, false_or, eq_self, ne_eq, not_false_eq_true, not_true_eq_false, if_true, if_false, List.mem_cons, List.not_mem_nil, List.length_cons, List.length_nil, Nat.reduceEqDiff, Nat.reduceAdd, Nat.reduceSub, Nat.reduceLeDiff, Nat.reduceLT, Int.reduceEq, Int.reduceLT, Int.reduceLE, Int.reduceNeg, Int.reduceAdd, Int.reduceSub, Int.reduceToNat, ↓reduceIte, one_ne_zero_, zero_ne_one_, px_in32L, cd_176]
  repeat' (first | (with_reducible apply And.intro) | (with_reducible refine px_br_intro (fun _ => ?_) (fun _ => ?_)))
  all_goals (try (first | (unfold px_in32; omega) | omega))
  have key : ∀ k, k ≤ 3154 → ∀ (M1 : px_mem), 0 ≤ k → (∀ x, 0 ≤ x → x < k → M1 128 x = M 129 x) → (∀ x, ¬ (0 ≤ x ∧ x < 3154) → M1 128 x = M 128 x) → (∀ c, c ≠ 128 → M1 c = M c) → px_WP 176 0 0 (px_Q0 LAY Q) 2 [(2, 127), (0, k)] [] LAY M1 0 0 := by
    intro k hk
    refine up_ind (P := fun k => ∀ (M1 : px_mem), 0 ≤ k → (∀ x, 0 ≤ x → x < k → M1 128 x = M 129 x) → (∀ x, ¬ (0 ≤ x ∧ x < 3154) → M1 128 x = M 128 x) → (∀ c, c ≠ 128 → M1 c = M c) → px_WP 176 0 0 (px_Q0 LAY Q) 2 [(2, 127), (0, k)] [] LAY M1 0 0) 3154 (fun k hk ih => ?_) k hk
    intro M1 k0 hv ho hf
    refine px_go_ok (inl := []) 60 ?_
    simp only [px_go, px_Q0_at, px_sx_0, px_sx_s, px_cl, px_step, ↓px_ll, px_lg, f4_, ↓px_r1, ↓px_r2, ↓px_r4, ↓px_r5, ↓px_p1, ↓px_p2, ↓px_p3, ↓px_pop, px_k_0, px_k_s, px_k3_0, px_stk_, px_cats, px_ent, px_st1, px_st2, px_mask, ↓px_tsw, ↓px_lsw, ct_, mls_0, mls_1, mls_2, mls_3, mls_4, mls_5, kd_0, kd_1, kd_2, kd_3, ln_0, ln_1, ln_2, ln_3, gf_0, gf_1, gf_2, gf_3, gf_4, gf_7, gf_21, gf_63, dy_0, dy_1, dy_2, dy_3, dy_7, dy_21, px_brT, px_brF, true_and, and_true, and_false, false_and, and_self, true_implies, false_implies, or_true, true_or, or_false, false_or, eq_self, ne_eq, not_false_eq_true, not_true_eq_false, if_true, if_false, List.mem_cons, List.not_mem_nil, List.length_cons, List.length_nil, Nat.reduceEqDiff, Nat.reduceAdd, Nat.reduceSub, Nat.reduceLeDiff, Nat.reduceLT, Int.reduceEq, Int.reduceLT, Int.reduceLE, Int.reduceNeg, Int.reduceAdd, Int.reduceSub, Int.reduceToNat, ↓reduceIte, one_ne_zero_, zero_ne_one_, px_in32L, cd_176]
    repeat' (first | (with_reducible apply And.intro) | (with_reducible refine px_br_intro (fun _ => ?_) (fun _ => ?_)))
    all_goals (try (first | (unfold px_in32; omega) | omega))
    · rename_i c1
      exact h M1 (fun x x0 x1 => hv x x0 (by omega)) ho hf
    · rename_i c1
      refine ih (by omega) _ (by omega) (fun x x0 x1 => ?_) (fun x x0 => by rw [px_up_at, if_neg (fun z => by omega)]; exact ho x x0) (fun c c0 => by rw [row_ne c0]; exact hf c c0)
      rw [px_up_at, hf 129 (by decide)]
      by_cases q : x = k
      · rw [if_pos ⟨rfl, q⟩, q]
      · rw [if_neg (fun z => q z.2)]; exact hv x x0 (by omega)
  exact key 0 (by decide) M (Int.le_refl 0) (fun x x0 x1 => by omega) (fun _ _ => rfl) (fun _ _ => rfl)
end PS
