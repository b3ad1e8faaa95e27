/-! EditionVault.Joint -/
set_option maxRecDepth 100000 in
/-- X4_unite -/
theorem cd_56 : px_at 56 0 = some (1, [], .aload_n 1, []) ∧ px_at 56 1 = some (4, [], .ifnonnull 10, [11]) ∧ px_at 56 4 = some (5, [], .aload_n 0, []) ∧ px_at 56 5 = some (8, [], .getfield 22, [4, 4, 2, 1, 105]) ∧ px_at 56 8 = some (11, [], .goto 4, [12]) ∧ px_at 56 11 = some (12, [], .aload_n 1, []) ∧ px_at 56 12 = some (14, [], .astore 4, []) ∧ px_at 56 14 = some (15, [], .aload_n 0, []) ∧ px_at 56 15 = some (16, [], .iconst 0, []) ∧ px_at 56 16 = some (19, [], .putfield 26, [4, 2, 0, 0, 101]) ∧ px_at 56 19 = some (20, [], .aload_n 0, []) ∧ px_at 56 20 = some (21, [], .iconst 0, []) ∧ px_at 56 21 = some (24, [], .putfield 30, [4, 3, 0, 0, 103]) ∧ px_at 56 24 = some (25, [], .lconst 0, []) ∧ px_at 56 25 = some (27, [], .aload 4, []) ∧ px_at 56 27 = some (28, [], .aload_n 2, []) ∧ px_at 56 28 = some (29, [], .aload_n 3, []) ∧ px_at 56 29 = some (32, [], .invokestatic 33, [57, 4, 4, 98]) ∧ px_at 56 32 = some (34, [], .lstore 5, []) ∧ px_at 56 34 = some (35, [], .iconst 0, []) ∧ px_at 56 35 = some (37, [], .istore 7, []) ∧ px_at 56 37 = some (39, [1, 0, 1, 1, 1, 1, 0, 1], .iload 7, []) ∧ px_at 56 39 = some (40, [], .aload_n 0, []) ∧ px_at 56 40 = some (43, [], .getfield 9, [4, 0, 2, 1, 97]) ∧ px_at 56 43 = some (44, [], .arraylength, []) ∧ px_at 56 44 = some (47, [], .if_icmp .ge 54, [98]) ∧ px_at 56 47 = some (49, [], .lload 5, []) ∧ px_at 56 49 = some (52, [], .ldc2_w 37, [1152921504606846976, 7]) ∧ px_at 56 52 = some (53, [], .lcmp, []) ∧ px_at 56 53 = some (56, [], .ifCond .ge 45, [98]) ∧ px_at 56 56 = some (57, [], .aload_n 0, []) ∧ px_at 56 57 = some (59, [], .lload 5, []) ∧ px_at 56 59 = some (61, [], .aload 4, []) ∧ px_at 56 61 = some (63, [], .lload 5, []) ∧ px_at 56 63 = some (66, [], .invokevirtual 39, [38, 1, 2, 101]) ∧ px_at 56 66 = some (67, [], .aload_n 2, []) ∧ px_at 56 67 = some (69, [], .lload 5, []) ∧ px_at 56 69 = some (72, [], .invokevirtual 39, [38, 1, 2, 101]) ∧ px_at 56 72 = some (73, [], .aload_n 3, []) ∧ px_at 56 73 = some (75, [], .lload 5, []) ∧ px_at 56 75 = some (78, [], .invokevirtual 39, [38, 1, 2, 101]) ∧ px_at 56 78 = some (81, [], .invokevirtual 43, [58, 4, 4, 104]) ∧ px_at 56 81 = some (83, [], .lload 5, []) ∧ px_at 56 83 = some (85, [], .aload 4, []) ∧ px_at 56 85 = some (86, [], .aload_n 2, []) ∧ px_at 56 86 = some (87, [], .aload_n 3, []) ∧ px_at 56 87 = some (90, [], .invokestatic 33, [57, 4, 4, 98]) ∧ px_at 56 90 = some (92, [], .lstore 5, []) ∧ px_at 56 92 = some (95, [], .iinc 7 1, []) ∧ px_at 56 95 = some (98, [], .goto (-58), [37]) ∧ px_at 56 98 = some (99, [], .return_, []) := ⟨rfl, rfl, rfl, rfl, rfl, rfl, rfl, rfl, rfl, rfl, rfl, rfl, rfl, rfl, rfl, rfl, rfl, rfl, rfl, rfl, rfl, rfl, rfl, rfl, rfl, rfl, rfl, rfl, rfl, rfl, rfl, rfl, rfl, rfl, rfl, rfl, rfl, rfl, rfl, rfl, rfl, rfl, rfl, rfl, rfl, rfl, rfl, rfl, rfl, rfl, rfl⟩
set_option maxRecDepth 100000 in
/-- X4_nextPath -/
theorem cd_57 : px_at 57 0 = some (1, [], .aload_n 3, []) ∧ px_at 57 1 = some (2, [], .lload_n 0, []) ∧ px_at 57 2 = some (5, [], .invokevirtual 47, [40, 1, 2, 99]) ∧ px_at 57 5 = some (7, [], .aload 4, []) ∧ px_at 57 7 = some (8, [], .lload_n 0, []) ∧ px_at 57 8 = some (11, [], .invokevirtual 47, [40, 1, 2, 99]) ∧ px_at 57 11 = some (14, [], .invokestatic 51, [308, 2, 0, 100]) ∧ px_at 57 14 = some (16, [], .lstore 5, []) ∧ px_at 57 16 = some (18, [], .lload 5, []) ∧ px_at 57 18 = some (19, [], .aload_n 2, []) ∧ px_at 57 19 = some (20, [], .lload_n 0, []) ∧ px_at 57 20 = some (23, [], .invokevirtual 47, [40, 1, 2, 99]) ∧ px_at 57 23 = some (26, [], .invokestatic 51, [308, 2, 0, 100]) ∧ px_at 57 26 = some (27, [], .lreturn, []) := ⟨rfl, rfl, rfl, rfl, rfl, rfl, rfl, rfl, rfl, rfl, rfl, rfl, rfl, rfl⟩
set_option maxRecDepth 100000 in
/-- X4_settle -/
theorem cd_58 : px_at 58 0 = some (2, [], .iload 4, []) ∧ px_at 58 2 = some (3, [], .iload_n 3, []) ∧ px_at 58 3 = some (6, [], .if_icmp .ne 13, [16]) ∧ px_at 58 6 = some (8, [], .iload 5, []) ∧ px_at 58 8 = some (9, [], .iload_n 3, []) ∧ px_at 58 9 = some (12, [], .if_icmp .eq 7, [16]) ∧ px_at 58 12 = some (13, [], .iconst 1, []) ∧ px_at 58 13 = some (16, [], .goto 4, [17]) ∧ px_at 58 16 = some (17, [], .iconst 0, []) ∧ px_at 58 17 = some (19, [], .istore 6, []) ∧ px_at 58 19 = some (21, [], .iload 4, []) ∧ px_at 58 21 = some (23, [], .iload 5, []) ∧ px_at 58 23 = some (26, [], .if_icmp .eq 19, [42]) ∧ px_at 58 26 = some (28, [], .iload 4, []) ∧ px_at 58 28 = some (29, [], .iload_n 3, []) ∧ px_at 58 29 = some (32, [], .if_icmp .eq 13, [42]) ∧ px_at 58 32 = some (34, [], .iload 5, []) ∧ px_at 58 34 = some (35, [], .iload_n 3, []) ∧ px_at 58 35 = some (38, [], .if_icmp .eq 7, [42]) ∧ px_at 58 38 = some (39, [], .iconst 1, []) ∧ px_at 58 39 = some (42, [], .goto 4, [43]) ∧ px_at 58 42 = some (43, [], .iconst 0, []) ∧ px_at 58 43 = some (45, [], .istore 7, []) ∧ px_at 58 45 = some (47, [], .iload 6, []) ∧ px_at 58 47 = some (50, [], .ifCond .ne 13, [60]) ∧ px_at 58 50 = some (52, [], .iload 7, []) ∧ px_at 58 52 = some (55, [], .ifCond .eq 13, [65]) ∧ px_at 58 55 = some (57, [], .iload 4, []) ∧ px_at 58 57 = some (60, [], .ifCond .ge 8, [65]) ∧ px_at 58 60 = some (62, [], .iload 5, []) ∧ px_at 58 62 = some (65, [], .goto 5, [67]) ∧ px_at 58 65 = some (67, [], .iload 4, []) ∧ px_at 58 67 = some (69, [], .istore 8, []) ∧ px_at 58 69 = some (71, [], .iload 8, []) ∧ px_at 58 71 = some (74, [], .ifCond .lt 15, [86]) ∧ px_at 58 74 = some (75, [], .aload_n 0, []) ∧ px_at 58 75 = some (76, [], .lload_n 1, []) ∧ px_at 58 76 = some (79, [], .invokevirtual 57, [59, 1, 4, 105]) ∧ px_at 58 79 = some (82, [], .ifCond .eq 7, [86]) ∧ px_at 58 82 = some (83, [], .iconst 1, []) ∧ px_at 58 83 = some (86, [], .goto 4, [87]) ∧ px_at 58 86 = some (87, [], .iconst 0, []) ∧ px_at 58 87 = some (89, [], .istore 9, []) ∧ px_at 58 89 = some (91, [], .iload 8, []) ∧ px_at 58 91 = some (94, [], .ifCond .lt 39, [130]) ∧ px_at 58 94 = some (96, [], .iload 9, []) ∧ px_at 58 96 = some (99, [], .ifCond .ne 34, [130]) ∧ px_at 58 99 = some (100, [], .aload_n 0, []) ∧ px_at 58 100 = some (103, [], .getfield 9, [4, 0, 2, 1, 97]) ∧ px_at 58 103 = some (104, [], .aload_n 0, []) ∧ px_at 58 104 = some (107, [], .getfield 26, [4, 2, 0, 0, 101]) ∧ px_at 58 107 = some (108, [], .lload_n 1, []) ∧ px_at 58 108 = some (109, [], .lastore, []) ∧ px_at 58 109 = some (110, [], .aload_n 0, []) ∧ px_at 58 110 = some (113, [], .getfield 15, [4, 1, 2, 1, 99]) ∧ px_at 58 113 = some (114, [], .aload_n 0, []) ∧ px_at 58 114 = some (117, [], .getfield 26, [4, 2, 0, 0, 101]) ∧ px_at 58 117 = some (119, [], .iload 8, []) ∧ px_at 58 119 = some (120, [], .iastore, []) ∧ px_at 58 120 = some (121, [], .aload_n 0, []) ∧ px_at 58 121 = some (122, [], .dup, []) ∧ px_at 58 122 = some (125, [], .getfield 26, [4, 2, 0, 0, 101]) ∧ px_at 58 125 = some (126, [], .iconst 1, []) ∧ px_at 58 126 = some (127, [], .iadd, []) ∧ px_at 58 127 = some (130, [], .putfield 26, [4, 2, 0, 0, 101]) ∧ px_at 58 130 = some (132, [], .iload 7, []) ∧ px_at 58 132 = some (135, [], .ifCond .ne 8, [140]) ∧ px_at 58 135 = some (137, [], .iload 9, []) ∧ px_at 58 137 = some (140, [], .ifCond .eq 13, [150]) ∧ px_at 58 140 = some (141, [], .aload_n 0, []) ∧ px_at 58 141 = some (142, [], .dup, []) ∧ px_at 58 142 = some (145, [], .getfield 30, [4, 3, 0, 0, 103]) ∧ px_at 58 145 = some (146, [], .iconst 1, []) ∧ px_at 58 146 = some (147, [], .iadd, []) ∧ px_at 58 147 = some (150, [], .putfield 30, [4, 3, 0, 0, 103]) ∧ px_at 58 150 = some (151, [], .return_, []) := ⟨rfl, rfl, rfl, rfl, rfl, rfl, rfl, rfl, rfl, rfl, rfl, rfl, rfl, rfl, rfl, rfl, rfl, rfl, rfl, rfl, rfl, rfl, rfl, rfl, rfl, rfl, rfl, rfl, rfl, rfl, rfl, rfl, rfl, rfl, rfl, rfl, rfl, rfl, rfl, rfl, rfl, rfl, rfl, rfl, rfl, rfl, rfl, rfl, rfl, rfl, rfl, rfl, rfl, rfl, rfl, rfl, rfl, rfl, rfl, rfl, rfl, rfl, rfl, rfl, rfl, rfl, rfl, rfl, rfl, rfl, rfl, rfl, rfl, rfl, rfl, rfl⟩
set_option maxRecDepth 100000 in
/-- X4_isTaken -/
theorem cd_59 : px_at 59 0 = some (1, [], .iconst 0, []) ∧ px_at 59 1 = some (2, [], .istore_n 3, []) ∧ px_at 59 2 = some (3, [1, 1, 0, 1], .iload_n 3, []) ∧ px_at 59 3 = some (4, [], .aload_n 0, []) ∧ px_at 59 4 = some (7, [], .getfield 26, [4, 2, 0, 0, 101]) ∧ px_at 59 7 = some (10, [], .if_icmp .ge 37, [44]) ∧ px_at 59 10 = some (11, [], .aload_n 0, []) ∧ px_at 59 11 = some (14, [], .getfield 9, [4, 0, 2, 1, 97]) ∧ px_at 59 14 = some (15, [], .iload_n 3, []) ∧ px_at 59 15 = some (16, [], .laload, []) ∧ px_at 59 16 = some (17, [], .lload_n 1, []) ∧ px_at 59 17 = some (20, [], .invokestatic 61, [65, 2, 0, 106]) ∧ px_at 59 20 = some (23, [], .ifCond .ne 16, [36]) ∧ px_at 59 23 = some (24, [], .lload_n 1, []) ∧ px_at 59 24 = some (25, [], .aload_n 0, []) ∧ px_at 59 25 = some (28, [], .getfield 9, [4, 0, 2, 1, 97]) ∧ px_at 59 28 = some (29, [], .iload_n 3, []) ∧ px_at 59 29 = some (30, [], .laload, []) ∧ px_at 59 30 = some (33, [], .invokestatic 61, [65, 2, 0, 106]) ∧ px_at 59 33 = some (36, [], .ifCond .eq 5, [38]) ∧ px_at 59 36 = some (37, [], .iconst 1, []) ∧ px_at 59 37 = some (38, [], .ireturn, [4]) ∧ px_at 59 38 = some (41, [], .iinc 3 1, []) ∧ px_at 59 41 = some (44, [], .goto (-39), [2]) ∧ px_at 59 44 = some (45, [], .iconst 0, []) ∧ px_at 59 45 = some (46, [], .ireturn, [4]) := ⟨rfl, rfl, rfl, rfl, rfl, rfl, rfl, rfl, rfl, rfl, rfl, rfl, rfl, rfl, rfl, rfl, rfl, rfl, rfl, rfl, rfl, rfl, rfl, rfl, rfl, rfl⟩
/-- what a path comes to: old, ours, theirs -/
def isV (o x y : Int) : Int := if y = x ∨ y = o then x else if x = o then y else if x = -2 then y else x
def cfV (o x y : Int) : Int := if y ≠ x ∧ y ≠ o ∧ x ≠ o then 1 else 0
abbrev jT : Type := List (List Int × Int) × Int
noncomputable def jst (o x y : Int) (p : List Int) (s : jT) : jT := by
  classical
  exact if isV o x y < 0 then (s.1, s.2 + cfV o x y) else if (∃ q ∈ s.1, mt q.1 p) then (s.1, s.2 + 1) else (s.1 ++ [(p, isV o x y)], s.2 + cfV o x y)
theorem jst_N {o x y : Int} {p : List Int} {s : jT} (h : isV o x y < 0) : jst o x y p s = (s.1, s.2 + cfV o x y) := by unfold jst; rw [if_pos h]
theorem jst_L {o x y : Int} {p : List Int} {s : jT} (h : ¬ isV o x y < 0) (h2 : ∃ q ∈ s.1, mt q.1 p) : jst o x y p s = (s.1, s.2 + 1) := by unfold jst; rw [if_neg h, if_pos h2]
theorem jst_A {o x y : Int} {p : List Int} {s : jT} (h : ¬ isV o x y < 0) (h2 : ¬ ∃ q ∈ s.1, mt q.1 p) : jst o x y p s = (s.1 ++ [(p, isV o x y)], s.2 + cfV o x y) := by unfold jst; rw [if_neg h, if_neg h2]
/-- what the class holds of what came so far -/
def jC (M : px_mem) (J : List (List Int × Int)) : Prop := M 115 2 = (J.length : Int) ∧ ∀ (i : Nat) (x : List Int × Int), J[i]? = some x → okp x.1 ∧ M 116 i = enc x.1 ∧ M 117 i = x.2
theorem jC_snoc {M M' : px_mem} {J : List (List Int × Int)} {x : List Int × Int} (h : jC M J) (hx : okp x.1) (h1 : M' 115 2 = (J.length : Int) + 1) (h2 : ∀ i, M' 116 i = if i = (J.length : Int) then enc x.1 else M 116 i) (h3 : ∀ i, M' 117 i = if i = (J.length : Int) then x.2 else M 117 i) : jC M' (J ++ [x]) := by
  refine ⟨by rw [h1, List.length_append]; rfl, fun i y hy => ?_⟩
  by_cases e : i < J.length
  · rw [List.getElem?_append_left e] at hy
    have := h.2 i y hy
    rw [h2, h3, if_neg (by omega), if_neg (by omega)]
    exact this
  · rw [List.getElem?_append_right (by omega)] at hy
    have e2 : i - J.length = 0 := by
      by_cases q : i - J.length = 0
      · exact q
      · rw [List.getElem?_eq_none (by simp; omega)] at hy; cases hy
    rw [e2] at hy
    injection hy with hy
    rw [h2, h3, if_pos (by omega), if_pos (by omega), ← hy]
    exact ⟨hx, rfl, rfl⟩
theorem jC_frame {M M' : px_mem} {J : List (List Int × Int)} (h : jC M J) (h1 : M' 115 2 = M 115 2) (h2 : M' 116 = M 116) (h3 : M' 117 = M 117) : jC M' J := ⟨by rw [h1]; exact h.1, fun i x hx => by rw [h2, h3]; exact h.2 i x hx⟩
section PS
variable {M : px_mem} {Q : Option pv → px_mem → Prop}
set_option maxHeartbeats 600000 in
set_option maxRecDepth 100000 in
theorem lp_isTaken {J : List (List Int × Int)} {p : List Int} (hJ : jC M J) (hn : J.length ≤ 36) (hp : okp p) (h1 : (∃ q ∈ J, ab q.1 p ∨ ab p q.1) → Q (some (0, 1)) M) (h0 : ¬ (∃ q ∈ J, ab q.1 p ∨ ab p q.1) → Q (some (0, 0)) M) (k : Int) (hk_k : k ≤ (J.length:Int)) : 0 ≤ k → (∀ (i : Nat) (x : List Int × Int), (i : Int) < k → J[i]? = some x → ¬ (ab x.1 p ∨ ab p x.1)) → px_WP 59 0 0 (px_Q0 LAY Q) 2 [(2, 115), (1, enc p), (9, 0), (0, k)] [] LAY M 0 0 := by
  refine up_ind (P := fun k => 0 ≤ k → (∀ (i : Nat) (x : List Int × Int), (i : Int) < k → J[i]? = some x → ¬ (ab x.1 p ∨ ab p x.1)) → px_WP 59 0 0 (px_Q0 LAY Q) 2 [(2, 115), (1, enc p), (9, 0), (0, k)] [] LAY M 0 0) ((J.length:Int)) (fun k hk_k ih => ?_) k hk_k
  intro k0 hl
  have hM := hJ.1
  refine px_go_ok (inl := []) 60 ?_
  simp only [px_go, px_Q0_at, px_sx_0, px_sx_s, px_cl, px_step, ↓px_ll, px_lg, f4_, ↓px_r1, ↓px_r2, ↓px_r4, ↓px_r5, ↓px_p1, ↓px_p2, ↓px_p3, ↓px_pop, px_k_0, px_k_s, px_k3_0, px_stk_, px_cats, px_ent, px_st1, px_st2, px_mask, ↓px_tsw, ↓px_lsw, ct_, mls_0, mls_1, mls_2, mls_3, mls_4, mls_5, kd_0, kd_1, kd_2, kd_3, ln_0, ln_1, ln_2, ln_3, gf_0, gf_1, gf_2, gf_3, gf_4, gf_7, gf_21, gf_63, dy_0, dy_1, dy_2, dy_3, dy_7, dy_21, px_brT, px_brF, true_and, and_true, and_false, false_and, and_self, true_implies, false_implies, or_true, true_or, or_false, false_or, eq_self, ne_eq, not_false_eq_true, not_true_eq_false, if_true, if_false, List.mem_cons, List.not_mem_nil, List.length_cons, List.length_nil, Nat.reduceEqDiff, Nat.reduceAdd, Nat.reduceSub, Nat.reduceLeDiff, Nat.reduceLT, Int.reduceEq, Int.reduceLT, Int.reduceLE, Int.reduceNeg, Int.reduceAdd, Int.reduceSub, Int.reduceToNat, ↓reduceIte, one_ne_zero_, zero_ne_one_, px_in32L, cd_59, hM]
  repeat' (first | (with_reducible apply And.intro) | (with_reducible refine px_br_intro (fun _ => ?_) (fun _ => ?_)))
  all_goals (try (first | (unfold px_in32; omega) | omega))
  · rename_i c1
    refine h0 (fun ⟨q, hq, hq2⟩ => ?_)
    obtain ⟨i, hi⟩ := List.getElem?_of_mem hq
    have hlt := (List.getElem?_eq_some_iff.mp hi).1
    exact hl i q (by omega) hi hq2
  · rename_i c1
    have hg : J[k.toNat]? = some (J[k.toNat]'(by omega)) := List.getElem?_eq_getElem (by omega)
    have hm : J[k.toNat]'(by omega) ∈ J := List.getElem_mem _
    generalize J[k.toNat]'(by omega) = x at *
    have f := hJ.2 k.toNat x hg
    rw [Int.toNat_of_nonneg k0] at f
    rw [f.2.1]
    refine sp_isAbove f.1 hp (fun w1 => ?_) (fun w1 => ?_)
    · simp only [px_go, px_Q0_at, px_sx_0, px_sx_s, px_cl, px_step, ↓px_ll, px_lg, f4_, ↓px_r1, ↓px_r2, ↓px_r4, ↓px_r5, ↓px_p1, ↓px_p2, ↓px_p3, ↓px_pop, px_k_0, px_k_s, px_k3_0, px_stk_, px_cats, px_ent, px_st1, px_st2, px_mask, ↓px_tsw, ↓px_lsw, ct_, mls_0, mls_1, mls_2, mls_3, mls_4, mls_5, kd_0, kd_1, kd_2, kd_3, ln_0, ln_1, ln_2, ln_3, gf_0, gf_1, gf_2, gf_3, gf_4, gf_7, gf_21, gf_63, dy_0, dy_1, dy_2, dy_3, dy_7, dy_21, px_brT, px_brF, true_and, and_true, and_false, false_and, and_self, true_implies, false_implies, or_true, true_or, or_false, false_or, eq_self, ne_eq, not_false_eq_true, not_true_eq_false, if_true, if_false, List.mem_cons, List.not_mem_nil, List.length_cons, List.length_nil, Nat.reduceEqDiff, Nat.reduceAdd, Nat.reduceSub, Nat.reduceLeDiff, Nat.reduceLT, Int.reduceEq, Int.reduceLT, Int.reduceLE, Int.reduceNeg, Int.reduceAdd, Int.reduceSub, Int.reduceToNat, ↓reduceIte, one_ne_zero_, zero_ne_one_, px_in32L, cd_59]
      exact h1 ⟨x, hm, Or.inl w1⟩
    · simp only [px_go, px_Q0_at, px_sx_0, px_sx_s, px_cl, px_step, ↓px_ll, px_lg, f4_, ↓px_r1, ↓px_r2, ↓px_r4, ↓px_r5, ↓px_p1, ↓px_p2, ↓px_p3, ↓px_pop, px_k_0, px_k_s, px_k3_0, px_stk_, px_cats, px_ent, px_st1, px_st2, px_mask, ↓px_tsw, ↓px_lsw, ct_, mls_0, mls_1, mls_2, mls_3, mls_4, mls_5, kd_0, kd_1, kd_2, kd_3, ln_0, ln_1, ln_2, ln_3, gf_0, gf_1, gf_2, gf_3, gf_4, gf_7, gf_21, gf_63, dy_0, dy_1, dy_2, dy_3, dy_7, dy_21, px_brT, px_brF, true_and, and_true, and_false, false_and, and_self, true_implies, false_implies, or_true, true_or, or_false, false_or, eq_self, ne_eq, not_false_eq_true, not_true_eq_false, if_true, if_false, List.mem_cons, List.not_mem_nil, List.length_cons, List.length_nil, Nat.reduceEqDiff, Nat.reduceAdd, Nat.reduceSub, Nat.reduceLeDiff, Nat.reduceLT, Int.reduceEq, Int.reduceLT, Int.reduceLE, Int.reduceNeg, Int.reduceAdd, Int.reduceSub, Int.reduceToNat, ↓reduceIte, one_ne_zero_, zero_ne_one_, px_in32L, cd_59]
      repeat' (first | (with_reducible apply And.intro) | (with_reducible refine px_br_intro (fun _ => ?_) (fun _ => ?_)))
      all_goals (try (first | (unfold px_in32; omega) | omega))
      rw [f.2.1]
      refine sp_isAbove hp f.1 (fun w2 => ?_) (fun w2 => ?_)
      · simp only [px_go, px_Q0_at, px_sx_0, px_sx_s, px_cl, px_step, ↓px_ll, px_lg, f4_, ↓px_r1, ↓px_r2, ↓px_r4, ↓px_r5, ↓px_p1, ↓px_p2, ↓px_p3, ↓px_pop, px_k_0, px_k_s, px_k3_0, px_stk_, px_cats, px_ent, px_st1, px_st2, px_mask, ↓px_tsw, ↓px_lsw, ct_, mls_0, mls_1, mls_2, mls_3, mls_4, mls_5, kd_0, kd_1, kd_2, kd_3, ln_0, ln_1, ln_2, ln_3, gf_0, gf_1, gf_2, gf_3, gf_4, gf_7, gf_21, gf_63, dy_0, dy_1, dy_2, dy_3, dy_7, dy_21, px_brT, px_brF, true_and, and_true, and_false, false_and, and_self, true_implies, false_implies, or_true, true_or, or_false, false_or, eq_self, ne_eq, not_false_eq_true, not_true_eq_false, if_true, if_false, List.mem_cons, List.not_mem_nil, List.length_cons, List.length_nil, Nat.reduceEqDiff, Nat.reduceAdd, Nat.reduceSub, Nat.reduceLeDiff, Nat.reduceLT, Int.reduceEq, Int.reduceLT, Int.reduceLE, Int.reduceNeg, Int.reduceAdd, Int.reduceSub, Int.reduceToNat, ↓reduceIte, one_ne_zero_, zero_ne_one_, px_in32L, cd_59]
        exact h1 ⟨x, hm, Or.inr w2⟩
      · simp only [px_go, px_Q0_at, px_sx_0, px_sx_s, px_cl, px_step, ↓px_ll, px_lg, f4_, ↓px_r1, ↓px_r2, ↓px_r4, ↓px_r5, ↓px_p1, ↓px_p2, ↓px_p3, ↓px_pop, px_k_0, px_k_s, px_k3_0, px_stk_, px_cats, px_ent, px_st1, px_st2, px_mask, ↓px_tsw, ↓px_lsw, ct_, mls_0, mls_1, mls_2, mls_3, mls_4, mls_5, kd_0, kd_1, kd_2, kd_3, ln_0, ln_1, ln_2, ln_3, gf_0, gf_1, gf_2, gf_3, gf_4, gf_7, gf_21, gf_63, dy_0, dy_1, dy_2, dy_3, dy_7, dy_21, px_brT, px_brF, true_and, and_true, and_false, false_and, and_self, true_implies, false_implies, or_true, true_or, or_false, false_or, eq_self, ne_eq, not_false_eq_true, not_true_eq_false, if_true, if_false, List.mem_cons, List.not_mem_nil, List.length_cons, List.length_nil, Nat.reduceEqDiff, Nat.reduceAdd, Nat.reduceSub, Nat.reduceLeDiff, Nat.reduceLT, Int.reduceEq, Int.reduceLT, Int.reduceLE, Int.reduceNeg, Int.reduceAdd, Int.reduceSub, Int.reduceToNat, ↓reduceIte, one_ne_zero_, zero_ne_one_, px_in32L, cd_59]
        repeat' (first | (with_reducible apply And.intro) | (with_reducible refine px_br_intro (fun _ => ?_) (fun _ => ?_)))
        all_goals (try (first | (unfold px_in32; omega) | omega))
        refine ih (by omega) (by omega) (fun i y hi hy => ?_)
        by_cases e : (i : Int) = k
        · have e2 : i = k.toNat := by omega
          rw [e2, hg] at hy
          injection hy with hy
          rw [← hy]
          rintro (q | q)
          · exact w1 q
          · exact w2 q
        · exact hl i y (by omega) hy
set_option maxHeartbeats 600000 in
set_option maxRecDepth 100000 in
theorem sp_isTaken {J : List (List Int × Int)} {p : List Int} (hJ : jC M J) (hn : J.length ≤ 36) (hp : okp p) (h1 : (∃ q ∈ J, ab q.1 p ∨ ab p q.1) → Q (some (0, 1)) M) (h0 : ¬ (∃ q ∈ J, ab q.1 p ∨ ab p q.1) → Q (some (0, 0)) M) : px_Ok 59 [(2, 115), (1, enc p)] LAY M Q := by
  refine px_ok_go (inl := []) (ls0 := [(2, 115), (1, enc p), (9, 0), (9, 0)]) 60 (by decide) (Nat.le_of_ble_eq_true rfl) rfl ?_
  simp only [px_go, px_Q0_at, px_sx_0, px_sx_s, px_cl, px_step, ↓px_ll, px_lg, f4_, ↓px_r1, ↓px_r2, ↓px_r4, ↓px_r5, ↓px_p1, ↓px_p2, ↓px_p3, ↓px_pop, px_k_0, px_k_s, px_k3_0, px_stk_, px_cats, px_ent, px_st1, px_st2, px_mask, ↓px_tsw, ↓px_lsw, ct_, mls_0, mls_1, mls_2, mls_3, mls_4, mls_5, kd_0, kd_1, kd_2, kd_3, ln_0, ln_1, ln_2, ln_3, gf_0, gf_1, gf_2, gf_3, gf_4, gf_7, gf_21, gf_63, dy_0, dy_1, dy_2, dy_3, dy_7, dy_21, px_brT, px_brF, true_and, and_true, and_false, false_and, and_self, true_implies, false_implies, or_true, true_or, or_false, false_or, eq_self, ne_eq, not_false_eq_true, not_true_eq_false, if_true, if_false, List.mem_cons, List.not_mem_nil, List.length_cons, List.length_nil, Nat.reduceEqDiff, Nat.reduceAdd, Nat.reduceSub, Nat.reduceLeDiff, Nat.reduceLT, Int.reduceEq, Int.reduceLT, Int.reduceLE, Int.reduceNeg, Int.reduceAdd, Int.reduceSub, Int.reduceToNat, ↓reduceIte, one_ne_zero_, zero_ne_one_, px_in32L, cd_59]
  repeat' (first | (with_reducible apply And.intro) | (with_reducible refine px_br_intro (fun _ => ?_) (fun _ => ?_)))
  all_goals (try (first | (unfold px_in32; omega) | omega))
  exact lp_isTaken hJ hn hp h1 h0 0 (by omega) (Int.le_refl 0) (fun i x hi _ => by omega)
set_option maxHeartbeats 600000 in
set_option maxRecDepth 100000 in
theorem sp_settle {J : List (List Int × Int)} {p : List Int} {o x y cf : Int} (hJ : jC M J) (hn : J.length < 36) (hp : okp p) (hne : ∀ q ∈ J, q.1 ≠ p) (ho : o = -2 ∨ 0 ≤ o) (hx : x = -2 ∨ 0 ≤ x) (hy : y = -2 ∨ 0 ≤ y) (hcf : M 115 3 = cf ∧ 0 ≤ cf ∧ cf ≤ 1000) (h : ∀ M', jC M' (jst o x y p (J, cf)).1 → M' 115 3 = (jst o x y p (J, cf)).2 → (∀ j, j ≠ 2 → j ≠ 3 → M' 115 j = M 115 j) → (∀ b, b ≠ 115 → b ≠ 116 → b ≠ 117 → M' b = M b) → Q none M') : px_Ok 58 [(2, 115), (1, enc p), (0, o), (0, x), (0, y)] LAY M Q := by
  have hM := hJ.1
  have hM3 := hcf.1
  have hmt : (∃ q ∈ J, mt q.1 p) ↔ (∃ q ∈ J, ab q.1 p ∨ ab p q.1) := by
    refine exists_congr (fun q => and_congr_right (fun hq => ?_))
    have := hne q hq
    unfold mt wi
    constructor
    · rintro ((a | a) | (a | a))
      · exact absurd a this
      · exact Or.inr a
      · exact absurd a.symm this
      · exact Or.inl a
    · rintro (a | a)
      · exact Or.inr (Or.inr a)
      · exact Or.inl (Or.inr a)
  have hN : isV o x y < 0 → cfV o x y = 0 → Q none M := fun a b => h M (by rw [jst_N a]; exact hJ) (by rw [jst_N a, b]; show _ = cf + 0; omega) (fun _ _ _ => rfl) (fun _ _ _ _ => rfl)
  have hL : 0 ≤ isV o x y → (∃ q ∈ J, ab q.1 p ∨ ab p q.1) → Q none (px_up M 115 3 (cf + 1)) := fun a b => by
    have e := jst_L (s := (J, cf)) (show ¬ isV o x y < 0 by omega) (hmt.mpr b)
    refine h _ (by rw [e]; exact jC_frame hJ (by rw [px_up_at, if_neg (by decide)]) (row_ne (by decide)) (row_ne (by decide))) (by rw [e, px_up_at, if_pos ⟨rfl, rfl⟩]) (fun j j2 j3 => by rw [px_up_at, if_neg (by omega)]) (fun b b0 _ _ => row_ne b0)
  have hA : ∀ v, isV o x y = v → 0 ≤ v → ¬ (∃ q ∈ J, ab q.1 p ∨ ab p q.1) → cfV o x y = 0 → Q none (px_up (px_up (px_up M 116 (J.length : Int) (enc p)) 117 (J.length : Int) v) 115 2 ((J.length : Int) + 1)) := fun v a a2 b d => by
    have e := jst_A (s := (J, cf)) (show ¬ isV o x y < 0 by omega) (fun z => b (hmt.mp z))
    refine h _ ?_ ?_ (fun j j2 j3 => ?_) (fun b b0 b1 b2 => by rw [row_ne b0, row_ne b2, row_ne b1])
    · rw [e]
      refine jC_snoc (x := (p, isV o x y)) hJ hp (by rw [px_up_at, if_pos ⟨rfl, rfl⟩]) (fun i => ?_) (fun i => ?_)
      · rw [row_ne (by decide), row_ne (by decide), px_up_at]
        by_cases q : i = (J.length : Int)
        · rw [if_pos ⟨rfl, q⟩, if_pos q]
        · rw [if_neg (fun z => q z.2), if_neg q]
      · rw [row_ne (by decide), px_up_at, row_ne (by decide)]
        by_cases q : i = (J.length : Int)
        · rw [if_pos ⟨rfl, q⟩, if_pos q]; exact a.symm
        · rw [if_neg (fun z => q z.2), if_neg q]
    · rw [e, px_up_at, if_neg (by decide), row_ne (by decide), row_ne (by decide), hM3, d]; show cf = cf + 0; omega
    · rw [px_up_at, if_neg (by omega), row_ne (by decide), row_ne (by decide)]
  have hB : ∀ v, isV o x y = v → 0 ≤ v → ¬ (∃ q ∈ J, ab q.1 p ∨ ab p q.1) → cfV o x y = 1 → Q none (px_up (px_up (px_up (px_up M 116 (J.length : Int) (enc p)) 117 (J.length : Int) v) 115 2 ((J.length : Int) + 1)) 115 3 (cf + 1)) := fun v a a2 b d => by
    have e := jst_A (s := (J, cf)) (show ¬ isV o x y < 0 by omega) (fun z => b (hmt.mp z))
    refine h _ ?_ ?_ (fun j j2 j3 => ?_) (fun b b0 b1 b2 => by rw [row_ne b0, row_ne b0, row_ne b2, row_ne b1])
    · rw [e]
      refine jC_snoc (x := (p, isV o x y)) hJ hp (by rw [px_up_at, if_neg (by decide), px_up_at, if_pos ⟨rfl, rfl⟩]) (fun i => ?_) (fun i => ?_)
      · rw [row_ne (by decide), row_ne (by decide), row_ne (by decide), px_up_at]
        by_cases q : i = (J.length : Int)
        · rw [if_pos ⟨rfl, q⟩, if_pos q]
        · rw [if_neg (fun z => q z.2), if_neg q]
      · rw [row_ne (by decide), row_ne (by decide), px_up_at, row_ne (by decide)]
        by_cases q : i = (J.length : Int)
        · rw [if_pos ⟨rfl, q⟩, if_pos q]; exact a.symm
        · rw [if_neg (fun z => q z.2), if_neg q]
    · rw [e, px_up_at, if_pos ⟨rfl, rfl⟩, d]
    · rw [px_up_at, if_neg (by omega), px_up_at, if_neg (by omega), row_ne (by decide), row_ne (by decide)]
  have hiv : isV o x y = if y = x ∨ y = o then x else if x = o then y else if x = -2 then y else x := rfl
  have hcv : cfV o x y = if y ≠ x ∧ y ≠ o ∧ x ≠ o then 1 else 0 := rfl
  clear h
  refine px_ok_go (inl := []) (ls0 := [(2, 115), (1, enc p), (9, 0), (0, o), (0, x), (0, y), (9, 0), (9, 0), (9, 0), (9, 0)]) 140 (by decide) (Nat.le_of_ble_eq_true rfl) rfl ?_
  simp only [px_go, px_Q0_at, px_sx_0, px_sx_s, px_cl, px_step, ↓px_ll, px_lg, f4_, ↓px_r1, ↓px_r2, ↓px_r4, ↓px_r5, ↓px_p1, ↓px_p2, ↓px_p3, ↓px_pop, px_k_0, px_k_s, px_k3_0, px_stk_, px_cats, px_ent, px_st1, px_st2, px_mask, ↓px_tsw, ↓px_lsw, ct_, mls_0, mls_1, mls_2, mls_3, mls_4, mls_5, kd_0, kd_1, kd_2, kd_3, ln_0, ln_1, ln_2, ln_3, gf_0, gf_1, gf_2, gf_3, gf_4, gf_7, gf_21, gf_63, dy_0, dy_1, dy_2, dy_3, dy_7, dy_21, px_brT, px_brF, true_and, and_true, and_false, false_and, and_self, true_implies, false_implies, or_true, true_or, or_false, false_or, eq_self, ne_eq, not_false_eq_true, not_true_eq_false, if_true, if_false, List.mem_cons, List.not_mem_nil, List.length_cons, List.length_nil, Nat.reduceEqDiff, Nat.reduceAdd, Nat.reduceSub, Nat.reduceLeDiff, Nat.reduceLT, Int.reduceEq, Int.reduceLT, Int.reduceLE, Int.reduceNeg, Int.reduceAdd, Int.reduceSub, Int.reduceToNat, ↓reduceIte, one_ne_zero_, zero_ne_one_, px_in32L, cd_58, hM, hM3, px_up_at]
  repeat' (first | (with_reducible apply And.intro) | (with_reducible refine px_br_intro (fun _ => ?_) (fun _ => ?_)))
  all_goals (try (first | (unfold px_in32; omega) | omega))
  all_goals (try (refine sp_isTaken hJ (by omega) hp (fun tk => ?_) (fun tk => ?_)))
  all_goals (try simp only [px_go, px_Q0_at, px_sx_0, px_sx_s, px_cl, px_step, ↓px_ll, px_lg, f4_, ↓px_r1, ↓px_r2, ↓px_r4, ↓px_r5, ↓px_p1, ↓px_p2, ↓px_p3, ↓px_pop, px_k_0, px_k_s, px_k3_0, px_stk_, px_cats, px_ent, px_st1, px_st2, px_mask, ↓px_tsw, ↓px_lsw, ct_, mls_0, mls_1, mls_2, mls_3, mls_4, mls_5, kd_0, kd_1, kd_2, kd_3, ln_0, ln_1, ln_2, ln_3, gf_0, gf_1, gf_2, gf_3, gf_4, gf_7, gf_21, gf_63, dy_0, dy_1, dy_2, dy_3, dy_7, dy_21, px_brT, px_brF, true_and, and_true, and_false, false_and, and_self, true_implies, false_implies, or_true, true_or, or_false, false_or, eq_self, ne_eq, not_false_eq_true, not_true_eq_false, if_true, if_false, List.mem_cons, List.not_mem_nil, List.length_cons, List.length_nil, Nat.reduceEqDiff, Nat.reduceAdd, Nat.reduceSub, Nat.reduceLeDiff, Nat.reduceLT, Int.reduceEq, Int.reduceLT, Int.reduceLE, Int.reduceNeg, Int.reduceAdd, Int.reduceSub, Int.reduceToNat, ↓reduceIte, one_ne_zero_, zero_ne_one_, px_in32L, cd_58, hM, hM3, px_up_at])
  all_goals (try repeat' (first | (with_reducible apply And.intro) | (with_reducible refine px_br_intro (fun _ => ?_) (fun _ => ?_))))
  all_goals (try (first | (unfold px_in32; omega) | omega))
  all_goals (first | exact hN (by grind) (by grind) | exact hL (by grind) tk | exact hA _ (by grind) (by grind) tk (by grind) | exact hB _ (by grind) (by grind) tk (by grind))
end PS
/-! the union of lists, in order -/
theorem sl_uniq : ∀ (l m : List (List Int)), l.Pairwise (fun a b => enc a < enc b) → m.Pairwise (fun a b => enc a < enc b) → (∀ p, p ∈ l ↔ p ∈ m) → l = m := by
  intro l
  induction l with
  | nil =>
    intro m _ _ h
    cases m with
    | nil => rfl
    | cons b m => exact absurd ((h b).mpr List.mem_cons_self) (by simp)
  | cons a l ih =>
    intro m hl hm h
    cases m with
    | nil => exact absurd ((h a).mp List.mem_cons_self) (by simp)
    | cons b m =>
      have hl := List.pairwise_cons.mp hl
      have hm := List.pairwise_cons.mp hm
      have e : a = b := by
        rcases List.mem_cons.mp ((h a).mp List.mem_cons_self) with q | q
        · exact q
        · rcases List.mem_cons.mp ((h b).mpr List.mem_cons_self) with r | r
          · exact r.symm
          · have := hm.1 a q
            have := hl.1 b r
            omega
      subst e
      rw [ih m hl.2 hm.2 (fun p => ?_)]
      constructor
      · intro q
        rcases List.mem_cons.mp ((h p).mp (List.mem_cons_of_mem _ q)) with r | r
        · have := hl.1 p q; rw [r] at this; omega
        · exact r
      · intro q
        rcases List.mem_cons.mp ((h p).mpr (List.mem_cons_of_mem _ q)) with r | r
        · have := hm.1 p q; rw [r] at this; omega
        · exact r
/-- the list of an edition as a set of paths -/
def inL (n : Int) (pl : Int → List Int) (p : List Int) : Prop := ∃ j, 0 ≤ j ∧ j < n ∧ pl j = p
def sE (M : px_mem) (e : Int) : Prop := ∀ i j, 0 ≤ i → i < j → j < M e 2 → M (e + 1) i < M (e + 1) j
theorem nxt_spec {M : px_mem} {e c : Int} {pl : Int → List Int} (hl : lsC M e pl) (hs : sE M e) (hc : c < 1152921504606846976) : c < nxt M e c ∧ nxt M e c ≤ 1152921504606846976 ∧ (∀ p, inL (M e 2) pl p → c < enc p → nxt M e c ≤ enc p) ∧ (nxt M e c < 1152921504606846976 → ∃ p, inL (M e 2) pl p ∧ enc p = nxt M e c ∧ okp p) := by
  unfold nxt
  rcases fnd_spec (M e 2) (fun j => c < M (e + 1) j) with ⟨h1, h2⟩ | ⟨h1, h2, h3, h4⟩
  · rw [if_pos h1]
    refine ⟨hc, Int.le_refl _, fun p ⟨j, j0, j1, j2⟩ hp => ?_, fun q => by omega⟩
    have := h2 j j0 j1
    rw [(hl.2.2 j j0 j1).2.1, j2] at this
    exact absurd hp this
  · rw [if_neg (by omega)]
    generalize fnd (M e 2) (fun j => c < M (e + 1) j) = f at *
    have hf := hl.2.2 f h1 h2
    have hr := enc_rng (pl f)
    refine ⟨h3, by rw [hf.2.1]; omega, fun p ⟨j, j0, j1, j2⟩ hp => ?_, fun _ => ⟨pl f, ⟨f, h1, h2, rfl⟩, hf.2.1.symm, hf.1⟩⟩
    have hj := hl.2.2 j j0 j1
    rw [← j2, ← hj.2.1] at hp ⊢
    rcases (by omega : j < f ∨ j = f ∨ f < j) with q | q | q
    · exact absurd hp (h4 j j0 q)
    · rw [q]; exact Int.le_refl _
    · have := hs f j h1 q j1; omega
/-- how many paths of a list come before -/
noncomputable def cE (M : px_mem) (e c : Int) : Int := sm (M e 2) (fun j => b1 (M (e + 1) j < c))
theorem cE_rng {M : px_mem} {e c : Int} (h0 : 0 ≤ M e 2) : 0 ≤ cE M e c ∧ cE M e c ≤ M e 2 := by
  have := sm_bnd (c := 1) h0 (f := fun j => b1 (M (e + 1) j < c)) (fun j _ _ => b1_rng _)
  unfold cE
  omega
theorem cE_mono {M : px_mem} {e c d : Int} (h : c ≤ d) : cE M e c ≤ cE M e d := sm_le (fun j _ _ => by
  by_cases q : M (e + 1) j < c
  · rw [b1_t q, b1_t (show M (e + 1) j < d by omega)]; exact Int.le_refl _
  · rw [b1_f q]; exact (b1_rng _).1)
theorem cE_step {M : px_mem} {e c d : Int} {pl : Int → List Int} {p : List Int} (hl : lsC M e pl) (hp : inL (M e 2) pl p) (hc : enc p = c) (h : c < d) : cE M e c + 1 ≤ cE M e d ∧ cE M e c < M e 2 := by
  obtain ⟨j, j0, j1, j2⟩ := hp
  have hj := (hl.2.2 j j0 j1).2.1
  rw [j2, hc] at hj
  have a := sm_add1 (n := M e 2) (k := j) (f := fun j => b1 (M (e + 1) j < c)) (g := fun i => if i = j then 1 else b1 (M (e + 1) i < c)) j0 j1 (fun i _ _ q => if_neg q)
  have e1 : (if j = j then (1 : Int) else b1 (M (e + 1) j < c)) = 1 := if_pos rfl
  have e2 : b1 (M (e + 1) j < c) = 0 := b1_f (by omega)
  have b := sm_le (n := M e 2) (f := fun i => if i = j then 1 else b1 (M (e + 1) i < c)) (g := fun j => b1 (M (e + 1) j < d)) (fun i _ _ => by
    show (if i = j then _ else _ : Int) ≤ _
    by_cases q : i = j
    · rw [if_pos q, q, b1_t (by omega)]; exact Int.le_refl _
    · rw [if_neg q]
      by_cases r : M (e + 1) i < c
      · rw [b1_t r, b1_t (by omega)]; exact Int.le_refl _
      · rw [b1_f r]; exact (b1_rng _).1)
  have d2 := cE_rng (M := M) (e := e) (c := d) hl.1
  unfold cE at *
  rw [e1, e2] at a
  omega
/-- what the class makes of three lists: a fold over their union -/
noncomputable def jstp (co cx cy : List Int → Int) (s : jT) (p : List Int) : jT := jst (co p) (cx p) (cy p) p s
noncomputable def jfo (co cx cy : List Int → Int) (U : List (List Int)) : jT := U.foldl (jstp co cx cy) ([], 0)
theorem jfo_snoc (co cx cy : List Int → Int) (U : List (List Int)) (p : List Int) : jfo co cx cy (U ++ [p]) = jst (co p) (cx p) (cy p) p (jfo co cx cy U) := by
  unfold jfo
  rw [List.foldl_append]
  rfl
theorem cfV_rng (o x y : Int) : 0 ≤ cfV o x y ∧ cfV o x y ≤ 1 := by unfold cfV; split <;> omega
theorem jst_len (o x y : Int) (p : List Int) (s : jT) : (jst o x y p s).1.length ≤ s.1.length + 1 ∧ s.2 ≤ (jst o x y p s).2 ∧ (jst o x y p s).2 ≤ s.2 + 1 ∧ ∀ q ∈ (jst o x y p s).1, q ∈ s.1 ∨ (q = (p, isV o x y) ∧ 0 ≤ isV o x y) := by
  have hc := cfV_rng o x y
  by_cases h : isV o x y < 0
  · rw [jst_N h]; exact ⟨by show s.1.length ≤ _; omega, by show _ ≤ s.2 + _; omega, by show s.2 + _ ≤ _; omega, fun q hq => Or.inl hq⟩
  · by_cases h2 : ∃ q ∈ s.1, mt q.1 p
    · rw [jst_L h h2]; exact ⟨by show s.1.length ≤ _; omega, by show _ ≤ s.2 + _; omega, by show s.2 + _ ≤ _; omega, fun q hq => Or.inl hq⟩
    · rw [jst_A h h2]
      refine ⟨by show (s.1 ++ _).length ≤ _; rw [List.length_append]; exact Nat.le_refl _, by show _ ≤ s.2 + _; omega, by show s.2 + _ ≤ _; omega, fun q hq => ?_⟩
      rcases List.mem_append.mp hq with r | r
      · exact Or.inl r
      · simp only [List.mem_cons, List.not_mem_nil, or_false] at r
        exact Or.inr ⟨r, by omega⟩
theorem jfo_len (co cx cy : List Int → Int) : ∀ (U V : List (List Int)), (∀ p, p ∈ V ↔ p ∈ U.reverse) → V = U.reverse → (jfo co cx cy V).1.length ≤ V.length ∧ 0 ≤ (jfo co cx cy V).2 ∧ (jfo co cx cy V).2 ≤ V.length ∧ ∀ q ∈ (jfo co cx cy V).1, q.1 ∈ V ∧ q.2 = isV (co q.1) (cx q.1) (cy q.1) ∧ 0 ≤ q.2 := by
  intro U
  induction U with
  | nil => intro V _ h; subst h; exact ⟨Nat.le_refl _, Int.le_refl _, Int.le_refl _, fun q hq => absurd hq (by simp [jfo])⟩
  | cons a U ih =>
    intro V _ h
    subst h
    rw [List.reverse_cons, jfo_snoc]
    obtain ⟨h1, h2, h3, h4⟩ := ih U.reverse (fun _ => Iff.rfl) rfl
    obtain ⟨g1, g2, g3, g4⟩ := jst_len (co a) (cx a) (cy a) a (jfo co cx cy U.reverse)
    rw [List.length_append]
    refine ⟨by simp only [List.length_cons, List.length_nil]; omega, by omega, by simp only [List.length_cons, List.length_nil]; omega, fun q hq => ?_⟩
    rcases g4 q hq with r | ⟨r, r2⟩
    · have := h4 q r
      exact ⟨List.mem_append.mpr (Or.inl this.1), this.2⟩
    · rw [r]; exact ⟨by simp, rfl, r2⟩
