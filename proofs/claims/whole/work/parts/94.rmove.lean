set_option maxRecDepth 100000 in
/-- X12_turnsPath -/
theorem cd_227 : px_at 227 0 = some (1, [], .aload_n 0, []) ∧ px_at 227 1 = some (4, [], .getfield 7, [11, 0, 2, 1, 125]) ∧ px_at 227 4 = some (5, [], .iload_n 1, []) ∧ px_at 227 5 = some (6, [], .iaload, []) ∧ px_at 227 6 = some (7, [], .aload_n 0, []) ∧ px_at 227 7 = some (10, [], .getfield 20, [11, 4, 2, 1, 129]) ∧ px_at 227 10 = some (11, [], .iconst 0, []) ∧ px_at 227 11 = some (12, [], .iaload, []) ∧ px_at 227 12 = some (13, [], .isub, []) ∧ px_at 227 13 = some (14, [], .aload_n 0, []) ∧ px_at 227 14 = some (17, [], .getfield 23, [11, 5, 2, 1, 130]) ∧ px_at 227 17 = some (18, [], .iconst 0, []) ∧ px_at 227 18 = some (19, [], .iaload, []) ∧ px_at 227 19 = some (20, [], .iadd, []) ∧ px_at 227 20 = some (21, [], .istore_n 2, []) ∧ px_at 227 21 = some (22, [], .iload_n 2, []) ∧ px_at 227 22 = some (24, [], .bipush 12, []) ∧ px_at 227 24 = some (27, [], .if_icmp .le 5, [29]) ∧ px_at 227 27 = some (28, [], .iconst 0, []) ∧ px_at 227 28 = some (29, [], .ireturn, [4]) ∧ px_at 227 29 = some (30, [], .aload_n 0, []) ∧ px_at 227 30 = some (33, [], .getfield 26, [11, 6, 2, 1, 131]) ∧ px_at 227 33 = some (34, [], .iconst 0, []) ∧ px_at 227 34 = some (35, [], .iload_n 2, []) ∧ px_at 227 35 = some (36, [], .iastore, []) ∧ px_at 227 36 = some (37, [], .iconst 0, []) ∧ px_at 227 37 = some (38, [], .istore_n 3, []) ∧ px_at 227 38 = some (39, [1, 1, 1, 1], .iload_n 3, []) ∧ px_at 227 39 = some (41, [], .bipush 12, []) ∧ px_at 227 41 = some (44, [], .if_icmp .ge 71, [112]) ∧ px_at 227 44 = some (45, [], .aload_n 0, []) ∧ px_at 227 45 = some (48, [], .getfield 26, [11, 6, 2, 1, 131]) ∧ px_at 227 48 = some (49, [], .iconst 1, []) ∧ px_at 227 49 = some (50, [], .iload_n 3, []) ∧ px_at 227 50 = some (51, [], .iadd, []) ∧ px_at 227 51 = some (52, [], .iload_n 3, []) ∧ px_at 227 52 = some (53, [], .iload_n 2, []) ∧ px_at 227 53 = some (56, [], .if_icmp .lt 7, [60]) ∧ px_at 227 56 = some (57, [], .iconst 0, []) ∧ px_at 227 57 = some (60, [], .goto 48, [105]) ∧ px_at 227 60 = some (61, [], .iload_n 3, []) ∧ px_at 227 61 = some (62, [], .aload_n 0, []) ∧ px_at 227 62 = some (65, [], .getfield 23, [11, 5, 2, 1, 130]) ∧ px_at 227 65 = some (66, [], .iconst 0, []) ∧ px_at 227 66 = some (67, [], .iaload, []) ∧ px_at 227 67 = some (70, [], .if_icmp .ge 14, [81]) ∧ px_at 227 70 = some (71, [], .aload_n 0, []) ∧ px_at 227 71 = some (74, [], .getfield 23, [11, 5, 2, 1, 130]) ∧ px_at 227 74 = some (75, [], .iconst 1, []) ∧ px_at 227 75 = some (76, [], .iload_n 3, []) ∧ px_at 227 76 = some (77, [], .iadd, []) ∧ px_at 227 77 = some (78, [], .iaload, []) ∧ px_at 227 78 = some (81, [], .goto 27, [105]) ∧ px_at 227 81 = some (82, [], .aload_n 0, []) ∧ px_at 227 82 = some (85, [], .getfield 7, [11, 0, 2, 1, 125]) ∧ px_at 227 85 = some (86, [], .iload_n 1, []) ∧ px_at 227 86 = some (87, [], .iconst 1, []) ∧ px_at 227 87 = some (88, [], .iadd, []) ∧ px_at 227 88 = some (89, [], .iload_n 3, []) ∧ px_at 227 89 = some (90, [], .iadd, []) ∧ px_at 227 90 = some (91, [], .aload_n 0, []) ∧ px_at 227 91 = some (94, [], .getfield 23, [11, 5, 2, 1, 130]) ∧ px_at 227 94 = some (95, [], .iconst 0, []) ∧ px_at 227 95 = some (96, [], .iaload, []) ∧ px_at 227 96 = some (97, [], .isub, []) ∧ px_at 227 97 = some (98, [], .aload_n 0, []) ∧ px_at 227 98 = some (101, [], .getfield 20, [11, 4, 2, 1, 129]) ∧ px_at 227 101 = some (102, [], .iconst 0, []) ∧ px_at 227 102 = some (103, [], .iaload, []) ∧ px_at 227 103 = some (104, [], .iadd, []) ∧ px_at 227 104 = some (105, [], .iaload, []) ∧ px_at 227 105 = some (106, [], .iastore, []) ∧ px_at 227 106 = some (109, [], .iinc 3 1, []) ∧ px_at 227 109 = some (112, [], .goto (-71), [38]) ∧ px_at 227 112 = some (113, [], .iconst 1, []) ∧ px_at 227 113 = some (114, [], .ireturn, [4]) := ⟨rfl, rfl, rfl, rfl, rfl, rfl, rfl, rfl, rfl, rfl, rfl, rfl, rfl, rfl, rfl, rfl, rfl, rfl, rfl, rfl, rfl, rfl, rfl, rfl, rfl, rfl, rfl, rfl, rfl, rfl, rfl, rfl, rfl, rfl, rfl, rfl, rfl, rfl, rfl, rfl, rfl, rfl, rfl, rfl, rfl, rfl, rfl, rfl, rfl, rfl, rfl, rfl, rfl, rfl, rfl, rfl, rfl, rfl, rfl, rfl, rfl, rfl, rfl, rfl, rfl, rfl, rfl, rfl, rfl, rfl, rfl, rfl, rfl, rfl, rfl, rfl⟩
set_option maxRecDepth 100000 in
/-- X12_canMove -/
theorem cd_228 : px_at 228 0 = some (1, [], .iconst 0, []) ∧ px_at 228 1 = some (2, [], .istore_n 2, []) ∧ px_at 228 2 = some (3, [1, 1, 1, 0], .iload_n 2, []) ∧ px_at 228 3 = some (4, [], .aload_n 0, []) ∧ px_at 228 4 = some (7, [], .getfield 7, [11, 0, 2, 1, 125]) ∧ px_at 228 7 = some (8, [], .iconst 0, []) ∧ px_at 228 8 = some (9, [], .iaload, []) ∧ px_at 228 9 = some (12, [], .if_icmp .ge 110, [119]) ∧ px_at 228 12 = some (13, [], .aload_n 0, []) ∧ px_at 228 13 = some (16, [], .getfield 7, [11, 0, 2, 1, 125]) ∧ px_at 228 16 = some (17, [], .aload_n 0, []) ∧ px_at 228 17 = some (18, [], .iload_n 2, []) ∧ px_at 228 18 = some (21, [], .invokevirtual 196, [214, 1, 11, 229]) ∧ px_at 228 21 = some (22, [], .aload_n 0, []) ∧ px_at 228 22 = some (25, [], .getfield 20, [11, 4, 2, 1, 129]) ∧ px_at 228 25 = some (26, [], .iconst 0, []) ∧ px_at 228 26 = some (29, [], .invokestatic 104, [183, 4, 11, 233]) ∧ px_at 228 29 = some (32, [], .ifCond .ne 6, [35]) ∧ px_at 228 32 = some (35, [], .goto 81, [113]) ∧ px_at 228 35 = some (36, [], .aload_n 0, []) ∧ px_at 228 36 = some (37, [], .aload_n 0, []) ∧ px_at 228 37 = some (38, [], .iload_n 2, []) ∧ px_at 228 38 = some (41, [], .invokevirtual 196, [214, 1, 11, 229]) ∧ px_at 228 41 = some (44, [], .invokevirtual 242, [227, 1, 11, 245]) ∧ px_at 228 44 = some (47, [], .ifCond .ne 5, [49]) ∧ px_at 228 47 = some (48, [], .iconst 0, []) ∧ px_at 228 48 = some (49, [], .ireturn, [4]) ∧ px_at 228 49 = some (50, [], .iconst 0, []) ∧ px_at 228 50 = some (51, [], .istore_n 3, []) ∧ px_at 228 51 = some (52, [1, 1, 1, 1], .iload_n 3, []) ∧ px_at 228 52 = some (53, [], .aload_n 0, []) ∧ px_at 228 53 = some (56, [], .getfield 7, [11, 0, 2, 1, 125]) ∧ px_at 228 56 = some (57, [], .iconst 0, []) ∧ px_at 228 57 = some (58, [], .iaload, []) ∧ px_at 228 58 = some (61, [], .if_icmp .ge 55, [113]) ∧ px_at 228 61 = some (62, [], .iload_n 1, []) ∧ px_at 228 62 = some (65, [], .ifCond .ne 23, [85]) ∧ px_at 228 65 = some (66, [], .aload_n 0, []) ∧ px_at 228 66 = some (69, [], .getfield 7, [11, 0, 2, 1, 125]) ∧ px_at 228 69 = some (70, [], .aload_n 0, []) ∧ px_at 228 70 = some (71, [], .iload_n 3, []) ∧ px_at 228 71 = some (74, [], .invokevirtual 196, [214, 1, 11, 229]) ∧ px_at 228 74 = some (75, [], .aload_n 0, []) ∧ px_at 228 75 = some (78, [], .getfield 20, [11, 4, 2, 1, 129]) ∧ px_at 228 78 = some (79, [], .iconst 0, []) ∧ px_at 228 79 = some (82, [], .invokestatic 104, [183, 4, 11, 233]) ∧ px_at 228 82 = some (85, [], .ifCond .ne 25, [107]) ∧ px_at 228 85 = some (86, [], .aload_n 0, []) ∧ px_at 228 86 = some (89, [], .getfield 7, [11, 0, 2, 1, 125]) ∧ px_at 228 89 = some (90, [], .aload_n 0, []) ∧ px_at 228 90 = some (91, [], .iload_n 3, []) ∧ px_at 228 91 = some (94, [], .invokevirtual 196, [214, 1, 11, 229]) ∧ px_at 228 94 = some (95, [], .aload_n 0, []) ∧ px_at 228 95 = some (98, [], .getfield 26, [11, 6, 2, 1, 131]) ∧ px_at 228 98 = some (99, [], .iconst 0, []) ∧ px_at 228 99 = some (102, [], .invokestatic 225, [184, 4, 11, 232]) ∧ px_at 228 102 = some (105, [], .ifCond .eq 5, [107]) ∧ px_at 228 105 = some (106, [], .iconst 0, []) ∧ px_at 228 106 = some (107, [], .ireturn, [4]) ∧ px_at 228 107 = some (110, [], .iinc 3 1, []) ∧ px_at 228 110 = some (113, [], .goto (-59), [51]) ∧ px_at 228 113 = some (116, [], .iinc 2 1, []) ∧ px_at 228 116 = some (119, [], .goto (-114), [2]) ∧ px_at 228 119 = some (120, [], .iconst 1, []) ∧ px_at 228 120 = some (121, [], .ireturn, [4]) := ⟨rfl, rfl, rfl, rfl, rfl, rfl, rfl, rfl, rfl, rfl, rfl, rfl, rfl, rfl, rfl, rfl, rfl, rfl, rfl, rfl, rfl, rfl, rfl, rfl, rfl, rfl, rfl, rfl, rfl, rfl, rfl, rfl, rfl, rfl, rfl, rfl, rfl, rfl, rfl, rfl, rfl, rfl, rfl, rfl, rfl, rfl, rfl, rfl, rfl, rfl, rfl, rfl, rfl, rfl, rfl, rfl, rfl, rfl, rfl, rfl, rfl, rfl, rfl, rfl, rfl⟩
/-! the reference: move, copy -/
theorem lst_app_drop {T Y : Int → Int} {tn xn fl : Int} (h0 : 0 ≤ tn) (h1 : 0 ≤ fl) (h2 : fl ≤ xn) : lst T tn ++ (lst Y xn).drop fl.toNat = lst (fun j => if j < tn then T j else Y (j - tn + fl)) (xn - fl + tn) := by
  apply List.ext_getElem?
  intro i
  rw [List.getElem?_append, lst_lenN]
  by_cases q : i < tn.toNat
  · rw [if_pos q, lst_get (by omega), lst_get (by omega), if_pos (by omega)]
  · rw [if_neg q, List.getElem?_drop]
    by_cases r : (i : Int) < xn - fl + tn
    · rw [lst_get (by omega), lst_get r, if_neg (by omega)]
      congr 2
      omega
    · rw [lst_get_none (by omega), lst_get_none (by omega)]
theorem rnp_self {f p : List Int} (h : wi p f) : rnp f f p = p := by
  unfold rnp
  have e := List.take_append_drop f.length p
  rw [wi_take h] at e
  exact e
theorem canR_self {n : Int} {g : Int → fe} {f : List Int} (hs : sgI n g) (hg : ∀ i, 0 ≤ i → i < n → (g i).1.length ≤ 12) : canR n g f f f := fun i i0 i1 w => by
  refine ⟨by have := hg i i0 i1; omega, ?_⟩
  rw [rnp_self w]
  rintro ⟨k, k0, k1, k2, k3⟩
  have := hs.2.1 k i k0 k1 i0 i1 k3
  rw [this] at k2
  exact k2 w
section PS
variable {M : px_mem} {Q : Option pv → px_mem → Prop}
set_option maxHeartbeats 600000 in
set_option maxRecDepth 100000 in
theorem lp_turns {M0 : px_mem} {a n F0 T0 X0 : Int} (ha : 0 ≤ a ∧ a + 13 ≤ 3154) (hF : M0 131 0 = F0) (hT : M0 132 0 = T0) (hF0 : 0 ≤ F0 ∧ F0 ≤ X0) (hX0 : X0 ≤ 12) (hT0 : 0 ≤ T0 ∧ T0 ≤ 12) (hn : n = X0 - F0 + T0) (hn2 : n ≤ 12) (h : ∀ M', M' 133 0 = n → (∀ j, 0 ≤ j → j < 12 → M' 133 (1 + j) = if n ≤ j then 0 else if j < T0 then M0 132 (1 + j) else M0 128 (a + 1 + j - T0 + F0)) → (∀ b, b ≠ 133 → M' b = M0 b) → Q (some (0, 1)) M') (k : Int) (hk_k : k ≤ 12) : ∀ (M : px_mem), 0 ≤ k → M 133 0 = n → (∀ j, 0 ≤ j → j < k → M 133 (1 + j) = if n ≤ j then 0 else if j < T0 then M0 132 (1 + j) else M0 128 (a + 1 + j - T0 + F0)) → (∀ b, b ≠ 133 → M b = M0 b) → px_WP 227 0 0 (px_Q0 LAY Q) 38 [(2, 127), (0, a), (0, n), (0, k)] [] LAY M 0 0 := by
  refine up_ind (P := fun k => ∀ (M : px_mem), 0 ≤ k → M 133 0 = n → (∀ j, 0 ≤ j → j < k → M 133 (1 + j) = if n ≤ j then 0 else if j < T0 then M0 132 (1 + j) else M0 128 (a + 1 + j - T0 + F0)) → (∀ b, b ≠ 133 → M b = M0 b) → px_WP 227 0 0 (px_Q0 LAY Q) 38 [(2, 127), (0, a), (0, n), (0, k)] [] LAY M 0 0) (12) (fun k hk_k ih => ?_) k hk_k
  intro M k0 h0 hv hf
  have e131 := hf 131 (by decide)
  have e132 := hf 132 (by decide)
  have e128 := hf 128 (by decide)
  have hnx : k < 12 → ∀ y, y = (if n ≤ k then 0 else if k < T0 then M0 132 (1 + k) else M0 128 (a + 1 + k - T0 + F0)) → px_WP 227 0 0 (px_Q0 LAY Q) 38 [(2, 127), (0, a), (0, n), (0, k + 1)] [] LAY (px_up M 133 (1 + k) y) 0 0 := fun q y hy => ih q _ (by omega) (by rw [px_up_at, if_neg (by omega)]; exact h0) (fun j j0 j1 => by
    rw [px_up_at]
    by_cases r : j = k
    · rw [if_pos ⟨rfl, by omega⟩, r]; exact hy
    · rw [if_neg (by omega)]; exact hv j j0 (by omega)) (fun b b0 => by rw [row_ne b0]; exact hf b b0)
  refine px_go_ok (inl := []) 60 ?_
  simp only [px_go, px_Q0_at, px_sx_0, px_sx_s, px_cl, px_step, ↓px_ll, px_lg, f4_, ↓px_r1, ↓px_r2, ↓px_r4, ↓px_r5, ↓px_p1, ↓px_p2, ↓px_p3, ↓px_pop, px_k_0, px_k_s, px_k3_0, px_stk_, px_cats, px_ent, px_st1, px_st2, px_mask, ↓px_tsw, ↓px_lsw, ct_, mls_0, mls_1, mls_2, mls_3, mls_4, mls_5, kd_0, kd_1, kd_2, kd_3, ln_0, ln_1, ln_2, ln_3, gf_0, gf_1, gf_2, gf_3, gf_4, gf_7, gf_21, gf_63, dy_0, dy_1, dy_2, dy_3, dy_7, dy_21, px_brT, px_brF, true_and, and_true, and_false, false_and, and_self, true_implies, false_implies, or_true, true_or, or_false, false_or, eq_self, ne_eq, not_false_eq_true, not_true_eq_false, if_true, if_false, List.mem_cons, List.not_mem_nil, List.length_cons, List.length_nil, Nat.reduceEqDiff, Nat.reduceAdd, Nat.reduceSub, Nat.reduceLeDiff, Nat.reduceLT, Int.reduceEq, Int.reduceLT, Int.reduceLE, Int.reduceNeg, Int.reduceAdd, Int.reduceSub, Int.reduceToNat, ↓reduceIte, one_ne_zero_, zero_ne_one_, px_in32L, cd_227, e131, e132, e128, hF, hT]
  repeat' (first | (with_reducible apply And.intro) | (with_reducible refine px_br_intro (fun _ => ?_) (fun _ => ?_)))
  all_goals (try (first | (unfold px_in32; omega) | omega))
  · rename_i c1
    exact h M h0 (fun j j0 j1 => hv j j0 (by omega)) hf
  · rename_i c1 c2 c3
    exact hnx (by omega) _ (by rw [if_neg (by omega), if_neg (by omega)])
  · rename_i c1 c2 c3
    exact hnx (by omega) _ (by rw [if_neg (by omega), if_pos (by omega)])
  · rename_i c1 c2
    exact hnx (by omega) _ (by rw [if_pos (by omega)])
set_option maxHeartbeats 600000 in
set_option maxRecDepth 100000 in
theorem sp_turns {a : Int} {f t X : List Int} (hf : pth M 131 f) (ht : pth M 132 t) (hfn : f ≠ []) (hX : pok (M 128) a 3154) (hX2 : fp (M 128) a = X) (hw : wi X f) (h0 : 12 < (X.length : Int) - f.length + t.length → Q (some (0, 0)) M) (h1 : ∀ M', (X.length : Int) - f.length + t.length ≤ 12 → pth M' 133 (rnp f t X) → (∀ b, b ≠ 133 → M' b = M b) → Q (some (0, 1)) M') : px_Ok 227 [(2, 127), (0, a)] LAY M Q := by
  have hXl : M 128 a = (X.length : Int) := by rw [← hX2, fp_len hX.2.1]
  have hfl := hf.1
  have htl := ht.1
  have hwl := wi_len hw
  have hX1 := hX.1
  have hX3 := hX.2.2.1
  have hX4 := hX.2.2.2.1
  have ht3 := ht.2.2.2.2.1
  refine px_ok_go (inl := []) (ls0 := [(2, 127), (0, a), (9, 0), (9, 0)]) 60 (by decide) (Nat.le_of_ble_eq_true rfl) rfl ?_
  simp only [px_go, px_Q0_at, px_sx_0, px_sx_s, px_cl, px_step, ↓px_ll, px_lg, f4_, ↓px_r1, ↓px_r2, ↓px_r4, ↓px_r5, ↓px_p1, ↓px_p2, ↓px_p3, ↓px_pop, px_k_0, px_k_s, px_k3_0, px_stk_, px_cats, px_ent, px_st1, px_st2, px_mask, ↓px_tsw, ↓px_lsw, ct_, mls_0, mls_1, mls_2, mls_3, mls_4, mls_5, kd_0, kd_1, kd_2, kd_3, ln_0, ln_1, ln_2, ln_3, gf_0, gf_1, gf_2, gf_3, gf_4, gf_7, gf_21, gf_63, dy_0, dy_1, dy_2, dy_3, dy_7, dy_21, px_brT, px_brF, true_and, and_true, and_false, false_and, and_self, true_implies, false_implies, or_true, true_or, or_false, false_or, eq_self, ne_eq, not_false_eq_true, not_true_eq_false, if_true, if_false, List.mem_cons, List.not_mem_nil, List.length_cons, List.length_nil, Nat.reduceEqDiff, Nat.reduceAdd, Nat.reduceSub, Nat.reduceLeDiff, Nat.reduceLT, Int.reduceEq, Int.reduceLT, Int.reduceLE, Int.reduceNeg, Int.reduceAdd, Int.reduceSub, Int.reduceToNat, ↓reduceIte, one_ne_zero_, zero_ne_one_, px_in32L, cd_227, hXl, hfl, htl]
  repeat' (first | (with_reducible apply And.intro) | (with_reducible refine px_br_intro (fun _ => ?_) (fun _ => ?_)))
  all_goals (try (first | (unfold px_in32; omega) | omega))
  · rename_i c1
    refine lp_turns (M0 := px_up M 133 0 ((X.length : Int) - f.length + t.length)) (a := a) (F0 := (f.length : Int)) (T0 := (t.length : Int)) (X0 := (X.length : Int)) ⟨hX1, hX4⟩ (by rw [row_ne (by decide)]; exact hfl) (by rw [row_ne (by decide)]; exact htl) (by omega) (by omega) (by omega) rfl c1 (fun M' a1 a2 a3 => ?_) 0 (by decide) _ (Int.le_refl 0) (by rw [px_up_at, if_pos ⟨rfl, rfl⟩]) (fun j j0 j1 => by omega) (fun _ _ => rfl)
    rw [row_ne (by decide), row_ne (by decide)] at a2
    have hrl : ((rnp f t X).length : Int) = (X.length : Int) - f.length + t.length := by
      unfold rnp
      rw [List.length_append, List.length_drop]
      omega
    refine h1 M' c1 ⟨by rw [hrl]; exact a1, ?_, ⟨Int.le_refl 0, by omega, by omega, by decide, fun k k0 k1 => ?_⟩⟩ (fun b b0 => by rw [a3 b b0, row_ne b0])
    · have e : rnp f t X = lst (fun j => if j < (t.length : Int) then M 132 (0 + 1 + j) else M 128 (a + 1 + (j - (t.length : Int) + (f.length : Int)))) ((X.length : Int) - f.length + t.length) := by
        have := lst_app_drop (T := fun k => M 132 (0 + 1 + k)) (Y := fun k => M 128 (a + 1 + k)) (tn := (t.length : Int)) (xn := (X.length : Int)) (fl := (f.length : Int)) (by omega) (by omega) (by omega)
        rw [← this]
        unfold rnp
        have e1 : lst (fun k => M 132 (0 + 1 + k)) (t.length : Int) = t := by rw [← htl]; exact ht.2.1
        have e2 : lst (fun k => M 128 (a + 1 + k)) (X.length : Int) = X := by rw [← hXl]; exact hX2
        rw [e1, e2, Int.toNat_natCast]
      rw [e]
      unfold fp
      rw [a1]
      refine lst_congr (fun j j0 j1 => ?_)
      rw [show (0 : Int) + 1 + j = 1 + j by omega, a2 j j0 (by omega), if_neg (by omega)]
      by_cases q : j < (t.length : Int)
      · rw [if_pos q, if_pos q]
      · rw [if_neg q, if_neg q, show a + 1 + j - (t.length : Int) + (f.length : Int) = a + 1 + (j - (t.length : Int) + (f.length : Int)) by omega]
    · rw [show (0 : Int) + 1 + k = 1 + k by omega, a2 k k0 (by omega), if_neg (by omega)]
      by_cases q : k < (t.length : Int)
      · rw [if_pos q]
        have := ht.2.2.2.2.2.2 k k0 (by omega)
        rw [show (0 : Int) + 1 + k = 1 + k by omega] at this
        exact this
      · rw [if_neg q]
        have := hX.2.2.2.2 (k - (t.length : Int) + (f.length : Int)) (by omega) (by omega)
        rw [show a + 1 + (k - (t.length : Int) + (f.length : Int)) = a + 1 + k - (t.length : Int) + (f.length : Int) by omega] at this
        exact this
  · rename_i c1
    exact h0 (by omega)
set_option maxHeartbeats 600000 in
set_option maxRecDepth 100000 in
theorem lp_can2 {N i s : Int} {g : Int → fe} {f R q : List Int} (hst : sR (M 128) N g) (hi : 0 ≤ i ∧ i < N) (hs : (s = 1 ∧ q = []) ∨ (s = 0 ∧ q = f)) (hf : pth M 131 f) (hfn : f ≠ []) (hR : pth M 133 R) (hRn : R ≠ []) (h0 : mtg N g R q → Q (some (0, 0)) M) (hx : ¬ mtg N g R q → px_WP 228 0 0 (px_Q0 LAY Q) 2 [(2, 127), (0, s), (0, i + 1), (9, 0)] [] LAY M 0 0) (k : Int) (hk_k : k ≤ N) : 0 ≤ k → (∀ j, 0 ≤ j → j < k → ¬ (¬ wi (g j).1 q ∧ mt (g j).1 R)) → px_WP 228 0 0 (px_Q0 LAY Q) 51 [(2, 127), (0, s), (0, i), (0, k)] [] LAY M 0 0 := by
  refine up_ind (P := fun k => 0 ≤ k → (∀ j, 0 ≤ j → j < k → ¬ (¬ wi (g j).1 q ∧ mt (g j).1 R)) → px_WP 228 0 0 (px_Q0 LAY Q) 51 [(2, 127), (0, s), (0, i), (0, k)] [] LAY M 0 0) (N) (fun k hk_k ih => ?_) k hk_k
  intro k0 hj
  have h1 := hst.1
  have h2 := hst.2.1
  have hn3 := hst.2.2.1
  have hfl : 0 < M 131 0 := by rw [hf.1]; have := List.length_pos_iff.mpr hfn; omega
  have hRl : 0 < M 133 0 := by rw [hR.1]; have := List.length_pos_iff.mpr hRn; omega
  have hnx : k < N → ¬ (¬ wi (g k).1 q ∧ mt (g k).1 R) → px_WP 228 0 0 (px_Q0 LAY Q) 51 [(2, 127), (0, s), (0, i), (0, k + 1)] [] LAY M 0 0 := fun z y => ih z (by omega) (fun j j0 j1 => by
    by_cases r : j = k
    · rw [r]; exact y
    · exact hj j j0 (by omega))
  refine px_go_ok (inl := [214]) 60 ?_
  simp only [px_go, px_Q0_at, px_sx_0, px_sx_s, px_cl, px_step, ↓px_ll, px_lg, f4_, ↓px_r1, ↓px_r2, ↓px_r4, ↓px_r5, ↓px_p1, ↓px_p2, ↓px_p3, ↓px_pop, px_k_0, px_k_s, px_k3_0, px_stk_, px_cats, px_ent, px_st1, px_st2, px_mask, ↓px_tsw, ↓px_lsw, ct_, mls_0, mls_1, mls_2, mls_3, mls_4, mls_5, kd_0, kd_1, kd_2, kd_3, ln_0, ln_1, ln_2, ln_3, gf_0, gf_1, gf_2, gf_3, gf_4, gf_7, gf_21, gf_63, dy_0, dy_1, dy_2, dy_3, dy_7, dy_21, px_brT, px_brF, true_and, and_true, and_false, false_and, and_self, true_implies, false_implies, or_true, true_or, or_false, false_or, eq_self, ne_eq, not_false_eq_true, not_true_eq_false, if_true, if_false, List.mem_cons, List.not_mem_nil, List.length_cons, List.length_nil, Nat.reduceEqDiff, Nat.reduceAdd, Nat.reduceSub, Nat.reduceLeDiff, Nat.reduceLT, Int.reduceEq, Int.reduceLT, Int.reduceLE, Int.reduceNeg, Int.reduceAdd, Int.reduceSub, Int.reduceToNat, ↓reduceIte, one_ne_zero_, zero_ne_one_, px_in32L, cd_228, cd_214, h1]
  repeat' (first | (with_reducible apply And.intro) | (with_reducible refine px_br_intro (fun _ => ?_) (fun _ => ?_)))
  all_goals (try (first | (unfold px_in32; omega) | omega))
  · rename_i c1
    exact hx (fun ⟨j, j0, j1, j2⟩ => hj j j0 (by omega) j2)
  · rename_i c1 c2
    have hq : q = f := by rcases hs with z | z; omega; exact z.2
    have fk := hst.2.2.2 k k0 (by omega)
    refine sp_isUnder rfl rfl fk.2.2.1 hf.2.2 ⟨by decide, by decide⟩ hfl (fun w => ?_) (fun w => ?_)
    · rw [fk.2.2.2.1, hf.2.1] at w
      simp only [px_go, px_Q0_at, px_sx_0, px_sx_s, px_cl, px_step, ↓px_ll, px_lg, f4_, ↓px_r1, ↓px_r2, ↓px_r4, ↓px_r5, ↓px_p1, ↓px_p2, ↓px_p3, ↓px_pop, px_k_0, px_k_s, px_k3_0, px_stk_, px_cats, px_ent, px_st1, px_st2, px_mask, ↓px_tsw, ↓px_lsw, ct_, mls_0, mls_1, mls_2, mls_3, mls_4, mls_5, kd_0, kd_1, kd_2, kd_3, ln_0, ln_1, ln_2, ln_3, gf_0, gf_1, gf_2, gf_3, gf_4, gf_7, gf_21, gf_63, dy_0, dy_1, dy_2, dy_3, dy_7, dy_21, px_brT, px_brF, true_and, and_true, and_false, false_and, and_self, true_implies, false_implies, or_true, true_or, or_false, false_or, eq_self, ne_eq, not_false_eq_true, not_true_eq_false, if_true, if_false, List.mem_cons, List.not_mem_nil, List.length_cons, List.length_nil, Nat.reduceEqDiff, Nat.reduceAdd, Nat.reduceSub, Nat.reduceLeDiff, Nat.reduceLT, Int.reduceEq, Int.reduceLT, Int.reduceLE, Int.reduceNeg, Int.reduceAdd, Int.reduceSub, Int.reduceToNat, ↓reduceIte, one_ne_zero_, zero_ne_one_, px_in32L, cd_228, cd_214]
      repeat' (first | (with_reducible apply And.intro) | (with_reducible refine px_br_intro (fun _ => ?_) (fun _ => ?_)))
      all_goals (try (first | (unfold px_in32; omega) | omega))
      exact hnx (by omega) (fun z => z.1 (by rw [hq]; exact w))
    · rw [fk.2.2.2.1, hf.2.1] at w
      simp only [px_go, px_Q0_at, px_sx_0, px_sx_s, px_cl, px_step, ↓px_ll, px_lg, f4_, ↓px_r1, ↓px_r2, ↓px_r4, ↓px_r5, ↓px_p1, ↓px_p2, ↓px_p3, ↓px_pop, px_k_0, px_k_s, px_k3_0, px_stk_, px_cats, px_ent, px_st1, px_st2, px_mask, ↓px_tsw, ↓px_lsw, ct_, mls_0, mls_1, mls_2, mls_3, mls_4, mls_5, kd_0, kd_1, kd_2, kd_3, ln_0, ln_1, ln_2, ln_3, gf_0, gf_1, gf_2, gf_3, gf_4, gf_7, gf_21, gf_63, dy_0, dy_1, dy_2, dy_3, dy_7, dy_21, px_brT, px_brF, true_and, and_true, and_false, false_and, and_self, true_implies, false_implies, or_true, true_or, or_false, false_or, eq_self, ne_eq, not_false_eq_true, not_true_eq_false, if_true, if_false, List.mem_cons, List.not_mem_nil, List.length_cons, List.length_nil, Nat.reduceEqDiff, Nat.reduceAdd, Nat.reduceSub, Nat.reduceLeDiff, Nat.reduceLT, Int.reduceEq, Int.reduceLT, Int.reduceLE, Int.reduceNeg, Int.reduceAdd, Int.reduceSub, Int.reduceToNat, ↓reduceIte, one_ne_zero_, zero_ne_one_, px_in32L, cd_228, cd_214]
      repeat' (first | (with_reducible apply And.intro) | (with_reducible refine px_br_intro (fun _ => ?_) (fun _ => ?_)))
      all_goals (try (first | (unfold px_in32; omega) | omega))
      refine sp_areMeeting rfl rfl fk.2.2.1 hR.2.2 ⟨by decide, by decide⟩ (fR_pos fk) hRl (fun u => ?_) (fun u => ?_)
      · rw [fk.2.2.2.1, hR.2.1] at u
        simp only [px_go, px_Q0_at, px_sx_0, px_sx_s, px_cl, px_step, ↓px_ll, px_lg, f4_, ↓px_r1, ↓px_r2, ↓px_r4, ↓px_r5, ↓px_p1, ↓px_p2, ↓px_p3, ↓px_pop, px_k_0, px_k_s, px_k3_0, px_stk_, px_cats, px_ent, px_st1, px_st2, px_mask, ↓px_tsw, ↓px_lsw, ct_, mls_0, mls_1, mls_2, mls_3, mls_4, mls_5, kd_0, kd_1, kd_2, kd_3, ln_0, ln_1, ln_2, ln_3, gf_0, gf_1, gf_2, gf_3, gf_4, gf_7, gf_21, gf_63, dy_0, dy_1, dy_2, dy_3, dy_7, dy_21, px_brT, px_brF, true_and, and_true, and_false, false_and, and_self, true_implies, false_implies, or_true, true_or, or_false, false_or, eq_self, ne_eq, not_false_eq_true, not_true_eq_false, if_true, if_false, List.mem_cons, List.not_mem_nil, List.length_cons, List.length_nil, Nat.reduceEqDiff, Nat.reduceAdd, Nat.reduceSub, Nat.reduceLeDiff, Nat.reduceLT, Int.reduceEq, Int.reduceLT, Int.reduceLE, Int.reduceNeg, Int.reduceAdd, Int.reduceSub, Int.reduceToNat, ↓reduceIte, one_ne_zero_, zero_ne_one_, px_in32L, cd_228, cd_214]
        exact h0 ⟨k, k0, by omega, by rw [hq]; exact w, u⟩
      · rw [fk.2.2.2.1, hR.2.1] at u
        simp only [px_go, px_Q0_at, px_sx_0, px_sx_s, px_cl, px_step, ↓px_ll, px_lg, f4_, ↓px_r1, ↓px_r2, ↓px_r4, ↓px_r5, ↓px_p1, ↓px_p2, ↓px_p3, ↓px_pop, px_k_0, px_k_s, px_k3_0, px_stk_, px_cats, px_ent, px_st1, px_st2, px_mask, ↓px_tsw, ↓px_lsw, ct_, mls_0, mls_1, mls_2, mls_3, mls_4, mls_5, kd_0, kd_1, kd_2, kd_3, ln_0, ln_1, ln_2, ln_3, gf_0, gf_1, gf_2, gf_3, gf_4, gf_7, gf_21, gf_63, dy_0, dy_1, dy_2, dy_3, dy_7, dy_21, px_brT, px_brF, true_and, and_true, and_false, false_and, and_self, true_implies, false_implies, or_true, true_or, or_false, false_or, eq_self, ne_eq, not_false_eq_true, not_true_eq_false, if_true, if_false, List.mem_cons, List.not_mem_nil, List.length_cons, List.length_nil, Nat.reduceEqDiff, Nat.reduceAdd, Nat.reduceSub, Nat.reduceLeDiff, Nat.reduceLT, Int.reduceEq, Int.reduceLT, Int.reduceLE, Int.reduceNeg, Int.reduceAdd, Int.reduceSub, Int.reduceToNat, ↓reduceIte, one_ne_zero_, zero_ne_one_, px_in32L, cd_228, cd_214]
        repeat' (first | (with_reducible apply And.intro) | (with_reducible refine px_br_intro (fun _ => ?_) (fun _ => ?_)))
        all_goals (try (first | (unfold px_in32; omega) | omega))
        exact hnx (by omega) (fun z => u z.2)
  · rename_i c1 c2
    have hq : q = [] := by rcases hs with z | z; exact z.2; omega
    have fk := hst.2.2.2 k k0 (by omega)
    refine sp_areMeeting rfl rfl fk.2.2.1 hR.2.2 ⟨by decide, by decide⟩ (fR_pos fk) hRl (fun u => ?_) (fun u => ?_)
    · rw [fk.2.2.2.1, hR.2.1] at u
      simp only [px_go, px_Q0_at, px_sx_0, px_sx_s, px_cl, px_step, ↓px_ll, px_lg, f4_, ↓px_r1, ↓px_r2, ↓px_r4, ↓px_r5, ↓px_p1, ↓px_p2, ↓px_p3, ↓px_pop, px_k_0, px_k_s, px_k3_0, px_stk_, px_cats, px_ent, px_st1, px_st2, px_mask, ↓px_tsw, ↓px_lsw, ct_, mls_0, mls_1, mls_2, mls_3, mls_4, mls_5, kd_0, kd_1, kd_2, kd_3, ln_0, ln_1, ln_2, ln_3, gf_0, gf_1, gf_2, gf_3, gf_4, gf_7, gf_21, gf_63, dy_0, dy_1, dy_2, dy_3, dy_7, dy_21, px_brT, px_brF, true_and, and_true, and_false, false_and, and_self, true_implies, false_implies, or_true, true_or, or_false, false_or, eq_self, ne_eq, not_false_eq_true, not_true_eq_false, if_true, if_false, List.mem_cons, List.not_mem_nil, List.length_cons, List.length_nil, Nat.reduceEqDiff, Nat.reduceAdd, Nat.reduceSub, Nat.reduceLeDiff, Nat.reduceLT, Int.reduceEq, Int.reduceLT, Int.reduceLE, Int.reduceNeg, Int.reduceAdd, Int.reduceSub, Int.reduceToNat, ↓reduceIte, one_ne_zero_, zero_ne_one_, px_in32L, cd_228, cd_214]
      exact h0 ⟨k, k0, by omega, by rw [hq]; exact wi_nil fk.2.1, u⟩
    · rw [fk.2.2.2.1, hR.2.1] at u
      simp only [px_go, px_Q0_at, px_sx_0, px_sx_s, px_cl, px_step, ↓px_ll, px_lg, f4_, ↓px_r1, ↓px_r2, ↓px_r4, ↓px_r5, ↓px_p1, ↓px_p2, ↓px_p3, ↓px_pop, px_k_0, px_k_s, px_k3_0, px_stk_, px_cats, px_ent, px_st1, px_st2, px_mask, ↓px_tsw, ↓px_lsw, ct_, mls_0, mls_1, mls_2, mls_3, mls_4, mls_5, kd_0, kd_1, kd_2, kd_3, ln_0, ln_1, ln_2, ln_3, gf_0, gf_1, gf_2, gf_3, gf_4, gf_7, gf_21, gf_63, dy_0, dy_1, dy_2, dy_3, dy_7, dy_21, px_brT, px_brF, true_and, and_true, and_false, false_and, and_self, true_implies, false_implies, or_true, true_or, or_false, false_or, eq_self, ne_eq, not_false_eq_true, not_true_eq_false, if_true, if_false, List.mem_cons, List.not_mem_nil, List.length_cons, List.length_nil, Nat.reduceEqDiff, Nat.reduceAdd, Nat.reduceSub, Nat.reduceLeDiff, Nat.reduceLT, Int.reduceEq, Int.reduceLT, Int.reduceLE, Int.reduceNeg, Int.reduceAdd, Int.reduceSub, Int.reduceToNat, ↓reduceIte, one_ne_zero_, zero_ne_one_, px_in32L, cd_228, cd_214]
      repeat' (first | (with_reducible apply And.intro) | (with_reducible refine px_br_intro (fun _ => ?_) (fun _ => ?_)))
      all_goals (try (first | (unfold px_in32; omega) | omega))
      exact hnx (by omega) (fun z => u z.2)
set_option maxHeartbeats 600000 in
set_option maxRecDepth 100000 in
theorem lp_can1 {M0 : px_mem} {N s : Int} {g : Int → fe} {f t q : List Int} (hst : sR (M0 128) N g) (hs : (s = 1 ∧ q = []) ∨ (s = 0 ∧ q = f)) (hf : pth M0 131 f) (hfn : f ≠ []) (ht : pth M0 132 t) (htn : t ≠ []) (h1 : ∀ M', canR N g f t q → (∀ b, b ≠ 133 → M' b = M0 b) → Q (some (0, 1)) M') (h0 : ∀ M', ¬ canR N g f t q → (∀ b, b ≠ 133 → M' b = M0 b) → Q (some (0, 0)) M') (i : Int) (hk_i : i ≤ N) : ∀ (M : px_mem), 0 ≤ i → (∀ j, 0 ≤ j → j < i → wi (g j).1 f → ((g j).1.length : Int) - f.length + t.length ≤ 12 ∧ ¬ mtg N g (rnp f t (g j).1) q) → (∀ b, b ≠ 133 → M b = M0 b) → px_WP 228 0 0 (px_Q0 LAY Q) 2 [(2, 127), (0, s), (0, i), (9, 0)] [] LAY M 0 0 := by
  refine up_ind (P := fun i => ∀ (M : px_mem), 0 ≤ i → (∀ j, 0 ≤ j → j < i → wi (g j).1 f → ((g j).1.length : Int) - f.length + t.length ≤ 12 ∧ ¬ mtg N g (rnp f t (g j).1) q) → (∀ b, b ≠ 133 → M b = M0 b) → px_WP 228 0 0 (px_Q0 LAY Q) 2 [(2, 127), (0, s), (0, i), (9, 0)] [] LAY M 0 0) (N) (fun i hk_i ih => ?_) i hk_i
  intro M k0 hj hfr
  have e128 := hfr 128 (by decide)
  have e131 := hfr 131 (by decide)
  have e132 := hfr 132 (by decide)
  have hF0 := hst.1
  have h2 := hst.2.1
  have hn3 := hst.2.2.1
  have hfl : 0 < M0 131 0 := by rw [hf.1]; have := List.length_pos_iff.mpr hfn; omega
  have hnx : i < N → ∀ M', (wi (g i).1 f → ((g i).1.length : Int) - f.length + t.length ≤ 12 ∧ ¬ mtg N g (rnp f t (g i).1) q) → (∀ b, b ≠ 133 → M' b = M0 b) → px_WP 228 0 0 (px_Q0 LAY Q) 2 [(2, 127), (0, s), (0, i + 1), (9, 0)] [] LAY M' 0 0 := fun z M' y hf' => ih z M' (by omega) (fun j j0 j1 => by
    by_cases r : j = i
    · rw [r]; exact y
    · exact hj j j0 (by omega)) hf'
  refine px_go_ok (inl := [214]) 60 ?_
  simp only [px_go, px_Q0_at, px_sx_0, px_sx_s, px_cl, px_step, ↓px_ll, px_lg, f4_, ↓px_r1, ↓px_r2, ↓px_r4, ↓px_r5, ↓px_p1, ↓px_p2, ↓px_p3, ↓px_pop, px_k_0, px_k_s, px_k3_0, px_stk_, px_cats, px_ent, px_st1, px_st2, px_mask, ↓px_tsw, ↓px_lsw, ct_, mls_0, mls_1, mls_2, mls_3, mls_4, mls_5, kd_0, kd_1, kd_2, kd_3, ln_0, ln_1, ln_2, ln_3, gf_0, gf_1, gf_2, gf_3, gf_4, gf_7, gf_21, gf_63, dy_0, dy_1, dy_2, dy_3, dy_7, dy_21, px_brT, px_brF, true_and, and_true, and_false, false_and, and_self, true_implies, false_implies, or_true, true_or, or_false, false_or, eq_self, ne_eq, not_false_eq_true, not_true_eq_false, if_true, if_false, List.mem_cons, List.not_mem_nil, List.length_cons, List.length_nil, Nat.reduceEqDiff, Nat.reduceAdd, Nat.reduceSub, Nat.reduceLeDiff, Nat.reduceLT, Int.reduceEq, Int.reduceLT, Int.reduceLE, Int.reduceNeg, Int.reduceAdd, Int.reduceSub, Int.reduceToNat, ↓reduceIte, one_ne_zero_, zero_ne_one_, px_in32L, cd_228, cd_214, e128, hF0]
  repeat' (first | (with_reducible apply And.intro) | (with_reducible refine px_br_intro (fun _ => ?_) (fun _ => ?_)))
  all_goals (try (first | (unfold px_in32; omega) | omega))
  · rename_i c1
    exact h1 M (fun j j0 j1 => hj j j0 (by omega)) hfr
  · rename_i c1
    have fk := hst.2.2.2 i k0 (by omega)
    refine sp_isUnder rfl rfl (by rw [e128]; exact fk.2.2.1) (by rw [e131]; exact hf.2.2) ⟨by decide, by decide⟩ (by rw [e131]; exact hfl) (fun w => ?_) (fun w => ?_)
    · rw [e128, e131, fk.2.2.2.1, hf.2.1] at w
      simp only [px_go, px_Q0_at, px_sx_0, px_sx_s, px_cl, px_step, ↓px_ll, px_lg, f4_, ↓px_r1, ↓px_r2, ↓px_r4, ↓px_r5, ↓px_p1, ↓px_p2, ↓px_p3, ↓px_pop, px_k_0, px_k_s, px_k3_0, px_stk_, px_cats, px_ent, px_st1, px_st2, px_mask, ↓px_tsw, ↓px_lsw, ct_, mls_0, mls_1, mls_2, mls_3, mls_4, mls_5, kd_0, kd_1, kd_2, kd_3, ln_0, ln_1, ln_2, ln_3, gf_0, gf_1, gf_2, gf_3, gf_4, gf_7, gf_21, gf_63, dy_0, dy_1, dy_2, dy_3, dy_7, dy_21, px_brT, px_brF, true_and, and_true, and_false, false_and, and_self, true_implies, false_implies, or_true, true_or, or_false, false_or, eq_self, ne_eq, not_false_eq_true, not_true_eq_false, if_true, if_false, List.mem_cons, List.not_mem_nil, List.length_cons, List.length_nil, Nat.reduceEqDiff, Nat.reduceAdd, Nat.reduceSub, Nat.reduceLeDiff, Nat.reduceLT, Int.reduceEq, Int.reduceLT, Int.reduceLE, Int.reduceNeg, Int.reduceAdd, Int.reduceSub, Int.reduceToNat, ↓reduceIte, one_ne_zero_, zero_ne_one_, px_in32L, cd_228, cd_214]
      repeat' (first | (with_reducible apply And.intro) | (with_reducible refine px_br_intro (fun _ => ?_) (fun _ => ?_)))
      all_goals (try (first | (unfold px_in32; omega) | omega))
      refine sp_turns (pth_frame hf e131) (pth_frame ht e132) hfn (by rw [e128]; exact fk.2.2.1) (by rw [e128]; exact fk.2.2.2.1) w (fun c => ?_) (fun M1 c a1 a2 => ?_)
      · simp only [px_go, px_Q0_at, px_sx_0, px_sx_s, px_cl, px_step, ↓px_ll, px_lg, f4_, ↓px_r1, ↓px_r2, ↓px_r4, ↓px_r5, ↓px_p1, ↓px_p2, ↓px_p3, ↓px_pop, px_k_0, px_k_s, px_k3_0, px_stk_, px_cats, px_ent, px_st1, px_st2, px_mask, ↓px_tsw, ↓px_lsw, ct_, mls_0, mls_1, mls_2, mls_3, mls_4, mls_5, kd_0, kd_1, kd_2, kd_3, ln_0, ln_1, ln_2, ln_3, gf_0, gf_1, gf_2, gf_3, gf_4, gf_7, gf_21, gf_63, dy_0, dy_1, dy_2, dy_3, dy_7, dy_21, px_brT, px_brF, true_and, and_true, and_false, false_and, and_self, true_implies, false_implies, or_true, true_or, or_false, false_or, eq_self, ne_eq, not_false_eq_true, not_true_eq_false, if_true, if_false, List.mem_cons, List.not_mem_nil, List.length_cons, List.length_nil, Nat.reduceEqDiff, Nat.reduceAdd, Nat.reduceSub, Nat.reduceLeDiff, Nat.reduceLT, Int.reduceEq, Int.reduceLT, Int.reduceLE, Int.reduceNeg, Int.reduceAdd, Int.reduceSub, Int.reduceToNat, ↓reduceIte, one_ne_zero_, zero_ne_one_, px_in32L, cd_228, cd_214]
        exact h0 M (fun z => by have := (z i k0 (by omega) w).1; omega) hfr
      · simp only [px_go, px_Q0_at, px_sx_0, px_sx_s, px_cl, px_step, ↓px_ll, px_lg, f4_, ↓px_r1, ↓px_r2, ↓px_r4, ↓px_r5, ↓px_p1, ↓px_p2, ↓px_p3, ↓px_pop, px_k_0, px_k_s, px_k3_0, px_stk_, px_cats, px_ent, px_st1, px_st2, px_mask, ↓px_tsw, ↓px_lsw, ct_, mls_0, mls_1, mls_2, mls_3, mls_4, mls_5, kd_0, kd_1, kd_2, kd_3, ln_0, ln_1, ln_2, ln_3, gf_0, gf_1, gf_2, gf_3, gf_4, gf_7, gf_21, gf_63, dy_0, dy_1, dy_2, dy_3, dy_7, dy_21, px_brT, px_brF, true_and, and_true, and_false, false_and, and_self, true_implies, false_implies, or_true, true_or, or_false, false_or, eq_self, ne_eq, not_false_eq_true, not_true_eq_false, if_true, if_false, List.mem_cons, List.not_mem_nil, List.length_cons, List.length_nil, Nat.reduceEqDiff, Nat.reduceAdd, Nat.reduceSub, Nat.reduceLeDiff, Nat.reduceLT, Int.reduceEq, Int.reduceLT, Int.reduceLE, Int.reduceNeg, Int.reduceAdd, Int.reduceSub, Int.reduceToNat, ↓reduceIte, one_ne_zero_, zero_ne_one_, px_in32L, cd_228, cd_214]
        have g2 : ∀ b, b ≠ 133 → M1 b = M0 b := fun b b0 => by rw [a2 b b0, hfr b b0]
        have hRn : rnp f t (g i).1 ≠ [] := by
          unfold rnp
          intro z
          exact htn (List.append_eq_nil_iff.mp z).1
        refine lp_can2 (N := N) (g := g) (f := f) (R := rnp f t (g i).1) (q := q) (by rw [g2 128 (by decide)]; exact hst) ⟨k0, by omega⟩ hs (pth_frame hf (g2 131 (by decide))) hfn a1 hRn (fun z => h0 M1 (fun y => (y i k0 (by omega) w).2 z) g2) (fun z => hnx (by omega) M1 (fun _ => ⟨c, z⟩) g2) 0 h2 (Int.le_refl 0) (fun j j0 j1 => by omega)
    · rw [e128, e131, fk.2.2.2.1, hf.2.1] at w
      simp only [px_go, px_Q0_at, px_sx_0, px_sx_s, px_cl, px_step, ↓px_ll, px_lg, f4_, ↓px_r1, ↓px_r2, ↓px_r4, ↓px_r5, ↓px_p1, ↓px_p2, ↓px_p3, ↓px_pop, px_k_0, px_k_s, px_k3_0, px_stk_, px_cats, px_ent, px_st1, px_st2, px_mask, ↓px_tsw, ↓px_lsw, ct_, mls_0, mls_1, mls_2, mls_3, mls_4, mls_5, kd_0, kd_1, kd_2, kd_3, ln_0, ln_1, ln_2, ln_3, gf_0, gf_1, gf_2, gf_3, gf_4, gf_7, gf_21, gf_63, dy_0, dy_1, dy_2, dy_3, dy_7, dy_21, px_brT, px_brF, true_and, and_true, and_false, false_and, and_self, true_implies, false_implies, or_true, true_or, or_false, false_or, eq_self, ne_eq, not_false_eq_true, not_true_eq_false, if_true, if_false, List.mem_cons, List.not_mem_nil, List.length_cons, List.length_nil, Nat.reduceEqDiff, Nat.reduceAdd, Nat.reduceSub, Nat.reduceLeDiff, Nat.reduceLT, Int.reduceEq, Int.reduceLT, Int.reduceLE, Int.reduceNeg, Int.reduceAdd, Int.reduceSub, Int.reduceToNat, ↓reduceIte, one_ne_zero_, zero_ne_one_, px_in32L, cd_228, cd_214]
      repeat' (first | (with_reducible apply And.intro) | (with_reducible refine px_br_intro (fun _ => ?_) (fun _ => ?_)))
      all_goals (try (first | (unfold px_in32; omega) | omega))
      exact hnx (by omega) M (fun z => absurd z w) hfr
set_option maxHeartbeats 600000 in
set_option maxRecDepth 100000 in
theorem sp_canMove {N s : Int} {g : Int → fe} {f t q : List Int} (hst : sR (M 128) N g) (hs : (s = 1 ∧ q = []) ∨ (s = 0 ∧ q = f)) (hf : pth M 131 f) (hfn : f ≠ []) (ht : pth M 132 t) (htn : t ≠ []) (h1 : ∀ M', canR N g f t q → (∀ b, b ≠ 133 → M' b = M b) → Q (some (0, 1)) M') (h0 : ∀ M', ¬ canR N g f t q → (∀ b, b ≠ 133 → M' b = M b) → Q (some (0, 0)) M') : px_Ok 228 [(2, 127), (0, s)] LAY M Q := by
  refine px_ok_go (inl := []) (ls0 := [(2, 127), (0, s), (9, 0), (9, 0)]) 60 (by decide) (Nat.le_of_ble_eq_true rfl) rfl ?_
  simp only [px_go, px_Q0_at, px_sx_0, px_sx_s, px_cl, px_step, ↓px_ll, px_lg, f4_, ↓px_r1, ↓px_r2, ↓px_r4, ↓px_r5, ↓px_p1, ↓px_p2, ↓px_p3, ↓px_pop, px_k_0, px_k_s, px_k3_0, px_stk_, px_cats, px_ent, px_st1, px_st2, px_mask, ↓px_tsw, ↓px_lsw, ct_, mls_0, mls_1, mls_2, mls_3, mls_4, mls_5, kd_0, kd_1, kd_2, kd_3, ln_0, ln_1, ln_2, ln_3, gf_0, gf_1, gf_2, gf_3, gf_4, gf_7, gf_21, gf_63, dy_0, dy_1, dy_2, dy_3, dy_7, dy_21, px_brT, px_brF, true_and, and_true, and_false, false_and, and_self, true_implies, false_implies, or_true, true_or, or_false, false_or, eq_self, ne_eq, not_false_eq_true, not_true_eq_false, if_true, if_false, List.mem_cons, List.not_mem_nil, List.length_cons, List.length_nil, Nat.reduceEqDiff, Nat.reduceAdd, Nat.reduceSub, Nat.reduceLeDiff, Nat.reduceLT, Int.reduceEq, Int.reduceLT, Int.reduceLE, Int.reduceNeg, Int.reduceAdd, Int.reduceSub, Int.reduceToNat, ↓reduceIte, one_ne_zero_, zero_ne_one_, px_in32L, cd_228]
  repeat' (first | (with_reducible apply And.intro) | (with_reducible refine px_br_intro (fun _ => ?_) (fun _ => ?_)))
  all_goals (try (first | (unfold px_in32; omega) | omega))
  exact lp_can1 (M0 := M) hst hs hf hfn ht htn h1 h0 0 hst.2.1 M (Int.le_refl 0) (fun j j0 j1 => by omega) (fun _ _ => rfl)
end PS
