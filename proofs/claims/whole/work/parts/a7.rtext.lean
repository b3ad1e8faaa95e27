set_option maxRecDepth 100000 in
/-- X12_says -/
theorem cd_299 : px_at 299 0 = some (1, [], .aload_n 0, []) ∧ px_at 299 1 = some (4, [], .getfield 81, [11, 34, 2, 1, 159]) ∧ px_at 299 4 = some (5, [], .aload_n 0, []) ∧ px_at 299 5 = some (8, [], .getfield 421, [11, 35, 0, 0, 160]) ∧ px_at 299 8 = some (9, [], .iload_n 1, []) ∧ px_at 299 9 = some (10, [], .iastore, []) ∧ px_at 299 10 = some (11, [], .aload_n 0, []) ∧ px_at 299 11 = some (12, [], .aload_n 0, []) ∧ px_at 299 12 = some (15, [], .getfield 421, [11, 35, 0, 0, 160]) ∧ px_at 299 15 = some (16, [], .iconst 1, []) ∧ px_at 299 16 = some (17, [], .iadd, []) ∧ px_at 299 17 = some (20, [], .putfield 421, [11, 35, 0, 0, 160]) ∧ px_at 299 20 = some (21, [], .return_, []) := ⟨rfl, rfl, rfl, rfl, rfl, rfl, rfl, rfl, rfl, rfl, rfl, rfl, rfl⟩
set_option maxRecDepth 100000 in
/-- X12_saysNumber -/
theorem cd_300 : px_at 300 0 = some (1, [], .iconst 1, []) ∧ px_at 300 1 = some (2, [], .istore_n 2, []) ∧ px_at 300 2 = some (3, [1, 1, 1], .iload_n 1, []) ∧ px_at 300 3 = some (4, [], .iload_n 2, []) ∧ px_at 300 4 = some (5, [], .idiv, []) ∧ px_at 300 5 = some (7, [], .bipush 9, []) ∧ px_at 300 7 = some (10, [], .if_icmp .le 11, [18]) ∧ px_at 300 10 = some (11, [], .iload_n 2, []) ∧ px_at 300 11 = some (13, [], .bipush 10, []) ∧ px_at 300 13 = some (14, [], .imul, []) ∧ px_at 300 14 = some (15, [], .istore_n 2, []) ∧ px_at 300 15 = some (18, [], .goto (-13), [2]) ∧ px_at 300 18 = some (19, [1, 1, 1], .iload_n 2, []) ∧ px_at 300 19 = some (22, [], .ifCond .le 24, [43]) ∧ px_at 300 22 = some (23, [], .aload_n 0, []) ∧ px_at 300 23 = some (25, [], .bipush 48, []) ∧ px_at 300 25 = some (26, [], .iload_n 1, []) ∧ px_at 300 26 = some (27, [], .iload_n 2, []) ∧ px_at 300 27 = some (28, [], .idiv, []) ∧ px_at 300 28 = some (30, [], .bipush 10, []) ∧ px_at 300 30 = some (31, [], .irem, []) ∧ px_at 300 31 = some (32, [], .iadd, []) ∧ px_at 300 32 = some (35, [], .invokevirtual 424, [299, 1, 11, 341]) ∧ px_at 300 35 = some (36, [], .iload_n 2, []) ∧ px_at 300 36 = some (38, [], .bipush 10, []) ∧ px_at 300 38 = some (39, [], .idiv, []) ∧ px_at 300 39 = some (40, [], .istore_n 2, []) ∧ px_at 300 40 = some (43, [], .goto (-22), [18]) ∧ px_at 300 43 = some (44, [], .return_, []) := ⟨rfl, rfl, rfl, rfl, rfl, rfl, rfl, rfl, rfl, rfl, rfl, rfl, rfl, rfl, rfl, rfl, rfl, rfl, rfl, rfl, rfl, rfl, rfl, rfl, rfl, rfl, rfl, rfl, rfl⟩
set_option maxRecDepth 100000 in
/-- X12_laysText -/
theorem cd_301 : px_at 301 0 = some (1, [], .aload_n 0, []) ∧ px_at 301 1 = some (2, [], .iconst 0, []) ∧ px_at 301 2 = some (5, [], .putfield 421, [11, 35, 0, 0, 160]) ∧ px_at 301 5 = some (6, [], .iconst 0, []) ∧ px_at 301 6 = some (7, [], .istore_n 2, []) ∧ px_at 301 7 = some (8, [1, 1, 1, 0], .iload_n 2, []) ∧ px_at 301 8 = some (9, [], .aload_n 0, []) ∧ px_at 301 9 = some (10, [], .iload_n 1, []) ∧ px_at 301 10 = some (13, [], .invokevirtual 180, [206, 1, 11, 253]) ∧ px_at 301 13 = some (16, [], .if_icmp .ge 76, [89]) ∧ px_at 301 16 = some (17, [], .iconst 1, []) ∧ px_at 301 17 = some (18, [], .istore_n 3, []) ∧ px_at 301 18 = some (19, [1, 1, 1, 1], .iload_n 3, []) ∧ px_at 301 19 = some (20, [], .aload_n 0, []) ∧ px_at 301 20 = some (23, [], .getfield 7, [11, 0, 2, 1, 125]) ∧ px_at 301 23 = some (24, [], .aload_n 0, []) ∧ px_at 301 24 = some (25, [], .iload_n 1, []) ∧ px_at 301 25 = some (26, [], .iload_n 2, []) ∧ px_at 301 26 = some (29, [], .invokevirtual 177, [205, 2, 11, 254]) ∧ px_at 301 29 = some (30, [], .iaload, []) ∧ px_at 301 30 = some (33, [], .if_icmp .gt 26, [56]) ∧ px_at 301 33 = some (34, [], .aload_n 0, []) ∧ px_at 301 34 = some (35, [], .aload_n 0, []) ∧ px_at 301 35 = some (38, [], .getfield 7, [11, 0, 2, 1, 125]) ∧ px_at 301 38 = some (39, [], .aload_n 0, []) ∧ px_at 301 39 = some (40, [], .iload_n 1, []) ∧ px_at 301 40 = some (41, [], .iload_n 2, []) ∧ px_at 301 41 = some (44, [], .invokevirtual 177, [205, 2, 11, 254]) ∧ px_at 301 44 = some (45, [], .iload_n 3, []) ∧ px_at 301 45 = some (46, [], .iadd, []) ∧ px_at 301 46 = some (47, [], .iaload, []) ∧ px_at 301 47 = some (50, [], .invokevirtual 424, [299, 1, 11, 341]) ∧ px_at 301 50 = some (53, [], .iinc 3 1, []) ∧ px_at 301 53 = some (56, [], .goto (-35), [18]) ∧ px_at 301 56 = some (57, [], .aload_n 0, []) ∧ px_at 301 57 = some (59, [], .bipush 61, []) ∧ px_at 301 59 = some (62, [], .invokevirtual 424, [299, 1, 11, 341]) ∧ px_at 301 62 = some (63, [], .aload_n 0, []) ∧ px_at 301 63 = some (64, [], .aload_n 0, []) ∧ px_at 301 64 = some (65, [], .aload_n 0, []) ∧ px_at 301 65 = some (66, [], .iload_n 1, []) ∧ px_at 301 66 = some (67, [], .iload_n 2, []) ∧ px_at 301 67 = some (70, [], .invokevirtual 187, [207, 2, 11, 256]) ∧ px_at 301 70 = some (71, [], .iconst 2, []) ∧ px_at 301 71 = some (74, [], .invokevirtual 109, [187, 2, 11, 259]) ∧ px_at 301 74 = some (77, [], .invokevirtual 427, [300, 1, 11, 342]) ∧ px_at 301 77 = some (78, [], .aload_n 0, []) ∧ px_at 301 78 = some (80, [], .bipush 59, []) ∧ px_at 301 80 = some (83, [], .invokevirtual 424, [299, 1, 11, 341]) ∧ px_at 301 83 = some (86, [], .iinc 2 1, []) ∧ px_at 301 86 = some (89, [], .goto (-79), [7]) ∧ px_at 301 89 = some (90, [], .return_, []) := ⟨rfl, rfl, rfl, rfl, rfl, rfl, rfl, rfl, rfl, rfl, rfl, rfl, rfl, rfl, rfl, rfl, rfl, rfl, rfl, rfl, rfl, rfl, rfl, rfl, rfl, rfl, rfl, rfl, rfl, rfl, rfl, rfl, rfl, rfl, rfl, rfl, rfl, rfl, rfl, rfl, rfl, rfl, rfl, rfl, rfl, rfl, rfl, rfl, rfl, rfl, rfl, rfl⟩
set_option maxRecDepth 100000 in
/-- X12_markOfText -/
theorem cd_302 : px_at 302 0 = some (1, [], .aload_n 0, []) ∧ px_at 302 1 = some (2, [], .iload_n 1, []) ∧ px_at 302 2 = some (5, [], .invokevirtual 430, [301, 1, 11, 340]) ∧ px_at 302 5 = some (6, [], .aload_n 0, []) ∧ px_at 302 6 = some (9, [], .getfield 81, [11, 34, 2, 1, 159]) ∧ px_at 302 9 = some (10, [], .iconst 0, []) ∧ px_at 302 10 = some (11, [], .aload_n 0, []) ∧ px_at 302 11 = some (14, [], .getfield 421, [11, 35, 0, 0, 160]) ∧ px_at 302 14 = some (17, [], .invokestatic 125, [186, 3, 11, 262]) ∧ px_at 302 17 = some (18, [], .ireturn, [0]) := ⟨rfl, rfl, rfl, rfl, rfl, rfl, rfl, rfl, rfl, rfl⟩
set_option maxRecDepth 100000 in
/-- X12_told -/
theorem cd_303 : px_at 303 0 = some (1, [], .aload_n 0, []) ∧ px_at 303 1 = some (2, [], .iload_n 1, []) ∧ px_at 303 2 = some (5, [], .invokevirtual 267, [208, 1, 11, 250]) ∧ px_at 303 5 = some (6, [], .istore_n 3, []) ∧ px_at 303 6 = some (7, [], .iload_n 3, []) ∧ px_at 303 7 = some (8, [], .iconst (-1), []) ∧ px_at 303 8 = some (11, [], .if_icmp .eq 8, [16]) ∧ px_at 303 11 = some (12, [], .iload_n 2, []) ∧ px_at 303 12 = some (13, [], .iconst (-1), []) ∧ px_at 303 13 = some (16, [], .if_icmp .ge 5, [18]) ∧ px_at 303 16 = some (17, [], .iconst (-1), []) ∧ px_at 303 17 = some (18, [], .ireturn, [0]) ∧ px_at 303 18 = some (19, [], .aload_n 0, []) ∧ px_at 303 19 = some (20, [], .iload_n 3, []) ∧ px_at 303 20 = some (23, [], .invokevirtual 430, [301, 1, 11, 340]) ∧ px_at 303 23 = some (24, [], .iload_n 2, []) ∧ px_at 303 24 = some (25, [], .iconst (-1), []) ∧ px_at 303 25 = some (28, [], .if_icmp .ne 10, [35]) ∧ px_at 303 28 = some (29, [], .aload_n 0, []) ∧ px_at 303 29 = some (32, [], .getfield 421, [11, 35, 0, 0, 160]) ∧ px_at 303 32 = some (35, [], .goto 22, [54]) ∧ px_at 303 35 = some (36, [], .iload_n 2, []) ∧ px_at 303 36 = some (37, [], .aload_n 0, []) ∧ px_at 303 37 = some (40, [], .getfield 421, [11, 35, 0, 0, 160]) ∧ px_at 303 40 = some (43, [], .if_icmp .ge 12, [52]) ∧ px_at 303 43 = some (44, [], .aload_n 0, []) ∧ px_at 303 44 = some (47, [], .getfield 81, [11, 34, 2, 1, 159]) ∧ px_at 303 47 = some (48, [], .iload_n 2, []) ∧ px_at 303 48 = some (49, [], .iaload, []) ∧ px_at 303 49 = some (52, [], .goto 5, [54]) ∧ px_at 303 52 = some (54, [], .bipush (-4), []) ∧ px_at 303 54 = some (55, [], .ireturn, [0]) := ⟨rfl, rfl, rfl, rfl, rfl, rfl, rfl, rfl, rfl, rfl, rfl, rfl, rfl, rfl, rfl, rfl, rfl, rfl, rfl, rfl, rfl, rfl, rfl, rfl, rfl, rfl, rfl, rfl, rfl, rfl, rfl, rfl⟩
/-! the reference: the text of a list -/
def txR (M : px_mem) (s : List Int) : Prop := M 127 35 = (s.length : Int) ∧ lst (M 151) (s.length : Int) = s
def frX (M' M : px_mem) : Prop := (∀ j, j ≠ 35 → M' 127 j = M 127 j) ∧ ∀ b, b ≠ 127 → b ≠ 151 → M' b = M b
theorem frX_refl (M : px_mem) : frX M M := ⟨fun _ _ => rfl, fun _ _ _ => rfl⟩
theorem frX_trans {A B C : px_mem} (h : frX A B) (h2 : frX B C) : frX A C := ⟨fun j j0 => (h.1 j j0).trans (h2.1 j j0), fun b b0 b1 => (h.2 b b0 b1).trans (h2.2 b b0 b1)⟩
theorem frX_128 {A B : px_mem} (h : frX A B) : A 128 = B 128 := h.2 128 (by decide) (by decide)
theorem frX_out {A B : px_mem} (h : frX A B) : out A B := ⟨fun b b0 => h.2 b (by omega) (by omega), h.2 130 (by decide) (by decide), h.1 3 (by decide)⟩
section PS
variable {M : px_mem} {Q : Option pv → px_mem → Prop}
set_option maxHeartbeats 600000 in
set_option maxRecDepth 100000 in
theorem sp_says {s : List Int} {y : Int} (ht : txR M s) (hs : s.length < 240) (h : ∀ M', txR M' (s ++ [y]) → frX M' M → Q none M') : px_Ok 299 [(2, 127), (0, y)] LAY M Q := by
  have e35 := ht.1
  have f127 : ∀ x y, px_up M 151 x y 127 = M 127 := fun x y => row_ne (by decide)
  refine px_ok_go (inl := []) (ls0 := [(2, 127), (0, y)]) 60 (by decide) (Nat.le_of_ble_eq_true rfl) rfl ?_
  simp only [px_go, px_Q0_at, px_sx_0, px_sx_s, px_cl, px_step, ↓px_ll, px_lg, f4_, ↓px_r1, ↓px_r2, ↓px_r4, ↓px_r5, ↓px_p1, ↓px_p2, ↓px_p3, ↓px_pop, px_k_0, px_k_s, px_k3_0, px_stk_, px_cats, px_ent, px_st1, px_st2, px_mask, ↓px_tsw, ↓px_lsw, ct_, mls_0, mls_1, mls_2, mls_3, mls_4, mls_5, kd_0, kd_1, kd_2, kd_3, ln_0, ln_1, ln_2, ln_3, gf_0, gf_1, gf_2, gf_3, gf_4, gf_7, gf_21, gf_63, dy_0, dy_1, dy_2, dy_3, dy_7, dy_21, px_brT, px_brF, true_and, and_true, and_false, false_and, and_self, true_implies, false_implies, or_true, true_or, or_false, false_or, eq_self, ne_eq, not_false_eq_true, not_true_eq_false, if_true, if_false, List.mem_cons, List.not_mem_nil, List.length_cons, List.length_nil, Nat.reduceEqDiff, Nat.reduceAdd, Nat.reduceSub, Nat.reduceLeDiff, Nat.reduceLT, Int.reduceEq, Int.reduceLT, Int.reduceLE, Int.reduceNeg, Int.reduceAdd, Int.reduceSub, Int.reduceToNat, ↓reduceIte, one_ne_zero_, zero_ne_one_, px_in32L, cd_299, e35, f127]
  repeat' (first | (with_reducible apply And.intro) | (with_reducible refine px_br_intro (fun _ => ?_) (fun _ => ?_)))
  all_goals (try (first | (unfold px_in32; omega) | omega))
  refine h _ ⟨?_, ?_⟩ ⟨fun j j0 => ?_, fun b b0 b1' => ?_⟩
  · rw [px_up_at, if_pos ⟨rfl, rfl⟩, List.length_append]; rfl
  · have e : ((s ++ [y]).length : Int) = (s.length : Int) + 1 := by rw [List.length_append]; rfl
    rw [row_ne (by decide), e]
    have := lst_up M 151 y (show (0 : Int) ≤ (s.length : Int) by omega)
    rw [ht.2] at this
    exact this
  · rw [px_up_at, if_neg (fun z => j0 z.2), f127]
  · rw [row_ne b0, row_ne b1']
set_option maxHeartbeats 4000000 in
set_option maxRecDepth 100000 in
theorem lp_sn {m u : Int} {s : List Int} (hm : 0 ≤ m ∧ m < 65521) (hu : 0 < u ∧ u ≤ 10000) (hu2 : u ≤ m ∨ u = 1) (hs : s.length < 240) (ht : txR M s) (hx : ∀ M', txR M' (s ++ dgU m u) → frX M' M → px_WP 300 0 0 (px_Q0 LAY Q) 18 [(2, 127), (0, m), (0, u / 10)] [] LAY M' 0 0) : px_WP 300 0 0 (px_Q0 LAY Q) 18 [(2, 127), (0, m), (0, u)] [] LAY M 0 0 := by
  have hd : 0 ≤ m / u := Int.ediv_nonneg hm.1 (by omega)
  have e : dgU m u = [48 + m / u % 10] := by unfold dgU; rw [if_pos hu2]
  rw [e] at hx
  refine px_go_ok (inl := []) 60 ?_
  simp only [px_go, px_Q0_at, px_sx_0, px_sx_s, px_cl, px_step, ↓px_ll, px_lg, f4_, ↓px_r1, ↓px_r2, ↓px_r4, ↓px_r5, ↓px_p1, ↓px_p2, ↓px_p3, ↓px_pop, px_k_0, px_k_s, px_k3_0, px_stk_, px_cats, px_ent, px_st1, px_st2, px_mask, ↓px_tsw, ↓px_lsw, ct_, mls_0, mls_1, mls_2, mls_3, mls_4, mls_5, kd_0, kd_1, kd_2, kd_3, ln_0, ln_1, ln_2, ln_3, gf_0, gf_1, gf_2, gf_3, gf_4, gf_7, gf_21, gf_63, dy_0, dy_1, dy_2, dy_3, dy_7, dy_21, px_brT, px_brF, true_and, and_true, and_false, false_and, and_self, true_implies, false_implies, or_true, true_or, or_false, false_or, eq_self, ne_eq, not_false_eq_true, not_true_eq_false, if_true, if_false, List.mem_cons, List.not_mem_nil, List.length_cons, List.length_nil, Nat.reduceEqDiff, Nat.reduceAdd, Nat.reduceSub, Nat.reduceLeDiff, Nat.reduceLT, Int.reduceEq, Int.reduceLT, Int.reduceLE, Int.reduceNeg, Int.reduceAdd, Int.reduceSub, Int.reduceToNat, ↓reduceIte, one_ne_zero_, zero_ne_one_, px_in32L, cd_300]
  refine px_br_intro (fun c => by omega) (fun _ => ?_)
  repeat' (first | (with_reducible apply And.intro) | (with_reducible refine px_br_intro (fun _ => ?_) (fun _ => ?_)))
  all_goals (try (first | (unfold px_in32; omega) | omega))
  refine sp_says ht hs (fun M1 a1 a2 => ?_)
  simp only [px_go, px_Q0_at, px_sx_0, px_sx_s, px_cl, px_step, ↓px_ll, px_lg, f4_, ↓px_r1, ↓px_r2, ↓px_r4, ↓px_r5, ↓px_p1, ↓px_p2, ↓px_p3, ↓px_pop, px_k_0, px_k_s, px_k3_0, px_stk_, px_cats, px_ent, px_st1, px_st2, px_mask, ↓px_tsw, ↓px_lsw, ct_, mls_0, mls_1, mls_2, mls_3, mls_4, mls_5, kd_0, kd_1, kd_2, kd_3, ln_0, ln_1, ln_2, ln_3, gf_0, gf_1, gf_2, gf_3, gf_4, gf_7, gf_21, gf_63, dy_0, dy_1, dy_2, dy_3, dy_7, dy_21, px_brT, px_brF, true_and, and_true, and_false, false_and, and_self, true_implies, false_implies, or_true, true_or, or_false, false_or, eq_self, ne_eq, not_false_eq_true, not_true_eq_false, if_true, if_false, List.mem_cons, List.not_mem_nil, List.length_cons, List.length_nil, Nat.reduceEqDiff, Nat.reduceAdd, Nat.reduceSub, Nat.reduceLeDiff, Nat.reduceLT, Int.reduceEq, Int.reduceLT, Int.reduceLE, Int.reduceNeg, Int.reduceAdd, Int.reduceSub, Int.reduceToNat, ↓reduceIte, one_ne_zero_, zero_ne_one_, px_in32L, cd_300]
  repeat' (first | (with_reducible apply And.intro) | (with_reducible refine px_br_intro (fun _ => ?_) (fun _ => ?_)))
  all_goals (try (first | (unfold px_in32; omega) | omega))
  exact hx M1 a1 a2
set_option maxHeartbeats 4000000 in
set_option maxRecDepth 100000 in
theorem lp_sn0 {m : Int} (h : Q none M) : px_WP 300 0 0 (px_Q0 LAY Q) 18 [(2, 127), (0, m), (0, 0)] [] LAY M 0 0 := by
  refine px_go_ok (inl := []) 60 ?_
  simp only [px_go, px_Q0_at, px_sx_0, px_sx_s, px_cl, px_step, ↓px_ll, px_lg, f4_, ↓px_r1, ↓px_r2, ↓px_r4, ↓px_r5, ↓px_p1, ↓px_p2, ↓px_p3, ↓px_pop, px_k_0, px_k_s, px_k3_0, px_stk_, px_cats, px_ent, px_st1, px_st2, px_mask, ↓px_tsw, ↓px_lsw, ct_, mls_0, mls_1, mls_2, mls_3, mls_4, mls_5, kd_0, kd_1, kd_2, kd_3, ln_0, ln_1, ln_2, ln_3, gf_0, gf_1, gf_2, gf_3, gf_4, gf_7, gf_21, gf_63, dy_0, dy_1, dy_2, dy_3, dy_7, dy_21, px_brT, px_brF, true_and, and_true, and_false, false_and, and_self, true_implies, false_implies, or_true, true_or, or_false, false_or, eq_self, ne_eq, not_false_eq_true, not_true_eq_false, if_true, if_false, List.mem_cons, List.not_mem_nil, List.length_cons, List.length_nil, Nat.reduceEqDiff, Nat.reduceAdd, Nat.reduceSub, Nat.reduceLeDiff, Nat.reduceLT, Int.reduceEq, Int.reduceLT, Int.reduceLE, Int.reduceNeg, Int.reduceAdd, Int.reduceSub, Int.reduceToNat, ↓reduceIte, one_ne_zero_, zero_ne_one_, px_in32L, cd_300]
  exact h
set_option maxHeartbeats 4000000 in
set_option maxRecDepth 100000 in
theorem lp_by {m u : Int} (hm : 0 ≤ m ∧ m < 65521) (hu : 0 < u ∧ u ≤ 10000) (h1 : m / u ≤ 9 → px_WP 300 0 0 (px_Q0 LAY Q) 18 [(2, 127), (0, m), (0, u)] [] LAY M 0 0) (h2 : ¬ m / u ≤ 9 → px_WP 300 0 0 (px_Q0 LAY Q) 2 [(2, 127), (0, m), (0, u * 10)] [] LAY M 0 0) : px_WP 300 0 0 (px_Q0 LAY Q) 2 [(2, 127), (0, m), (0, u)] [] LAY M 0 0 := by
  refine px_go_ok (inl := []) 60 ?_
  simp only [px_go, px_Q0_at, px_sx_0, px_sx_s, px_cl, px_step, ↓px_ll, px_lg, f4_, ↓px_r1, ↓px_r2, ↓px_r4, ↓px_r5, ↓px_p1, ↓px_p2, ↓px_p3, ↓px_pop, px_k_0, px_k_s, px_k3_0, px_stk_, px_cats, px_ent, px_st1, px_st2, px_mask, ↓px_tsw, ↓px_lsw, ct_, mls_0, mls_1, mls_2, mls_3, mls_4, mls_5, kd_0, kd_1, kd_2, kd_3, ln_0, ln_1, ln_2, ln_3, gf_0, gf_1, gf_2, gf_3, gf_4, gf_7, gf_21, gf_63, dy_0, dy_1, dy_2, dy_3, dy_7, dy_21, px_brT, px_brF, true_and, and_true, and_false, false_and, and_self, true_implies, false_implies, or_true, true_or, or_false, false_or, eq_self, ne_eq, not_false_eq_true, not_true_eq_false, if_true, if_false, List.mem_cons, List.not_mem_nil, List.length_cons, List.length_nil, Nat.reduceEqDiff, Nat.reduceAdd, Nat.reduceSub, Nat.reduceLeDiff, Nat.reduceLT, Int.reduceEq, Int.reduceLT, Int.reduceLE, Int.reduceNeg, Int.reduceAdd, Int.reduceSub, Int.reduceToNat, ↓reduceIte, one_ne_zero_, zero_ne_one_, px_in32L, cd_300]
  repeat' (first | (with_reducible apply And.intro) | (with_reducible refine px_br_intro (fun _ => ?_) (fun _ => ?_)))
  all_goals (try (first | (unfold px_in32; omega) | omega))
  · rename_i c; exact h1 c
  · rename_i c; exact h2 c
set_option maxHeartbeats 600000 in
set_option maxRecDepth 100000 in
theorem sp_saysNum {m : Int} {s : List Int} (hm : 0 ≤ m ∧ m < 65521) (hs : s.length ≤ 230) (ht : txR M s) (h : ∀ M', txR M' (s ++ dig m) → frX M' M → Q none M') : px_Ok 300 [(2, 127), (0, m)] LAY M Q := by
  refine px_ok_go (inl := []) (ls0 := [(2, 127), (0, m), (9, 0)]) 60 (by decide) (Nat.le_of_ble_eq_true rfl) rfl ?_
  simp only [px_go, px_Q0_at, px_sx_0, px_sx_s, px_cl, px_step, ↓px_ll, px_lg, f4_, ↓px_r1, ↓px_r2, ↓px_r4, ↓px_r5, ↓px_p1, ↓px_p2, ↓px_p3, ↓px_pop, px_k_0, px_k_s, px_k3_0, px_stk_, px_cats, px_ent, px_st1, px_st2, px_mask, ↓px_tsw, ↓px_lsw, ct_, mls_0, mls_1, mls_2, mls_3, mls_4, mls_5, kd_0, kd_1, kd_2, kd_3, ln_0, ln_1, ln_2, ln_3, gf_0, gf_1, gf_2, gf_3, gf_4, gf_7, gf_21, gf_63, dy_0, dy_1, dy_2, dy_3, dy_7, dy_21, px_brT, px_brF, true_and, and_true, and_false, false_and, and_self, true_implies, false_implies, or_true, true_or, or_false, false_or, eq_self, ne_eq, not_false_eq_true, not_true_eq_false, if_true, if_false, List.mem_cons, List.not_mem_nil, List.length_cons, List.length_nil, Nat.reduceEqDiff, Nat.reduceAdd, Nat.reduceSub, Nat.reduceLeDiff, Nat.reduceLT, Int.reduceEq, Int.reduceLT, Int.reduceLE, Int.reduceNeg, Int.reduceAdd, Int.reduceSub, Int.reduceToNat, ↓reduceIte, one_ne_zero_, zero_ne_one_, px_in32L, cd_300]
  repeat' (first | (with_reducible apply And.intro) | (with_reducible refine px_br_intro (fun _ => ?_) (fun _ => ?_)))
  all_goals (try (first | (unfold px_in32; omega) | omega))
  have hl : ∀ u, (dgU m u).length ≤ 1 := fun u => by unfold dgU; split <;> simp
  have hz : ∀ u, m < u → ¬ u = 1 → dgU m u = [] := fun u q1 q2 => by unfold dgU; rw [if_neg (by omega)]
  have k1 : ∀ (M1 : px_mem) (t : List Int), txR M1 t → t.length < 240 → t ++ dgU m 1 = s ++ dig m → frX M1 M → px_WP 300 0 0 (px_Q0 LAY Q) 18 [(2, 127), (0, m), (0, 1)] [] LAY M1 0 0 := fun M1 t a1 a2 a3 a4 =>
    lp_sn hm (by decide) (Or.inr rfl) a2 a1 (fun M2 b1' b2 => lp_sn0 (h M2 (by rw [a3] at b1'; exact b1') (frX_trans b2 a4)))
  have k2 : ∀ (M1 : px_mem) (t : List Int), 10 ≤ m → txR M1 t → t.length < 239 → t ++ dgU m 10 ++ dgU m 1 = s ++ dig m → frX M1 M → px_WP 300 0 0 (px_Q0 LAY Q) 18 [(2, 127), (0, m), (0, 10)] [] LAY M1 0 0 := fun M1 t a0 a1 a2 a3 a4 =>
    lp_sn hm (by decide) (Or.inl a0) (by omega) a1 (fun M2 b1' b2 => k1 M2 _ b1' (by rw [List.length_append]; have := hl 10; omega) a3 (frX_trans b2 a4))
  have k3 : ∀ (M1 : px_mem) (t : List Int), 100 ≤ m → txR M1 t → t.length < 238 → t ++ dgU m 100 ++ dgU m 10 ++ dgU m 1 = s ++ dig m → frX M1 M → px_WP 300 0 0 (px_Q0 LAY Q) 18 [(2, 127), (0, m), (0, 100)] [] LAY M1 0 0 := fun M1 t a0 a1 a2 a3 a4 =>
    lp_sn hm (by decide) (Or.inl a0) (by omega) a1 (fun M2 b1' b2 => k2 M2 _ (by omega) b1' (by rw [List.length_append]; have := hl 100; omega) a3 (frX_trans b2 a4))
  have k4 : ∀ (M1 : px_mem) (t : List Int), 1000 ≤ m → txR M1 t → t.length < 237 → t ++ dgU m 1000 ++ dgU m 100 ++ dgU m 10 ++ dgU m 1 = s ++ dig m → frX M1 M → px_WP 300 0 0 (px_Q0 LAY Q) 18 [(2, 127), (0, m), (0, 1000)] [] LAY M1 0 0 := fun M1 t a0 a1 a2 a3 a4 =>
    lp_sn hm (by decide) (Or.inl a0) (by omega) a1 (fun M2 b1' b2 => k3 M2 _ (by omega) b1' (by rw [List.length_append]; have := hl 1000; omega) a3 (frX_trans b2 a4))
  have k5 : ∀ (M1 : px_mem) (t : List Int), 10000 ≤ m → txR M1 t → t.length < 236 → t ++ dgU m 10000 ++ dgU m 1000 ++ dgU m 100 ++ dgU m 10 ++ dgU m 1 = s ++ dig m → frX M1 M → px_WP 300 0 0 (px_Q0 LAY Q) 18 [(2, 127), (0, m), (0, 10000)] [] LAY M1 0 0 := fun M1 t a0 a1 a2 a3 a4 =>
    lp_sn hm (by decide) (Or.inl a0) (by omega) a1 (fun M2 b1' b2 => k4 M2 _ (by omega) b1' (by rw [List.length_append]; have := hl 10000; omega) a3 (frX_trans b2 a4))
  have hdg : s ++ dig m = s ++ dgU m 10000 ++ dgU m 1000 ++ dgU m 100 ++ dgU m 10 ++ dgU m 1 := by
    unfold dig
    simp only [List.append_assoc]
  rw [hdg] at k1 k2 k3 k4 k5
  refine lp_by hm (by decide) (fun c => k1 M s ht (by omega) ?_ (frX_refl M)) (fun c => ?_)
  · rw [hz 10000 (by omega) (by decide), hz 1000 (by omega) (by decide), hz 100 (by omega) (by decide), hz 10 (by omega) (by decide)]
    simp only [List.append_nil]
  refine lp_by (u := 10) hm (by decide) (fun c2 => k2 M s (by omega) ht (by omega) ?_ (frX_refl M)) (fun c2 => ?_)
  · rw [hz 10000 (by omega) (by decide), hz 1000 (by omega) (by decide), hz 100 (by omega) (by decide)]
    simp only [List.append_nil]
  refine lp_by (u := 100) hm (by decide) (fun c3 => k3 M s (by omega) ht (by omega) ?_ (frX_refl M)) (fun c3 => ?_)
  · rw [hz 10000 (by omega) (by decide), hz 1000 (by omega) (by decide)]
    simp only [List.append_nil]
  refine lp_by (u := 1000) hm (by decide) (fun c4 => k4 M s (by omega) ht (by omega) ?_ (frX_refl M)) (fun c4 => ?_)
  · rw [hz 10000 (by omega) (by decide)]
    simp only [List.append_nil]
  refine lp_by (u := 10000) hm (by decide) (fun c5 => k5 M s (by omega) ht (by omega) rfl (frX_refl M)) (fun c5 => ?_)
  omega
set_option maxHeartbeats 600000 in
set_option maxRecDepth 100000 in
theorem lp_rt2 {M0 : px_mem} {sl i c m : Int} {p s : List Int} (hsl : 0 ≤ sl ∧ sl < 10) (hi : 0 ≤ i ∧ i < 12) (hp : p.length ≤ 12) (hpk : pok (M0 128) (1294 + 186 * sl + 18 + 14 * i) 3154) (hpe : fp (M0 128) (1294 + 186 * sl + 18 + 14 * i) = p) (hce : M0 128 (1294 + 186 * sl + 18 + 14 * i + 13) = c) (hc : 0 ≤ c ∧ c < 40) (hme : M0 128 (654 + 6 * c + 2) = m) (hm : 0 ≤ m ∧ m < 65521) (hs : s.length ≤ 209) (hx : ∀ M', txR M' (s ++ tl1 p m) → frX M' M0 → px_WP 301 0 0 (px_Q0 LAY Q) 7 [(2, 127), (0, sl), (0, i + 1), (9, 0)] [] LAY M' 0 0) (k : Int) (hk_k : k ≤ (p.length:Int)+1) : ∀ (M : px_mem), 1 ≤ k → txR M (s ++ p.take (k - 1).toNat) → frX M M0 → px_WP 301 0 0 (px_Q0 LAY Q) 18 [(2, 127), (0, sl), (0, i), (0, k)] [] LAY M 0 0 := by
  refine up_ind (P := fun k => ∀ (M : px_mem), 1 ≤ k → txR M (s ++ p.take (k - 1).toNat) → frX M M0 → px_WP 301 0 0 (px_Q0 LAY Q) 18 [(2, 127), (0, sl), (0, i), (0, k)] [] LAY M 0 0) ((p.length:Int)+1) (fun k hk_k ih => ?_) k hk_k
  intro M k1 hl hf
  have e128 := frX_128 hf
  have hlen := fp_len hpk.2.1
  rw [hpe] at hlen
  have hlen2 := hlen.symm
  have htk := @List.length_take_le Int (k - 1).toNat p
  refine px_go_ok (inl := [204,205,207,187]) 60 ?_
  simp only [px_go, px_Q0_at, px_sx_0, px_sx_s, px_cl, px_step, ↓px_ll, px_lg, f4_, ↓px_r1, ↓px_r2, ↓px_r4, ↓px_r5, ↓px_p1, ↓px_p2, ↓px_p3, ↓px_pop, px_k_0, px_k_s, px_k3_0, px_stk_, px_cats, px_ent, px_st1, px_st2, px_mask, ↓px_tsw, ↓px_lsw, ct_, mls_0, mls_1, mls_2, mls_3, mls_4, mls_5, kd_0, kd_1, kd_2, kd_3, ln_0, ln_1, ln_2, ln_3, gf_0, gf_1, gf_2, gf_3, gf_4, gf_7, gf_21, gf_63, dy_0, dy_1, dy_2, dy_3, dy_7, dy_21, px_brT, px_brF, true_and, and_true, and_false, false_and, and_self, true_implies, false_implies, or_true, true_or, or_false, false_or, eq_self, ne_eq, not_false_eq_true, not_true_eq_false, if_true, if_false, List.mem_cons, List.not_mem_nil, List.length_cons, List.length_nil, Nat.reduceEqDiff, Nat.reduceAdd, Nat.reduceSub, Nat.reduceLeDiff, Nat.reduceLT, Int.reduceEq, Int.reduceLT, Int.reduceLE, Int.reduceNeg, Int.reduceAdd, Int.reduceSub, Int.reduceToNat, ↓reduceIte, one_ne_zero_, zero_ne_one_, px_in32L, cd_301, cd_204, cd_205, cd_207, cd_187, e128, hlen2]
  repeat' (first | (with_reducible apply And.intro) | (with_reducible refine px_br_intro (fun _ => ?_) (fun _ => ?_)))
  all_goals (try (first | (unfold px_in32; omega) | omega))
  · rename_i c1
    have hk : (k - 1).toNat = p.length := by omega
    rw [hk, List.take_of_length_le (by omega)] at hl
    refine sp_says hl (by rw [List.length_append]; omega) (fun M1 a1 a2 => ?_)
    have g128 : M1 128 = M0 128 := by rw [frX_128 a2, e128]
    simp only [px_go, px_Q0_at, px_sx_0, px_sx_s, px_cl, px_step, ↓px_ll, px_lg, f4_, ↓px_r1, ↓px_r2, ↓px_r4, ↓px_r5, ↓px_p1, ↓px_p2, ↓px_p3, ↓px_pop, px_k_0, px_k_s, px_k3_0, px_stk_, px_cats, px_ent, px_st1, px_st2, px_mask, ↓px_tsw, ↓px_lsw, ct_, mls_0, mls_1, mls_2, mls_3, mls_4, mls_5, kd_0, kd_1, kd_2, kd_3, ln_0, ln_1, ln_2, ln_3, gf_0, gf_1, gf_2, gf_3, gf_4, gf_7, gf_21, gf_63, dy_0, dy_1, dy_2, dy_3, dy_7, dy_21, px_brT, px_brF, true_and, and_true, and_false, false_and, and_self, true_implies, false_implies, or_true, true_or, or_false, false_or, eq_self, ne_eq, not_false_eq_true, not_true_eq_false, if_true, if_false, List.mem_cons, List.not_mem_nil, List.length_cons, List.length_nil, Nat.reduceEqDiff, Nat.reduceAdd, Nat.reduceSub, Nat.reduceLeDiff, Nat.reduceLT, Int.reduceEq, Int.reduceLT, Int.reduceLE, Int.reduceNeg, Int.reduceAdd, Int.reduceSub, Int.reduceToNat, ↓reduceIte, one_ne_zero_, zero_ne_one_, px_in32L, cd_301, cd_204, cd_205, cd_207, cd_187, g128, hce, hme]
    repeat' (first | (with_reducible apply And.intro) | (with_reducible refine px_br_intro (fun _ => ?_) (fun _ => ?_)))
    all_goals (try (first | (unfold px_in32; omega) | omega))
    refine sp_saysNum hm (by simp only [List.length_append, List.length_cons, List.length_nil]; omega) a1 (fun M2 a3 a4 => ?_)
    simp only [px_go, px_Q0_at, px_sx_0, px_sx_s, px_cl, px_step, ↓px_ll, px_lg, f4_, ↓px_r1, ↓px_r2, ↓px_r4, ↓px_r5, ↓px_p1, ↓px_p2, ↓px_p3, ↓px_pop, px_k_0, px_k_s, px_k3_0, px_stk_, px_cats, px_ent, px_st1, px_st2, px_mask, ↓px_tsw, ↓px_lsw, ct_, mls_0, mls_1, mls_2, mls_3, mls_4, mls_5, kd_0, kd_1, kd_2, kd_3, ln_0, ln_1, ln_2, ln_3, gf_0, gf_1, gf_2, gf_3, gf_4, gf_7, gf_21, gf_63, dy_0, dy_1, dy_2, dy_3, dy_7, dy_21, px_brT, px_brF, true_and, and_true, and_false, false_and, and_self, true_implies, false_implies, or_true, true_or, or_false, false_or, eq_self, ne_eq, not_false_eq_true, not_true_eq_false, if_true, if_false, List.mem_cons, List.not_mem_nil, List.length_cons, List.length_nil, Nat.reduceEqDiff, Nat.reduceAdd, Nat.reduceSub, Nat.reduceLeDiff, Nat.reduceLT, Int.reduceEq, Int.reduceLT, Int.reduceLE, Int.reduceNeg, Int.reduceAdd, Int.reduceSub, Int.reduceToNat, ↓reduceIte, one_ne_zero_, zero_ne_one_, px_in32L, cd_301, cd_204, cd_205, cd_207, cd_187]
    have hd := dig_len m
    refine sp_says a3 (by simp only [List.length_append, List.length_cons, List.length_nil]; omega) (fun M3 a5 a6 => ?_)
    simp only [px_go, px_Q0_at, px_sx_0, px_sx_s, px_cl, px_step, ↓px_ll, px_lg, f4_, ↓px_r1, ↓px_r2, ↓px_r4, ↓px_r5, ↓px_p1, ↓px_p2, ↓px_p3, ↓px_pop, px_k_0, px_k_s, px_k3_0, px_stk_, px_cats, px_ent, px_st1, px_st2, px_mask, ↓px_tsw, ↓px_lsw, ct_, mls_0, mls_1, mls_2, mls_3, mls_4, mls_5, kd_0, kd_1, kd_2, kd_3, ln_0, ln_1, ln_2, ln_3, gf_0, gf_1, gf_2, gf_3, gf_4, gf_7, gf_21, gf_63, dy_0, dy_1, dy_2, dy_3, dy_7, dy_21, px_brT, px_brF, true_and, and_true, and_false, false_and, and_self, true_implies, false_implies, or_true, true_or, or_false, false_or, eq_self, ne_eq, not_false_eq_true, not_true_eq_false, if_true, if_false, List.mem_cons, List.not_mem_nil, List.length_cons, List.length_nil, Nat.reduceEqDiff, Nat.reduceAdd, Nat.reduceSub, Nat.reduceLeDiff, Nat.reduceLT, Int.reduceEq, Int.reduceLT, Int.reduceLE, Int.reduceNeg, Int.reduceAdd, Int.reduceSub, Int.reduceToNat, ↓reduceIte, one_ne_zero_, zero_ne_one_, px_in32L, cd_301, cd_204, cd_205, cd_207, cd_187]
    repeat' (first | (with_reducible apply And.intro) | (with_reducible refine px_br_intro (fun _ => ?_) (fun _ => ?_)))
    all_goals (try (first | (unfold px_in32; omega) | omega))
    refine hx M3 ?_ (frX_trans a6 (frX_trans a4 (frX_trans a2 hf)))
    unfold tl1
    simp only [List.append_assoc] at a5 ⊢
    exact a5
  · rename_i c1
    refine sp_says hl (by rw [List.length_append]; omega) (fun M1 a1 a2 => ?_)
    simp only [px_go, px_Q0_at, px_sx_0, px_sx_s, px_cl, px_step, ↓px_ll, px_lg, f4_, ↓px_r1, ↓px_r2, ↓px_r4, ↓px_r5, ↓px_p1, ↓px_p2, ↓px_p3, ↓px_pop, px_k_0, px_k_s, px_k3_0, px_stk_, px_cats, px_ent, px_st1, px_st2, px_mask, ↓px_tsw, ↓px_lsw, ct_, mls_0, mls_1, mls_2, mls_3, mls_4, mls_5, kd_0, kd_1, kd_2, kd_3, ln_0, ln_1, ln_2, ln_3, gf_0, gf_1, gf_2, gf_3, gf_4, gf_7, gf_21, gf_63, dy_0, dy_1, dy_2, dy_3, dy_7, dy_21, px_brT, px_brF, true_and, and_true, and_false, false_and, and_self, true_implies, false_implies, or_true, true_or, or_false, false_or, eq_self, ne_eq, not_false_eq_true, not_true_eq_false, if_true, if_false, List.mem_cons, List.not_mem_nil, List.length_cons, List.length_nil, Nat.reduceEqDiff, Nat.reduceAdd, Nat.reduceSub, Nat.reduceLeDiff, Nat.reduceLT, Int.reduceEq, Int.reduceLT, Int.reduceLE, Int.reduceNeg, Int.reduceAdd, Int.reduceSub, Int.reduceToNat, ↓reduceIte, one_ne_zero_, zero_ne_one_, px_in32L, cd_301, cd_204, cd_205, cd_207, cd_187]
    repeat' (first | (with_reducible apply And.intro) | (with_reducible refine px_br_intro (fun _ => ?_) (fun _ => ?_)))
    all_goals (try (first | (unfold px_in32; omega) | omega))
    refine ih (by omega) M1 (by omega) ?_ (frX_trans a2 hf)
    have hget : p[(k - 1).toNat]? = some (p[(k - 1).toNat]'(by omega)) := List.getElem?_eq_getElem (by omega)
    have h2 : p[(k - 1).toNat]? = some (M0 128 (1294 + 186 * sl + 18 + 14 * i + k)) := by
      rw [← hpe]
      have := lst_get (f := fun k => M0 128 (1294 + 186 * sl + 18 + 14 * i + 1 + k)) (n := M0 128 (1294 + 186 * sl + 18 + 14 * i)) (k := (k - 1).toNat) (by omega)
      rw [Int.toNat_of_nonneg (by omega), show 1294 + 186 * sl + 18 + 14 * i + 1 + (k - 1) = 1294 + 186 * sl + 18 + 14 * i + k by omega] at this
      exact this
    rw [show (k + 1 - 1).toNat = (k - 1).toNat + 1 by omega, List.take_succ, h2, ← List.append_assoc]
    exact a1
set_option maxHeartbeats 600000 in
set_option maxRecDepth 100000 in
theorem lp_rt1 {M0 Mc : px_mem} {sl : Int} {pl : Int → Int → List Int} {nm : Int → List Int} (hT : TE Mc pl nm (M0 128)) (hs : 0 ≤ sl ∧ sl < Mc 20 1) (h : ∀ M', txR M' (tlE Mc (Mc 21 sl) (pl sl)) → frX M' M0 → Q none M') (i : Int) (hk_i : i ≤ Mc (Mc 21 sl) 2) : ∀ (M : px_mem), 0 ≤ i → txR M (tl (pl sl) (fun j => Mc 58 (Mc (Mc 21 sl + 2) j)) i) → frX M M0 → px_WP 301 0 0 (px_Q0 LAY Q) 7 [(2, 127), (0, sl), (0, i), (9, 0)] [] LAY M 0 0 := by
  refine up_ind (P := fun i => ∀ (M : px_mem), 0 ≤ i → txR M (tl (pl sl) (fun j => Mc 58 (Mc (Mc 21 sl + 2) j)) i) → frX M M0 → px_WP 301 0 0 (px_Q0 LAY Q) 7 [(2, 127), (0, sl), (0, i), (9, 0)] [] LAY M 0 0) (Mc (Mc 21 sl) 2) (fun i hk_i ih => ?_) i hk_i
  intro M i0 hl hf
  have e128 := frX_128 hf
  have hTn := TE_n hT
  have he := TE_e hT hs.1 hs.2
  have e17 : M0 128 (1294 + 186 * sl + 17) = Mc (Mc 21 sl) 2 := he.2.2.2.2.1
  have hn12 := he.2.2.2.2.2
  refine px_go_ok (inl := [204,206]) 60 ?_
  simp only [px_go, px_Q0_at, px_sx_0, px_sx_s, px_cl, px_step, ↓px_ll, px_lg, f4_, ↓px_r1, ↓px_r2, ↓px_r4, ↓px_r5, ↓px_p1, ↓px_p2, ↓px_p3, ↓px_pop, px_k_0, px_k_s, px_k3_0, px_stk_, px_cats, px_ent, px_st1, px_st2, px_mask, ↓px_tsw, ↓px_lsw, ct_, mls_0, mls_1, mls_2, mls_3, mls_4, mls_5, kd_0, kd_1, kd_2, kd_3, ln_0, ln_1, ln_2, ln_3, gf_0, gf_1, gf_2, gf_3, gf_4, gf_7, gf_21, gf_63, dy_0, dy_1, dy_2, dy_3, dy_7, dy_21, px_brT, px_brF, true_and, and_true, and_false, false_and, and_self, true_implies, false_implies, or_true, true_or, or_false, false_or, eq_self, ne_eq, not_false_eq_true, not_true_eq_false, if_true, if_false, List.mem_cons, List.not_mem_nil, List.length_cons, List.length_nil, Nat.reduceEqDiff, Nat.reduceAdd, Nat.reduceSub, Nat.reduceLeDiff, Nat.reduceLT, Int.reduceEq, Int.reduceLT, Int.reduceLE, Int.reduceNeg, Int.reduceAdd, Int.reduceSub, Int.reduceToNat, ↓reduceIte, one_ne_zero_, zero_ne_one_, px_in32L, cd_301, cd_204, cd_206, e128, e17]
  repeat' (first | (with_reducible apply And.intro) | (with_reducible refine px_br_intro (fun _ => ?_) (fun _ => ?_)))
  all_goals (try (first | (unfold px_in32; omega) | omega))
  · rename_i c1
    rw [show i = Mc (Mc 21 sl) 2 by omega] at hl
    exact h M hl hf
  · rename_i c1
    have en := TE_ent hT hs.1 hs.2 i0 (by omega)
    have hce : M0 128 (1294 + 186 * sl + 18 + 14 * i + 13) = Mc (Mc 21 sl + 2) i := en.1.2.2
    have hme : M0 128 (654 + 6 * Mc (Mc 21 sl + 2) i + 2) = Mc 58 (Mc (Mc 21 sl + 2) i) := (tieC_p hT.1 en.2.2.2.1 en.2.2.2.2.1 en.2.2.2.2.2).2.1
    have hcok := cokC (hT.1.1.1 _ en.2.2.2.1 en.2.2.2.2.1 en.2.2.2.2.2)
    have hlen := tl_len (pl := pl sl) (mk := fun j => Mc 58 (Mc (Mc 21 sl + 2) j)) (n := Mc (Mc 21 sl) 2) (fun j j0 j1 => (TE_ent hT hs.1 hs.2 j0 j1).2.1.2) i.toNat (by omega)
    rw [Int.toNat_of_nonneg i0] at hlen
    refine lp_rt2 (M0 := M0) (p := pl sl i) ⟨hs.1, by omega⟩ ⟨i0, by omega⟩ en.2.1.2 en.1.1 en.1.2.1 hce ⟨en.2.2.2.1, en.2.2.2.2.1⟩ hme ⟨by omega, by omega⟩ (s := tl (pl sl) (fun j => Mc 58 (Mc (Mc 21 sl + 2) j)) i) (by omega) (fun M' a1 a2 => ih (by omega) M' (by omega) (by rw [tl_s i0]; exact a1) a2) 1 (by omega) M (Int.le_refl 1) ?_ hf
    show txR M (tl (pl sl) (fun j => Mc 58 (Mc (Mc 21 sl + 2) j)) i ++ (pl sl i).take 0)
    rw [List.take_zero, List.append_nil]
    exact hl
set_option maxHeartbeats 600000 in
set_option maxRecDepth 100000 in
theorem sp_laysText {Mc : px_mem} {sl : Int} {pl : Int → Int → List Int} {nm : Int → List Int} (hT : TE Mc pl nm (M 128)) (hs : 0 ≤ sl ∧ sl < Mc 20 1) (h : ∀ M', txR M' (tlE Mc (Mc 21 sl) (pl sl)) → frX M' M → Q none M') : px_Ok 301 [(2, 127), (0, sl)] LAY M Q := by
  refine px_ok_go (inl := []) (ls0 := [(2, 127), (0, sl), (9, 0), (9, 0)]) 60 (by decide) (Nat.le_of_ble_eq_true rfl) rfl ?_
  simp only [px_go, px_Q0_at, px_sx_0, px_sx_s, px_cl, px_step, ↓px_ll, px_lg, f4_, ↓px_r1, ↓px_r2, ↓px_r4, ↓px_r5, ↓px_p1, ↓px_p2, ↓px_p3, ↓px_pop, px_k_0, px_k_s, px_k3_0, px_stk_, px_cats, px_ent, px_st1, px_st2, px_mask, ↓px_tsw, ↓px_lsw, ct_, mls_0, mls_1, mls_2, mls_3, mls_4, mls_5, kd_0, kd_1, kd_2, kd_3, ln_0, ln_1, ln_2, ln_3, gf_0, gf_1, gf_2, gf_3, gf_4, gf_7, gf_21, gf_63, dy_0, dy_1, dy_2, dy_3, dy_7, dy_21, px_brT, px_brF, true_and, and_true, and_false, false_and, and_self, true_implies, false_implies, or_true, true_or, or_false, false_or, eq_self, ne_eq, not_false_eq_true, not_true_eq_false, if_true, if_false, List.mem_cons, List.not_mem_nil, List.length_cons, List.length_nil, Nat.reduceEqDiff, Nat.reduceAdd, Nat.reduceSub, Nat.reduceLeDiff, Nat.reduceLT, Int.reduceEq, Int.reduceLT, Int.reduceLE, Int.reduceNeg, Int.reduceAdd, Int.reduceSub, Int.reduceToNat, ↓reduceIte, one_ne_zero_, zero_ne_one_, px_in32L, cd_301]
  repeat' (first | (with_reducible apply And.intro) | (with_reducible refine px_br_intro (fun _ => ?_) (fun _ => ?_)))
  all_goals (try (first | (unfold px_in32; omega) | omega))
  have he := TE_e hT hs.1 hs.2
  refine lp_rt1 (M0 := M) hT hs h 0 he.2.2.2.2.2.1 _ (Int.le_refl 0) ⟨?_, rfl⟩ ⟨fun j j0 => ?_, fun b b0 _ => row_ne b0⟩
  · rw [px_up_at, if_pos ⟨rfl, rfl⟩]; rfl
  · rw [px_up_at, if_neg (fun z => j0 z.2)]
set_option maxHeartbeats 600000 in
set_option maxRecDepth 100000 in
theorem sp_markOfText {Mc : px_mem} {sl : Int} {pl : Int → Int → List Int} {nm : Int → List Int} (hT : TE Mc pl nm (M 128)) (hs : 0 ≤ sl ∧ sl < Mc 20 1) (h : ∀ M', frX M' M → Q (some (0, mkl (tlE Mc (Mc 21 sl) (pl sl)))) M') : px_Ok 302 [(2, 127), (0, sl)] LAY M Q := by
  refine px_ok_go (inl := []) (ls0 := [(2, 127), (0, sl)]) 60 (by decide) (Nat.le_of_ble_eq_true rfl) rfl ?_
  simp only [px_go, px_Q0_at, px_sx_0, px_sx_s, px_cl, px_step, ↓px_ll, px_lg, f4_, ↓px_r1, ↓px_r2, ↓px_r4, ↓px_r5, ↓px_p1, ↓px_p2, ↓px_p3, ↓px_pop, px_k_0, px_k_s, px_k3_0, px_stk_, px_cats, px_ent, px_st1, px_st2, px_mask, ↓px_tsw, ↓px_lsw, ct_, mls_0, mls_1, mls_2, mls_3, mls_4, mls_5, kd_0, kd_1, kd_2, kd_3, ln_0, ln_1, ln_2, ln_3, gf_0, gf_1, gf_2, gf_3, gf_4, gf_7, gf_21, gf_63, dy_0, dy_1, dy_2, dy_3, dy_7, dy_21, px_brT, px_brF, true_and, and_true, and_false, false_and, and_self, true_implies, false_implies, or_true, true_or, or_false, false_or, eq_self, ne_eq, not_false_eq_true, not_true_eq_false, if_true, if_false, List.mem_cons, List.not_mem_nil, List.length_cons, List.length_nil, Nat.reduceEqDiff, Nat.reduceAdd, Nat.reduceSub, Nat.reduceLeDiff, Nat.reduceLT, Int.reduceEq, Int.reduceLT, Int.reduceLE, Int.reduceNeg, Int.reduceAdd, Int.reduceSub, Int.reduceToNat, ↓reduceIte, one_ne_zero_, zero_ne_one_, px_in32L, cd_302]
  repeat' (first | (with_reducible apply And.intro) | (with_reducible refine px_br_intro (fun _ => ?_) (fun _ => ?_)))
  all_goals (try (first | (unfold px_in32; omega) | omega))
  have hei := hT.2.1.2 sl hs.1 hs.2
  have hlen := tlE_len hei.1
  have hby := tlE_by hei
  refine sp_laysText hT hs (fun M1 a1 a2 => ?_)
  have h := h M1 a2
  generalize tlE Mc (Mc 21 sl) (pl sl) = T at *
  have e35 := a1.1
  simp only [px_go, px_Q0_at, px_sx_0, px_sx_s, px_cl, px_step, ↓px_ll, px_lg, f4_, ↓px_r1, ↓px_r2, ↓px_r4, ↓px_r5, ↓px_p1, ↓px_p2, ↓px_p3, ↓px_pop, px_k_0, px_k_s, px_k3_0, px_stk_, px_cats, px_ent, px_st1, px_st2, px_mask, ↓px_tsw, ↓px_lsw, ct_, mls_0, mls_1, mls_2, mls_3, mls_4, mls_5, kd_0, kd_1, kd_2, kd_3, ln_0, ln_1, ln_2, ln_3, gf_0, gf_1, gf_2, gf_3, gf_4, gf_7, gf_21, gf_63, dy_0, dy_1, dy_2, dy_3, dy_7, dy_21, px_brT, px_brF, true_and, and_true, and_false, false_and, and_self, true_implies, false_implies, or_true, true_or, or_false, false_or, eq_self, ne_eq, not_false_eq_true, not_true_eq_false, if_true, if_false, List.mem_cons, List.not_mem_nil, List.length_cons, List.length_nil, Nat.reduceEqDiff, Nat.reduceAdd, Nat.reduceSub, Nat.reduceLeDiff, Nat.reduceLT, Int.reduceEq, Int.reduceLT, Int.reduceLE, Int.reduceNeg, Int.reduceAdd, Int.reduceSub, Int.reduceToNat, ↓reduceIte, one_ne_zero_, zero_ne_one_, px_in32L, cd_302, e35]
  have eb : ∀ j, 0 ≤ j → j < (T.length : Int) → M1 151 j = nth T j := fun j j0 j1 => by
    have e := nth_lst (f := M1 151) j0 j1
    rw [a1.2] at e
    exact e.symm
  refine sp_rmark (v := 151) rfl (Int.le_refl 0) (by omega) (by rw [show px_ln LAY 151 = 240 from rfl]; omega) (by decide) (fun j j0 j1 => ?_) ?_
  · rw [Int.zero_add, eb j j0 j1]
    exact hby _ (nth_mem j0 j1)
  · have e : mk (fun j => M1 151 (0 + j)) (T.length : Int) = mkl T := by
      have e2 : (fun j => M1 151 (0 + j)) = M1 151 := funext (fun j => by rw [Int.zero_add])
      rw [e2, mkl_lst (by omega), a1.2]
    rw [e]
    simp only [px_go, px_Q0_at, px_sx_0, px_sx_s, px_cl, px_step, ↓px_ll, px_lg, f4_, ↓px_r1, ↓px_r2, ↓px_r4, ↓px_r5, ↓px_p1, ↓px_p2, ↓px_p3, ↓px_pop, px_k_0, px_k_s, px_k3_0, px_stk_, px_cats, px_ent, px_st1, px_st2, px_mask, ↓px_tsw, ↓px_lsw, ct_, mls_0, mls_1, mls_2, mls_3, mls_4, mls_5, kd_0, kd_1, kd_2, kd_3, ln_0, ln_1, ln_2, ln_3, gf_0, gf_1, gf_2, gf_3, gf_4, gf_7, gf_21, gf_63, dy_0, dy_1, dy_2, dy_3, dy_7, dy_21, px_brT, px_brF, true_and, and_true, and_false, false_and, and_self, true_implies, false_implies, or_true, true_or, or_false, false_or, eq_self, ne_eq, not_false_eq_true, not_true_eq_false, if_true, if_false, List.mem_cons, List.not_mem_nil, List.length_cons, List.length_nil, Nat.reduceEqDiff, Nat.reduceAdd, Nat.reduceSub, Nat.reduceLeDiff, Nat.reduceLT, Int.reduceEq, Int.reduceLT, Int.reduceLE, Int.reduceNeg, Int.reduceAdd, Int.reduceSub, Int.reduceToNat, ↓reduceIte, one_ne_zero_, zero_ne_one_, px_in32L, cd_302]
    exact h
set_option maxHeartbeats 600000 in
set_option maxRecDepth 100000 in
theorem sp_rtold {Mc : px_mem} {num i : Int} {pl : Int → Int → List Int} {nm : Int → List Int} (hT : TE Mc pl nm (M 128)) (h0 : (slot Mc num < 0 ∨ i < -1) → Q (some (0, -1)) M) (h1 : ∀ M', 0 ≤ slot Mc num → slot Mc num < Mc 20 1 → -1 ≤ i → M' 128 = M 128 → out M' M → Q (some (0, if i = -1 then ((tlE Mc (Mc 21 (slot Mc num)) (pl (slot Mc num))).length : Int) else if i < ((tlE Mc (Mc 21 (slot Mc num)) (pl (slot Mc num))).length : Int) then nth (tlE Mc (Mc 21 (slot Mc num)) (pl (slot Mc num))) i else -4)) M') : px_Ok 303 [(2, 127), (0, num), (0, i)] LAY M Q := by
  refine px_ok_go (inl := []) (ls0 := [(2, 127), (0, num), (0, i), (9, 0)]) 60 (by decide) (Nat.le_of_ble_eq_true rfl) rfl ?_
  simp only [px_go, px_Q0_at, px_sx_0, px_sx_s, px_cl, px_step, ↓px_ll, px_lg, f4_, ↓px_r1, ↓px_r2, ↓px_r4, ↓px_r5, ↓px_p1, ↓px_p2, ↓px_p3, ↓px_pop, px_k_0, px_k_s, px_k3_0, px_stk_, px_cats, px_ent, px_st1, px_st2, px_mask, ↓px_tsw, ↓px_lsw, ct_, mls_0, mls_1, mls_2, mls_3, mls_4, mls_5, kd_0, kd_1, kd_2, kd_3, ln_0, ln_1, ln_2, ln_3, gf_0, gf_1, gf_2, gf_3, gf_4, gf_7, gf_21, gf_63, dy_0, dy_1, dy_2, dy_3, dy_7, dy_21, px_brT, px_brF, true_and, and_true, and_false, false_and, and_self, true_implies, false_implies, or_true, true_or, or_false, false_or, eq_self, ne_eq, not_false_eq_true, not_true_eq_false, if_true, if_false, List.mem_cons, List.not_mem_nil, List.length_cons, List.length_nil, Nat.reduceEqDiff, Nat.reduceAdd, Nat.reduceSub, Nat.reduceLeDiff, Nat.reduceLT, Int.reduceEq, Int.reduceLT, Int.reduceLE, Int.reduceNeg, Int.reduceAdd, Int.reduceSub, Int.reduceToNat, ↓reduceIte, one_ne_zero_, zero_ne_one_, px_in32L, cd_303]
  repeat' (first | (with_reducible apply And.intro) | (with_reducible refine px_br_intro (fun _ => ?_) (fun _ => ?_)))
  all_goals (try (first | (unfold px_in32; omega) | omega))
  have hsb := slot_bd Mc num
  refine sp_slotT hT ?_
  generalize hsl : slot Mc num = s at *
  simp only [px_go, px_Q0_at, px_sx_0, px_sx_s, px_cl, px_step, ↓px_ll, px_lg, f4_, ↓px_r1, ↓px_r2, ↓px_r4, ↓px_r5, ↓px_p1, ↓px_p2, ↓px_p3, ↓px_pop, px_k_0, px_k_s, px_k3_0, px_stk_, px_cats, px_ent, px_st1, px_st2, px_mask, ↓px_tsw, ↓px_lsw, ct_, mls_0, mls_1, mls_2, mls_3, mls_4, mls_5, kd_0, kd_1, kd_2, kd_3, ln_0, ln_1, ln_2, ln_3, gf_0, gf_1, gf_2, gf_3, gf_4, gf_7, gf_21, gf_63, dy_0, dy_1, dy_2, dy_3, dy_7, dy_21, px_brT, px_brF, true_and, and_true, and_false, false_and, and_self, true_implies, false_implies, or_true, true_or, or_false, false_or, eq_self, ne_eq, not_false_eq_true, not_true_eq_false, if_true, if_false, List.mem_cons, List.not_mem_nil, List.length_cons, List.length_nil, Nat.reduceEqDiff, Nat.reduceAdd, Nat.reduceSub, Nat.reduceLeDiff, Nat.reduceLT, Int.reduceEq, Int.reduceLT, Int.reduceLE, Int.reduceNeg, Int.reduceAdd, Int.reduceSub, Int.reduceToNat, ↓reduceIte, one_ne_zero_, zero_ne_one_, px_in32L, cd_303]
  repeat' (first | (with_reducible apply And.intro) | (with_reducible refine px_br_intro (fun _ => ?_) (fun _ => ?_)))
  all_goals (try (first | (unfold px_in32; omega) | omega))
  · exact h0 (Or.inl (by omega))
  · rename_i c1 c2
    have hs' : 0 ≤ s ∧ s < Mc 20 1 := by omega
    have hei := hT.2.1.2 s hs'.1 hs'.2
    have hlen := tlE_len hei.1
    refine sp_laysText hT hs' (fun M1 a1 a2 => ?_)
    have h := h1 M1 hs'.1 hs'.2 (by omega) (frX_128 a2) (frX_out a2)
    generalize tlE Mc (Mc 21 s) (pl s) = T at *
    have e35 := a1.1
    simp only [px_go, px_Q0_at, px_sx_0, px_sx_s, px_cl, px_step, ↓px_ll, px_lg, f4_, ↓px_r1, ↓px_r2, ↓px_r4, ↓px_r5, ↓px_p1, ↓px_p2, ↓px_p3, ↓px_pop, px_k_0, px_k_s, px_k3_0, px_stk_, px_cats, px_ent, px_st1, px_st2, px_mask, ↓px_tsw, ↓px_lsw, ct_, mls_0, mls_1, mls_2, mls_3, mls_4, mls_5, kd_0, kd_1, kd_2, kd_3, ln_0, ln_1, ln_2, ln_3, gf_0, gf_1, gf_2, gf_3, gf_4, gf_7, gf_21, gf_63, dy_0, dy_1, dy_2, dy_3, dy_7, dy_21, px_brT, px_brF, true_and, and_true, and_false, false_and, and_self, true_implies, false_implies, or_true, true_or, or_false, false_or, eq_self, ne_eq, not_false_eq_true, not_true_eq_false, if_true, if_false, List.mem_cons, List.not_mem_nil, List.length_cons, List.length_nil, Nat.reduceEqDiff, Nat.reduceAdd, Nat.reduceSub, Nat.reduceLeDiff, Nat.reduceLT, Int.reduceEq, Int.reduceLT, Int.reduceLE, Int.reduceNeg, Int.reduceAdd, Int.reduceSub, Int.reduceToNat, ↓reduceIte, one_ne_zero_, zero_ne_one_, px_in32L, cd_303, e35]
    repeat' (first | (with_reducible apply And.intro) | (with_reducible refine px_br_intro (fun _ => ?_) (fun _ => ?_)))
    all_goals (try (first | (unfold px_in32; omega) | omega))
    · rename_i c3
      rw [if_pos c3] at h; exact h
    · rename_i c3 c4
      rw [if_neg c3, if_neg (by omega)] at h; exact h
    · rename_i c3 c4
      rw [if_neg c3, if_pos (by omega)] at h
      have e := nth_lst (f := M1 151) (n := (T.length : Int)) (k := i) (by omega) (by omega)
      rw [a1.2] at e
      rw [← e]; exact h
  · exact h0 (Or.inr (by omega))
end PS
