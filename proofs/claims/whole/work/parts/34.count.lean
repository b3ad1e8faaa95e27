/-! EditionVault.Contents: counts -/
set_option maxRecDepth 100000 in
/-- X1_leastFree -/
theorem cd_19 : px_at 19 0 = some (1, [], .iconst 0, []) ∧ px_at 19 1 = some (2, [], .istore_n 1, []) ∧ px_at 19 2 = some (3, [1, 1], .iload_n 1, []) ∧ px_at 19 3 = some (5, [], .bipush 40, []) ∧ px_at 19 5 = some (8, [], .if_icmp .ge 20, [25]) ∧ px_at 19 8 = some (9, [], .aload_n 0, []) ∧ px_at 19 9 = some (12, [], .getfield 27, [1, 5, 2, 1, 76]) ∧ px_at 19 12 = some (13, [], .iload_n 1, []) ∧ px_at 19 13 = some (14, [], .iaload, []) ∧ px_at 19 14 = some (17, [], .ifCond .ge 5, [19]) ∧ px_at 19 17 = some (18, [], .iload_n 1, []) ∧ px_at 19 18 = some (19, [], .ireturn, [0]) ∧ px_at 19 19 = some (22, [], .iinc 1 1, []) ∧ px_at 19 22 = some (25, [], .goto (-20), [2]) ∧ px_at 19 25 = some (26, [], .iconst (-1), []) ∧ px_at 19 26 = some (27, [], .ireturn, [0]) := ⟨rfl, rfl, rfl, rfl, rfl, rfl, rfl, rfl, rfl, rfl, rfl, rfl, rfl, rfl, rfl, rfl⟩
set_option maxRecDepth 100000 in
/-- X1_factOf -/
theorem cd_28 : px_at 28 0 = some (1, [], .iload_n 2, []) ∧ px_at 28 1 = some (56, [], .tableswitch 133 0 9 #[55, 62, 69, 76, 83, 90, 133, 97, 103, 118], [134, 56, 63, 70, 77, 84, 91, 134, 98, 104, 119]) ∧ px_at 28 56 = some (57, [], .aload_n 0, []) ∧ px_at 28 57 = some (60, [], .getfield 9, [1, 0, 2, 1, 66]) ∧ px_at 28 60 = some (61, [], .iload_n 1, []) ∧ px_at 28 61 = some (62, [], .iaload, []) ∧ px_at 28 62 = some (63, [], .ireturn, [0]) ∧ px_at 28 63 = some (64, [], .aload_n 0, []) ∧ px_at 28 64 = some (67, [], .getfield 15, [1, 1, 2, 1, 69]) ∧ px_at 28 67 = some (68, [], .iload_n 1, []) ∧ px_at 28 68 = some (69, [], .iaload, []) ∧ px_at 28 69 = some (70, [], .ireturn, [0]) ∧ px_at 28 70 = some (71, [], .aload_n 0, []) ∧ px_at 28 71 = some (74, [], .getfield 18, [1, 2, 2, 1, 71]) ∧ px_at 28 74 = some (75, [], .iload_n 1, []) ∧ px_at 28 75 = some (76, [], .iaload, []) ∧ px_at 28 76 = some (77, [], .ireturn, [0]) ∧ px_at 28 77 = some (78, [], .aload_n 0, []) ∧ px_at 28 78 = some (81, [], .getfield 21, [1, 3, 2, 1, 72]) ∧ px_at 28 81 = some (82, [], .iload_n 1, []) ∧ px_at 28 82 = some (83, [], .iaload, []) ∧ px_at 28 83 = some (84, [], .ireturn, [0]) ∧ px_at 28 84 = some (85, [], .aload_n 0, []) ∧ px_at 28 85 = some (88, [], .getfield 24, [1, 4, 2, 1, 74]) ∧ px_at 28 88 = some (89, [], .iload_n 1, []) ∧ px_at 28 89 = some (90, [], .iaload, []) ∧ px_at 28 90 = some (91, [], .ireturn, [0]) ∧ px_at 28 91 = some (92, [], .aload_n 0, []) ∧ px_at 28 92 = some (95, [], .getfield 27, [1, 5, 2, 1, 76]) ∧ px_at 28 95 = some (96, [], .iload_n 1, []) ∧ px_at 28 96 = some (97, [], .iaload, []) ∧ px_at 28 97 = some (98, [], .ireturn, [0]) ∧ px_at 28 98 = some (99, [], .aload_n 0, []) ∧ px_at 28 99 = some (100, [], .iload_n 1, []) ∧ px_at 28 100 = some (103, [], .invokevirtual 144, [29, 1, 1, 153]) ∧ px_at 28 103 = some (104, [], .ireturn, [0]) ∧ px_at 28 104 = some (105, [], .aload_n 0, []) ∧ px_at 28 105 = some (108, [], .getfield 35, [1, 7, 2, 1, 81]) ∧ px_at 28 108 = some (109, [], .iload_n 1, []) ∧ px_at 28 109 = some (110, [], .baload, []) ∧ px_at 28 110 = some (113, [], .ifCond .eq 7, [117]) ∧ px_at 28 113 = some (114, [], .iconst 1, []) ∧ px_at 28 114 = some (117, [], .goto 4, [118]) ∧ px_at 28 117 = some (118, [], .iconst 0, []) ∧ px_at 28 118 = some (119, [], .ireturn, [0]) ∧ px_at 28 119 = some (120, [], .aload_n 0, []) ∧ px_at 28 120 = some (123, [], .getfield 39, [1, 8, 2, 1, 83]) ∧ px_at 28 123 = some (124, [], .iload_n 1, []) ∧ px_at 28 124 = some (125, [], .baload, []) ∧ px_at 28 125 = some (128, [], .ifCond .eq 7, [132]) ∧ px_at 28 128 = some (129, [], .iconst 1, []) ∧ px_at 28 129 = some (132, [], .goto 4, [133]) ∧ px_at 28 132 = some (133, [], .iconst 0, []) ∧ px_at 28 133 = some (134, [], .ireturn, [0]) ∧ px_at 28 134 = some (135, [], .iconst (-1), []) ∧ px_at 28 135 = some (136, [], .ireturn, [0]) := ⟨rfl, rfl, rfl, rfl, rfl, rfl, rfl, rfl, rfl, rfl, rfl, rfl, rfl, rfl, rfl, rfl, rfl, rfl, rfl, rfl, rfl, rfl, rfl, rfl, rfl, rfl, rfl, rfl, rfl, rfl, rfl, rfl, rfl, rfl, rfl, rfl, rfl, rfl, rfl, rfl, rfl, rfl, rfl, rfl, rfl, rfl, rfl, rfl, rfl, rfl, rfl, rfl, rfl, rfl, rfl, rfl⟩
set_option maxRecDepth 100000 in
/-- X1_onesBy -/
theorem cd_29 : px_at 29 0 = some (1, [], .iconst 0, []) ∧ px_at 29 1 = some (2, [], .istore_n 2, []) ∧ px_at 29 2 = some (3, [], .iconst 0, []) ∧ px_at 29 3 = some (4, [], .istore_n 3, []) ∧ px_at 29 4 = some (5, [1, 1, 1, 1], .iload_n 3, []) ∧ px_at 29 5 = some (7, [], .bipush 40, []) ∧ px_at 29 7 = some (10, [], .if_icmp .ge 30, [37]) ∧ px_at 29 10 = some (11, [], .aload_n 0, []) ∧ px_at 29 11 = some (12, [], .iload_n 3, []) ∧ px_at 29 12 = some (15, [], .invokevirtual 60, [7, 1, 1, 67]) ∧ px_at 29 15 = some (18, [], .ifCond .eq 16, [31]) ∧ px_at 29 18 = some (19, [], .aload_n 0, []) ∧ px_at 29 19 = some (22, [], .getfield 24, [1, 4, 2, 1, 74]) ∧ px_at 29 22 = some (23, [], .iload_n 3, []) ∧ px_at 29 23 = some (24, [], .iaload, []) ∧ px_at 29 24 = some (25, [], .iload_n 1, []) ∧ px_at 29 25 = some (28, [], .if_icmp .ne 6, [31]) ∧ px_at 29 28 = some (31, [], .iinc 2 1, []) ∧ px_at 29 31 = some (34, [], .iinc 3 1, []) ∧ px_at 29 34 = some (37, [], .goto (-30), [4]) ∧ px_at 29 37 = some (38, [], .iload_n 2, []) ∧ px_at 29 38 = some (39, [], .ireturn, [0]) := ⟨rfl, rfl, rfl, rfl, rfl, rfl, rfl, rfl, rfl, rfl, rfl, rfl, rfl, rfl, rfl, rfl, rfl, rfl, rfl, rfl, rfl, rfl⟩
set_option maxRecDepth 100000 in
/-- X1_onesByBase -/
theorem cd_30 : px_at 30 0 = some (1, [], .iconst 0, []) ∧ px_at 30 1 = some (2, [], .istore_n 1, []) ∧ px_at 30 2 = some (3, [], .iconst 0, []) ∧ px_at 30 3 = some (4, [], .istore_n 2, []) ∧ px_at 30 4 = some (5, [1, 1, 1], .iload_n 2, []) ∧ px_at 30 5 = some (7, [], .bipush 40, []) ∧ px_at 30 7 = some (10, [], .if_icmp .ge 29, [36]) ∧ px_at 30 10 = some (11, [], .aload_n 0, []) ∧ px_at 30 11 = some (12, [], .iload_n 2, []) ∧ px_at 30 12 = some (15, [], .invokevirtual 60, [7, 1, 1, 67]) ∧ px_at 30 15 = some (18, [], .ifCond .eq 15, [30]) ∧ px_at 30 18 = some (19, [], .aload_n 0, []) ∧ px_at 30 19 = some (22, [], .getfield 24, [1, 4, 2, 1, 74]) ∧ px_at 30 22 = some (23, [], .iload_n 2, []) ∧ px_at 30 23 = some (24, [], .iaload, []) ∧ px_at 30 24 = some (27, [], .ifCond .lt 6, [30]) ∧ px_at 30 27 = some (30, [], .iinc 1 1, []) ∧ px_at 30 30 = some (33, [], .iinc 2 1, []) ∧ px_at 30 33 = some (36, [], .goto (-29), [4]) ∧ px_at 30 36 = some (37, [], .iload_n 1, []) ∧ px_at 30 37 = some (38, [], .ireturn, [0]) := ⟨rfl, rfl, rfl, rfl, rfl, rfl, rfl, rfl, rfl, rfl, rfl, rfl, rfl, rfl, rfl, rfl, rfl, rfl, rfl, rfl, rfl⟩
set_option maxRecDepth 100000 in
/-- X1_howMany -/
theorem cd_31 : px_at 31 0 = some (1, [], .iconst 0, []) ∧ px_at 31 1 = some (2, [], .istore_n 1, []) ∧ px_at 31 2 = some (3, [], .iconst 0, []) ∧ px_at 31 3 = some (4, [], .istore_n 2, []) ∧ px_at 31 4 = some (5, [1, 1, 1], .iload_n 2, []) ∧ px_at 31 5 = some (7, [], .bipush 40, []) ∧ px_at 31 7 = some (10, [], .if_icmp .ge 20, [27]) ∧ px_at 31 10 = some (11, [], .aload_n 0, []) ∧ px_at 31 11 = some (12, [], .iload_n 2, []) ∧ px_at 31 12 = some (15, [], .invokevirtual 60, [7, 1, 1, 67]) ∧ px_at 31 15 = some (18, [], .ifCond .eq 6, [21]) ∧ px_at 31 18 = some (21, [], .iinc 1 1, []) ∧ px_at 31 21 = some (24, [], .iinc 2 1, []) ∧ px_at 31 24 = some (27, [], .goto (-20), [4]) ∧ px_at 31 27 = some (28, [], .iload_n 1, []) ∧ px_at 31 28 = some (29, [], .ireturn, [0]) := ⟨rfl, rfl, rfl, rfl, rfl, rfl, rfl, rfl, rfl, rfl, rfl, rfl, rfl, rfl, rfl, rfl⟩
set_option maxRecDepth 100000 in
/-- X1_spoiltOnes -/
theorem cd_32 : px_at 32 0 = some (1, [], .iconst 0, []) ∧ px_at 32 1 = some (2, [], .istore_n 1, []) ∧ px_at 32 2 = some (3, [], .iconst 0, []) ∧ px_at 32 3 = some (4, [], .istore_n 2, []) ∧ px_at 32 4 = some (5, [1, 1, 1], .iload_n 2, []) ∧ px_at 32 5 = some (7, [], .bipush 40, []) ∧ px_at 32 7 = some (10, [], .if_icmp .ge 29, [36]) ∧ px_at 32 10 = some (11, [], .aload_n 0, []) ∧ px_at 32 11 = some (12, [], .iload_n 2, []) ∧ px_at 32 12 = some (15, [], .invokevirtual 60, [7, 1, 1, 67]) ∧ px_at 32 15 = some (18, [], .ifCond .eq 15, [30]) ∧ px_at 32 18 = some (19, [], .aload_n 0, []) ∧ px_at 32 19 = some (22, [], .getfield 39, [1, 8, 2, 1, 83]) ∧ px_at 32 22 = some (23, [], .iload_n 2, []) ∧ px_at 32 23 = some (24, [], .baload, []) ∧ px_at 32 24 = some (27, [], .ifCond .ne 6, [30]) ∧ px_at 32 27 = some (30, [], .iinc 1 1, []) ∧ px_at 32 30 = some (33, [], .iinc 2 1, []) ∧ px_at 32 33 = some (36, [], .goto (-29), [4]) ∧ px_at 32 36 = some (37, [], .iload_n 1, []) ∧ px_at 32 37 = some (38, [], .ireturn, [0]) := ⟨rfl, rfl, rfl, rfl, rfl, rfl, rfl, rfl, rfl, rfl, rfl, rfl, rfl, rfl, rfl, rfl, rfl, rfl, rfl, rfl, rfl⟩
set_option maxRecDepth 100000 in
/-- X1_keptInAll -/
theorem cd_33 : px_at 33 0 = some (1, [], .iconst 0, []) ∧ px_at 33 1 = some (2, [], .istore_n 1, []) ∧ px_at 33 2 = some (3, [], .iconst 0, []) ∧ px_at 33 3 = some (4, [], .istore_n 2, []) ∧ px_at 33 4 = some (5, [1, 1, 1], .iload_n 2, []) ∧ px_at 33 5 = some (7, [], .bipush 40, []) ∧ px_at 33 7 = some (10, [], .if_icmp .ge 26, [33]) ∧ px_at 33 10 = some (11, [], .aload_n 0, []) ∧ px_at 33 11 = some (12, [], .iload_n 2, []) ∧ px_at 33 12 = some (15, [], .invokevirtual 60, [7, 1, 1, 67]) ∧ px_at 33 15 = some (18, [], .ifCond .eq 12, [27]) ∧ px_at 33 18 = some (19, [], .iload_n 1, []) ∧ px_at 33 19 = some (20, [], .aload_n 0, []) ∧ px_at 33 20 = some (23, [], .getfield 21, [1, 3, 2, 1, 72]) ∧ px_at 33 23 = some (24, [], .iload_n 2, []) ∧ px_at 33 24 = some (25, [], .iaload, []) ∧ px_at 33 25 = some (26, [], .iadd, []) ∧ px_at 33 26 = some (27, [], .istore_n 1, []) ∧ px_at 33 27 = some (30, [], .iinc 2 1, []) ∧ px_at 33 30 = some (33, [], .goto (-26), [4]) ∧ px_at 33 33 = some (34, [], .iload_n 1, []) ∧ px_at 33 34 = some (35, [], .ireturn, [0]) := ⟨rfl, rfl, rfl, rfl, rfl, rfl, rfl, rfl, rfl, rfl, rfl, rfl, rfl, rfl, rfl, rfl, rfl, rfl, rfl, rfl, rfl, rfl⟩
set_option maxRecDepth 100000 in
/-- X1_greatestDepth -/
theorem cd_34 : px_at 34 0 = some (1, [], .iconst 0, []) ∧ px_at 34 1 = some (2, [], .istore_n 1, []) ∧ px_at 34 2 = some (3, [], .iconst 0, []) ∧ px_at 34 3 = some (4, [], .istore_n 2, []) ∧ px_at 34 4 = some (5, [1, 1, 1], .iload_n 2, []) ∧ px_at 34 5 = some (7, [], .bipush 40, []) ∧ px_at 34 7 = some (10, [], .if_icmp .ge 20, [27]) ∧ px_at 34 10 = some (11, [], .iload_n 1, []) ∧ px_at 34 11 = some (12, [], .aload_n 0, []) ∧ px_at 34 12 = some (15, [], .getfield 27, [1, 5, 2, 1, 76]) ∧ px_at 34 15 = some (16, [], .iload_n 2, []) ∧ px_at 34 16 = some (17, [], .iaload, []) ∧ px_at 34 17 = some (20, [], .invokestatic 147, [307, 2, 0, 186]) ∧ px_at 34 20 = some (21, [], .istore_n 1, []) ∧ px_at 34 21 = some (24, [], .iinc 2 1, []) ∧ px_at 34 24 = some (27, [], .goto (-20), [4]) ∧ px_at 34 27 = some (28, [], .iload_n 1, []) ∧ px_at 34 28 = some (29, [], .ireturn, [0]) := ⟨rfl, rfl, rfl, rfl, rfl, rfl, rfl, rfl, rfl, rfl, rfl, rfl, rfl, rfl, rfl, rfl, rfl, rfl⟩
/-- the greatest of the first so many, none below 0 -/
def mxN (g : Int → Int) : Nat → Int
  | 0 => 0
  | k + 1 => max (mxN g k) (g (k : Int))
def mx (g : Int → Int) (n : Int) : Int := mxN g n.toNat
theorem mx_0 (g : Int → Int) : mx g 0 = 0 := rfl
theorem mx_s {g : Int → Int} {k : Int} (h : 0 ≤ k) : mx g (k + 1) = max (mx g k) (g k) := by
  unfold mx
  rw [show (k + 1).toNat = k.toNat + 1 by omega]
  show max (mxN g k.toNat) (g (k.toNat : Int)) = _
  rw [Int.toNat_of_nonneg h]
theorem mx_rng {g : Int → Int} {c : Int} (hc : 0 ≤ c) {n : Int} (h : ∀ j, 0 ≤ j → j < n → g j ≤ c) : 0 ≤ mx g n ∧ mx g n ≤ c := by
  have key : ∀ k : Nat, (k : Int) ≤ n → 0 ≤ mx g k ∧ mx g k ≤ c := by
    intro k
    induction k with
    | zero => intro _; exact ⟨Int.le_refl _, hc⟩
    | succ k ih =>
      intro hk
      rw [Int.natCast_succ, mx_s (by omega)]
      have := ih (by omega)
      have := h k (by omega) (by omega)
      omega
  by_cases e : 0 ≤ n
  · have := key n.toNat (by omega)
    rw [Int.toNat_of_nonneg e] at this
    exact this
  · unfold mx
    rw [show n.toNat = 0 by omega]
    exact ⟨Int.le_refl _, hc⟩
theorem sm_w {i : Int} (h : 0 ≤ i) (f : Int → Int) {v : Int} (e : f i = v) : sm (i + 1) f = sm i f + v := by rw [sm_s h, e]
section PS
variable {M : px_mem} {Q : Option pv → px_mem → Prop}
set_option maxHeartbeats 600000 in
set_option maxRecDepth 100000 in
theorem lp_onesBy {w : Int} (h : Q (some (0, sm 40 (fun c => b1 (0 ≤ M 62 c ∧ M 61 c = w)))) M) (k : Int) (hk_k : k ≤ 40) : 0 ≤ k → px_WP 29 0 0 (px_Q0 LAY Q) 4 [(2, 56), (0, w), (0, sm k (fun c => b1 (0 ≤ M 62 c ∧ M 61 c = w))), (0, k)] [] LAY M 0 0 := by
  refine up_ind (P := fun k => 0 ≤ k → px_WP 29 0 0 (px_Q0 LAY Q) 4 [(2, 56), (0, w), (0, sm k (fun c => b1 (0 ≤ M 62 c ∧ M 61 c = w))), (0, k)] [] LAY M 0 0) (40) (fun k hk_k ih => ?_) k hk_k
  intro hk0
  have hs := sm_s hk0 (fun c => b1 (0 ≤ M 62 c ∧ M 61 c = w))
  have hr := sm_bnd (c := 1) hk0 (f := fun c => b1 (0 ≤ M 62 c ∧ M 61 c = w)) (fun j a b => b1_rng _)
  generalize sm (k + 1) (fun c => b1 (0 ≤ M 62 c ∧ M 61 c = w)) = s1 at *
  refine px_go_ok (inl := [7]) 60 ?_
  simp only [px_go, px_Q0_at, px_sx_0, px_sx_s, px_cl, px_step, ↓px_ll, px_lg, f4_, ↓px_r1, ↓px_r2, ↓px_r4, ↓px_r5, ↓px_p1, ↓px_p2, ↓px_p3, ↓px_pop, px_k_0, px_k_s, px_k3_0, px_stk_, px_cats, px_ent, px_st1, px_st2, px_mask, ↓px_tsw, ↓px_lsw, ct_, mls_0, mls_1, mls_2, mls_3, mls_4, mls_5, kd_0, kd_1, kd_2, kd_3, ln_0, ln_1, ln_2, ln_3, gf_0, gf_1, gf_2, gf_3, gf_4, gf_7, gf_21, gf_63, dy_0, dy_1, dy_2, dy_3, dy_7, dy_21, px_brT, px_brF, true_and, and_true, and_false, false_and, and_self, true_implies, false_implies, or_true, true_or, or_false, false_or, eq_self, ne_eq, not_false_eq_true, not_true_eq_false, if_true, if_false, List.mem_cons, List.not_mem_nil, List.length_cons, List.length_nil, Nat.reduceEqDiff, Nat.reduceAdd, Nat.reduceSub, Nat.reduceLeDiff, Nat.reduceLT, Int.reduceEq, Int.reduceLT, Int.reduceLE, Int.reduceNeg, Int.reduceAdd, Int.reduceSub, Int.reduceToNat, ↓reduceIte, one_ne_zero_, zero_ne_one_, px_in32L, cd_29, cd_7]
  repeat' (first | (with_reducible apply And.intro) | (with_reducible refine px_br_intro (fun _ => ?_) (fun _ => ?_)))
  all_goals (try (unfold px_in32))
  all_goals grind -mbtc  (splits := 20) [b1_t, b1_f]
set_option maxHeartbeats 600000 in
set_option maxRecDepth 100000 in
theorem sp_onesBy {w : Int} (h : Q (some (0, sm 40 (fun c => b1 (0 ≤ M 62 c ∧ M 61 c = w)))) M) : px_Ok 29 [(2, 56), (0, w)] LAY M Q := by
  refine px_ok_go (inl := [7]) (ls0 := [(2, 56), (0, w), (9, 0), (9, 0)]) 60 (by decide) (Nat.le_of_ble_eq_true rfl) rfl ?_
  simp only [px_go, px_Q0_at, px_sx_0, px_sx_s, px_cl, px_step, ↓px_ll, px_lg, f4_, ↓px_r1, ↓px_r2, ↓px_r4, ↓px_r5, ↓px_p1, ↓px_p2, ↓px_p3, ↓px_pop, px_k_0, px_k_s, px_k3_0, px_stk_, px_cats, px_ent, px_st1, px_st2, px_mask, ↓px_tsw, ↓px_lsw, ct_, mls_0, mls_1, mls_2, mls_3, mls_4, mls_5, kd_0, kd_1, kd_2, kd_3, ln_0, ln_1, ln_2, ln_3, gf_0, gf_1, gf_2, gf_3, gf_4, gf_7, gf_21, gf_63, dy_0, dy_1, dy_2, dy_3, dy_7, dy_21, px_brT, px_brF, true_and, and_true, and_false, false_and, and_self, true_implies, false_implies, or_true, true_or, or_false, false_or, eq_self, ne_eq, not_false_eq_true, not_true_eq_false, if_true, if_false, List.mem_cons, List.not_mem_nil, List.length_cons, List.length_nil, Nat.reduceEqDiff, Nat.reduceAdd, Nat.reduceSub, Nat.reduceLeDiff, Nat.reduceLT, Int.reduceEq, Int.reduceLT, Int.reduceLE, Int.reduceNeg, Int.reduceAdd, Int.reduceSub, Int.reduceToNat, ↓reduceIte, one_ne_zero_, zero_ne_one_, px_in32L, cd_29, cd_7]
  repeat' (first | (with_reducible apply And.intro) | (with_reducible refine px_br_intro (fun _ => ?_) (fun _ => ?_)))
  all_goals (try (first | (unfold px_in32; omega) | omega))
  exact lp_onesBy  h 0 (by decide) (Int.le_refl 0)
set_option maxHeartbeats 600000 in
set_option maxRecDepth 100000 in
theorem lp_onesByBase (h : Q (some (0, sm 40 (fun c => b1 (0 ≤ M 62 c ∧ 0 ≤ M 61 c)))) M) (k : Int) (hk_k : k ≤ 40) : 0 ≤ k → px_WP 30 0 0 (px_Q0 LAY Q) 4 [(2, 56), (0, sm k (fun c => b1 (0 ≤ M 62 c ∧ 0 ≤ M 61 c))), (0, k)] [] LAY M 0 0 := by
  refine up_ind (P := fun k => 0 ≤ k → px_WP 30 0 0 (px_Q0 LAY Q) 4 [(2, 56), (0, sm k (fun c => b1 (0 ≤ M 62 c ∧ 0 ≤ M 61 c))), (0, k)] [] LAY M 0 0) (40) (fun k hk_k ih => ?_) k hk_k
  intro hk0
  have hs := sm_s hk0 (fun c => b1 (0 ≤ M 62 c ∧ 0 ≤ M 61 c))
  have hr := sm_bnd (c := 1) hk0 (f := fun c => b1 (0 ≤ M 62 c ∧ 0 ≤ M 61 c)) (fun j a b => b1_rng _)
  generalize sm (k + 1) (fun c => b1 (0 ≤ M 62 c ∧ 0 ≤ M 61 c)) = s1 at *
  refine px_go_ok (inl := [7]) 60 ?_
  simp only [px_go, px_Q0_at, px_sx_0, px_sx_s, px_cl, px_step, ↓px_ll, px_lg, f4_, ↓px_r1, ↓px_r2, ↓px_r4, ↓px_r5, ↓px_p1, ↓px_p2, ↓px_p3, ↓px_pop, px_k_0, px_k_s, px_k3_0, px_stk_, px_cats, px_ent, px_st1, px_st2, px_mask, ↓px_tsw, ↓px_lsw, ct_, mls_0, mls_1, mls_2, mls_3, mls_4, mls_5, kd_0, kd_1, kd_2, kd_3, ln_0, ln_1, ln_2, ln_3, gf_0, gf_1, gf_2, gf_3, gf_4, gf_7, gf_21, gf_63, dy_0, dy_1, dy_2, dy_3, dy_7, dy_21, px_brT, px_brF, true_and, and_true, and_false, false_and, and_self, true_implies, false_implies, or_true, true_or, or_false, false_or, eq_self, ne_eq, not_false_eq_true, not_true_eq_false, if_true, if_false, List.mem_cons, List.not_mem_nil, List.length_cons, List.length_nil, Nat.reduceEqDiff, Nat.reduceAdd, Nat.reduceSub, Nat.reduceLeDiff, Nat.reduceLT, Int.reduceEq, Int.reduceLT, Int.reduceLE, Int.reduceNeg, Int.reduceAdd, Int.reduceSub, Int.reduceToNat, ↓reduceIte, one_ne_zero_, zero_ne_one_, px_in32L, cd_30, cd_7]
  repeat' (first | (with_reducible apply And.intro) | (with_reducible refine px_br_intro (fun _ => ?_) (fun _ => ?_)))
  all_goals (try (unfold px_in32))
  all_goals grind -mbtc  (splits := 20) [b1_t, b1_f]
set_option maxHeartbeats 600000 in
set_option maxRecDepth 100000 in
theorem sp_onesByBase (h : Q (some (0, sm 40 (fun c => b1 (0 ≤ M 62 c ∧ 0 ≤ M 61 c)))) M) : px_Ok 30 [(2, 56)] LAY M Q := by
  refine px_ok_go (inl := [7]) (ls0 := [(2, 56), (9, 0), (9, 0)]) 60 (by decide) (Nat.le_of_ble_eq_true rfl) rfl ?_
  simp only [px_go, px_Q0_at, px_sx_0, px_sx_s, px_cl, px_step, ↓px_ll, px_lg, f4_, ↓px_r1, ↓px_r2, ↓px_r4, ↓px_r5, ↓px_p1, ↓px_p2, ↓px_p3, ↓px_pop, px_k_0, px_k_s, px_k3_0, px_stk_, px_cats, px_ent, px_st1, px_st2, px_mask, ↓px_tsw, ↓px_lsw, ct_, mls_0, mls_1, mls_2, mls_3, mls_4, mls_5, kd_0, kd_1, kd_2, kd_3, ln_0, ln_1, ln_2, ln_3, gf_0, gf_1, gf_2, gf_3, gf_4, gf_7, gf_21, gf_63, dy_0, dy_1, dy_2, dy_3, dy_7, dy_21, px_brT, px_brF, true_and, and_true, and_false, false_and, and_self, true_implies, false_implies, or_true, true_or, or_false, false_or, eq_self, ne_eq, not_false_eq_true, not_true_eq_false, if_true, if_false, List.mem_cons, List.not_mem_nil, List.length_cons, List.length_nil, Nat.reduceEqDiff, Nat.reduceAdd, Nat.reduceSub, Nat.reduceLeDiff, Nat.reduceLT, Int.reduceEq, Int.reduceLT, Int.reduceLE, Int.reduceNeg, Int.reduceAdd, Int.reduceSub, Int.reduceToNat, ↓reduceIte, one_ne_zero_, zero_ne_one_, px_in32L, cd_30, cd_7]
  repeat' (first | (with_reducible apply And.intro) | (with_reducible refine px_br_intro (fun _ => ?_) (fun _ => ?_)))
  all_goals (try (first | (unfold px_in32; omega) | omega))
  exact lp_onesByBase  h 0 (by decide) (Int.le_refl 0)
set_option maxHeartbeats 600000 in
set_option maxRecDepth 100000 in
theorem lp_howMany (h : Q (some (0, sm 40 (fun c => b1 (0 ≤ M 62 c)))) M) (k : Int) (hk_k : k ≤ 40) : 0 ≤ k → px_WP 31 0 0 (px_Q0 LAY Q) 4 [(2, 56), (0, sm k (fun c => b1 (0 ≤ M 62 c))), (0, k)] [] LAY M 0 0 := by
  refine up_ind (P := fun k => 0 ≤ k → px_WP 31 0 0 (px_Q0 LAY Q) 4 [(2, 56), (0, sm k (fun c => b1 (0 ≤ M 62 c))), (0, k)] [] LAY M 0 0) (40) (fun k hk_k ih => ?_) k hk_k
  intro hk0
  have hs := sm_s hk0 (fun c => b1 (0 ≤ M 62 c))
  have hr := sm_bnd (c := 1) hk0 (f := fun c => b1 (0 ≤ M 62 c)) (fun j a b => b1_rng _)
  generalize sm (k + 1) (fun c => b1 (0 ≤ M 62 c)) = s1 at *
  refine px_go_ok (inl := [7]) 60 ?_
  simp only [px_go, px_Q0_at, px_sx_0, px_sx_s, px_cl, px_step, ↓px_ll, px_lg, f4_, ↓px_r1, ↓px_r2, ↓px_r4, ↓px_r5, ↓px_p1, ↓px_p2, ↓px_p3, ↓px_pop, px_k_0, px_k_s, px_k3_0, px_stk_, px_cats, px_ent, px_st1, px_st2, px_mask, ↓px_tsw, ↓px_lsw, ct_, mls_0, mls_1, mls_2, mls_3, mls_4, mls_5, kd_0, kd_1, kd_2, kd_3, ln_0, ln_1, ln_2, ln_3, gf_0, gf_1, gf_2, gf_3, gf_4, gf_7, gf_21, gf_63, dy_0, dy_1, dy_2, dy_3, dy_7, dy_21, px_brT, px_brF, true_and, and_true, and_false, false_and, and_self, true_implies, false_implies, or_true, true_or, or_false, false_or, eq_self, ne_eq, not_false_eq_true, not_true_eq_false, if_true, if_false, List.mem_cons, List.not_mem_nil, List.length_cons, List.length_nil, Nat.reduceEqDiff, Nat.reduceAdd, Nat.reduceSub, Nat.reduceLeDiff, Nat.reduceLT, Int.reduceEq, Int.reduceLT, Int.reduceLE, Int.reduceNeg, Int.reduceAdd, Int.reduceSub, Int.reduceToNat, ↓reduceIte, one_ne_zero_, zero_ne_one_, px_in32L, cd_31, cd_7]
  repeat' (first | (with_reducible apply And.intro) | (with_reducible refine px_br_intro (fun _ => ?_) (fun _ => ?_)))
  all_goals (try (unfold px_in32))
  all_goals grind -mbtc  (splits := 20) [b1_t, b1_f]
set_option maxHeartbeats 600000 in
set_option maxRecDepth 100000 in
theorem sp_howMany (h : Q (some (0, sm 40 (fun c => b1 (0 ≤ M 62 c)))) M) : px_Ok 31 [(2, 56)] LAY M Q := by
  refine px_ok_go (inl := [7]) (ls0 := [(2, 56), (9, 0), (9, 0)]) 60 (by decide) (Nat.le_of_ble_eq_true rfl) rfl ?_
  simp only [px_go, px_Q0_at, px_sx_0, px_sx_s, px_cl, px_step, ↓px_ll, px_lg, f4_, ↓px_r1, ↓px_r2, ↓px_r4, ↓px_r5, ↓px_p1, ↓px_p2, ↓px_p3, ↓px_pop, px_k_0, px_k_s, px_k3_0, px_stk_, px_cats, px_ent, px_st1, px_st2, px_mask, ↓px_tsw, ↓px_lsw, ct_, mls_0, mls_1, mls_2, mls_3, mls_4, mls_5, kd_0, kd_1, kd_2, kd_3, ln_0, ln_1, ln_2, ln_3, gf_0, gf_1, gf_2, gf_3, gf_4, gf_7, gf_21, gf_63, dy_0, dy_1, dy_2, dy_3, dy_7, dy_21, px_brT, px_brF, true_and, and_true, and_false, false_and, and_self, true_implies, false_implies, or_true, true_or, or_false, false_or, eq_self, ne_eq, not_false_eq_true, not_true_eq_false, if_true, if_false, List.mem_cons, List.not_mem_nil, List.length_cons, List.length_nil, Nat.reduceEqDiff, Nat.reduceAdd, Nat.reduceSub, Nat.reduceLeDiff, Nat.reduceLT, Int.reduceEq, Int.reduceLT, Int.reduceLE, Int.reduceNeg, Int.reduceAdd, Int.reduceSub, Int.reduceToNat, ↓reduceIte, one_ne_zero_, zero_ne_one_, px_in32L, cd_31, cd_7]
  repeat' (first | (with_reducible apply And.intro) | (with_reducible refine px_br_intro (fun _ => ?_) (fun _ => ?_)))
  all_goals (try (first | (unfold px_in32; omega) | omega))
  exact lp_howMany  h 0 (by decide) (Int.le_refl 0)
set_option maxHeartbeats 600000 in
set_option maxRecDepth 100000 in
theorem lp_spoiltOnes (h : Q (some (0, sm 40 (fun c => b1 (0 ≤ M 62 c ∧ M 105 c = 0)))) M) (k : Int) (hk_k : k ≤ 40) : 0 ≤ k → px_WP 32 0 0 (px_Q0 LAY Q) 4 [(2, 56), (0, sm k (fun c => b1 (0 ≤ M 62 c ∧ M 105 c = 0))), (0, k)] [] LAY M 0 0 := by
  refine up_ind (P := fun k => 0 ≤ k → px_WP 32 0 0 (px_Q0 LAY Q) 4 [(2, 56), (0, sm k (fun c => b1 (0 ≤ M 62 c ∧ M 105 c = 0))), (0, k)] [] LAY M 0 0) (40) (fun k hk_k ih => ?_) k hk_k
  intro hk0
  have hs := sm_s hk0 (fun c => b1 (0 ≤ M 62 c ∧ M 105 c = 0))
  have hr := sm_bnd (c := 1) hk0 (f := fun c => b1 (0 ≤ M 62 c ∧ M 105 c = 0)) (fun j a b => b1_rng _)
  generalize sm (k + 1) (fun c => b1 (0 ≤ M 62 c ∧ M 105 c = 0)) = s1 at *
  refine px_go_ok (inl := [7]) 60 ?_
  simp only [px_go, px_Q0_at, px_sx_0, px_sx_s, px_cl, px_step, ↓px_ll, px_lg, f4_, ↓px_r1, ↓px_r2, ↓px_r4, ↓px_r5, ↓px_p1, ↓px_p2, ↓px_p3, ↓px_pop, px_k_0, px_k_s, px_k3_0, px_stk_, px_cats, px_ent, px_st1, px_st2, px_mask, ↓px_tsw, ↓px_lsw, ct_, mls_0, mls_1, mls_2, mls_3, mls_4, mls_5, kd_0, kd_1, kd_2, kd_3, ln_0, ln_1, ln_2, ln_3, gf_0, gf_1, gf_2, gf_3, gf_4, gf_7, gf_21, gf_63, dy_0, dy_1, dy_2, dy_3, dy_7, dy_21, px_brT, px_brF, true_and, and_true, and_false, false_and, and_self, true_implies, false_implies, or_true, true_or, or_false, false_or, eq_self, ne_eq, not_false_eq_true, not_true_eq_false, if_true, if_false, List.mem_cons, List.not_mem_nil, List.length_cons, List.length_nil, Nat.reduceEqDiff, Nat.reduceAdd, Nat.reduceSub, Nat.reduceLeDiff, Nat.reduceLT, Int.reduceEq, Int.reduceLT, Int.reduceLE, Int.reduceNeg, Int.reduceAdd, Int.reduceSub, Int.reduceToNat, ↓reduceIte, one_ne_zero_, zero_ne_one_, px_in32L, cd_32, cd_7]
  repeat' (first | (with_reducible apply And.intro) | (with_reducible refine px_br_intro (fun _ => ?_) (fun _ => ?_)))
  all_goals (try (unfold px_in32))
  all_goals grind -mbtc  (splits := 20) [b1_t, b1_f]
set_option maxHeartbeats 600000 in
set_option maxRecDepth 100000 in
theorem sp_spoiltOnes (h : Q (some (0, sm 40 (fun c => b1 (0 ≤ M 62 c ∧ M 105 c = 0)))) M) : px_Ok 32 [(2, 56)] LAY M Q := by
  refine px_ok_go (inl := [7]) (ls0 := [(2, 56), (9, 0), (9, 0)]) 60 (by decide) (Nat.le_of_ble_eq_true rfl) rfl ?_
  simp only [px_go, px_Q0_at, px_sx_0, px_sx_s, px_cl, px_step, ↓px_ll, px_lg, f4_, ↓px_r1, ↓px_r2, ↓px_r4, ↓px_r5, ↓px_p1, ↓px_p2, ↓px_p3, ↓px_pop, px_k_0, px_k_s, px_k3_0, px_stk_, px_cats, px_ent, px_st1, px_st2, px_mask, ↓px_tsw, ↓px_lsw, ct_, mls_0, mls_1, mls_2, mls_3, mls_4, mls_5, kd_0, kd_1, kd_2, kd_3, ln_0, ln_1, ln_2, ln_3, gf_0, gf_1, gf_2, gf_3, gf_4, gf_7, gf_21, gf_63, dy_0, dy_1, dy_2, dy_3, dy_7, dy_21, px_brT, px_brF, true_and, and_true, and_false, false_and, and_self, true_implies, false_implies, or_true, true_or, or_false, false_or, eq_self, ne_eq, not_false_eq_true, not_true_eq_false, if_true, if_false, List.mem_cons, List.not_mem_nil, List.length_cons, List.length_nil, Nat.reduceEqDiff, Nat.reduceAdd, Nat.reduceSub, Nat.reduceLeDiff, Nat.reduceLT, Int.reduceEq, Int.reduceLT, Int.reduceLE, Int.reduceNeg, Int.reduceAdd, Int.reduceSub, Int.reduceToNat, ↓reduceIte, one_ne_zero_, zero_ne_one_, px_in32L, cd_32, cd_7]
  repeat' (first | (with_reducible apply And.intro) | (with_reducible refine px_br_intro (fun _ => ?_) (fun _ => ?_)))
  all_goals (try (first | (unfold px_in32; omega) | omega))
  exact lp_spoiltOnes  h 0 (by decide) (Int.le_refl 0)
set_option maxHeartbeats 600000 in
set_option maxRecDepth 100000 in
theorem lp_keptInAll (hk : ∀ c, 0 ≤ c → c < 40 → 0 ≤ M 62 c → 0 ≤ M 60 c ∧ M 60 c ≤ 40) (h : Q (some (0, sm 40 (fun c => if 0 ≤ M 62 c then M 60 c else 0))) M) (k : Int) (hk_k : k ≤ 40) : 0 ≤ k → px_WP 33 0 0 (px_Q0 LAY Q) 4 [(2, 56), (0, sm k (fun c => if 0 ≤ M 62 c then M 60 c else 0)), (0, k)] [] LAY M 0 0 := by
  refine up_ind (P := fun k => 0 ≤ k → px_WP 33 0 0 (px_Q0 LAY Q) 4 [(2, 56), (0, sm k (fun c => if 0 ≤ M 62 c then M 60 c else 0)), (0, k)] [] LAY M 0 0) (40) (fun k hk_k ih => ?_) k hk_k
  intro hk0
  have hs := sm_s hk0 (fun c => if 0 ≤ M 62 c then M 60 c else 0)
  have hr := sm_bnd (c := 40) hk0 (f := fun c => if 0 ≤ M 62 c then M 60 c else 0) (fun j a b => by have := hk j a (by omega); split <;> omega)
  generalize sm (k + 1) (fun c => if 0 ≤ M 62 c then M 60 c else 0) = s1 at *
  refine px_go_ok (inl := [7]) 60 ?_
  simp only [px_go, px_Q0_at, px_sx_0, px_sx_s, px_cl, px_step, ↓px_ll, px_lg, f4_, ↓px_r1, ↓px_r2, ↓px_r4, ↓px_r5, ↓px_p1, ↓px_p2, ↓px_p3, ↓px_pop, px_k_0, px_k_s, px_k3_0, px_stk_, px_cats, px_ent, px_st1, px_st2, px_mask, ↓px_tsw, ↓px_lsw, ct_, mls_0, mls_1, mls_2, mls_3, mls_4, mls_5, kd_0, kd_1, kd_2, kd_3, ln_0, ln_1, ln_2, ln_3, gf_0, gf_1, gf_2, gf_3, gf_4, gf_7, gf_21, gf_63, dy_0, dy_1, dy_2, dy_3, dy_7, dy_21, px_brT, px_brF, true_and, and_true, and_false, false_and, and_self, true_implies, false_implies, or_true, true_or, or_false, false_or, eq_self, ne_eq, not_false_eq_true, not_true_eq_false, if_true, if_false, List.mem_cons, List.not_mem_nil, List.length_cons, List.length_nil, Nat.reduceEqDiff, Nat.reduceAdd, Nat.reduceSub, Nat.reduceLeDiff, Nat.reduceLT, Int.reduceEq, Int.reduceLT, Int.reduceLE, Int.reduceNeg, Int.reduceAdd, Int.reduceSub, Int.reduceToNat, ↓reduceIte, one_ne_zero_, zero_ne_one_, px_in32L, cd_33, cd_7]
  repeat' (first | (with_reducible apply And.intro) | (with_reducible refine px_br_intro (fun _ => ?_) (fun _ => ?_)))
  all_goals (try (unfold px_in32))
  all_goals grind -mbtc  (splits := 20) [b1_t, b1_f]
set_option maxHeartbeats 600000 in
set_option maxRecDepth 100000 in
theorem sp_keptInAll (hk : ∀ c, 0 ≤ c → c < 40 → 0 ≤ M 62 c → 0 ≤ M 60 c ∧ M 60 c ≤ 40) (h : Q (some (0, sm 40 (fun c => if 0 ≤ M 62 c then M 60 c else 0))) M) : px_Ok 33 [(2, 56)] LAY M Q := by
  refine px_ok_go (inl := [7]) (ls0 := [(2, 56), (9, 0), (9, 0)]) 60 (by decide) (Nat.le_of_ble_eq_true rfl) rfl ?_
  simp only [px_go, px_Q0_at, px_sx_0, px_sx_s, px_cl, px_step, ↓px_ll, px_lg, f4_, ↓px_r1, ↓px_r2, ↓px_r4, ↓px_r5, ↓px_p1, ↓px_p2, ↓px_p3, ↓px_pop, px_k_0, px_k_s, px_k3_0, px_stk_, px_cats, px_ent, px_st1, px_st2, px_mask, ↓px_tsw, ↓px_lsw, ct_, mls_0, mls_1, mls_2, mls_3, mls_4, mls_5, kd_0, kd_1, kd_2, kd_3, ln_0, ln_1, ln_2, ln_3, gf_0, gf_1, gf_2, gf_3, gf_4, gf_7, gf_21, gf_63, dy_0, dy_1, dy_2, dy_3, dy_7, dy_21, px_brT, px_brF, true_and, and_true, and_false, false_and, and_self, true_implies, false_implies, or_true, true_or, or_false, false_or, eq_self, ne_eq, not_false_eq_true, not_true_eq_false, if_true, if_false, List.mem_cons, List.not_mem_nil, List.length_cons, List.length_nil, Nat.reduceEqDiff, Nat.reduceAdd, Nat.reduceSub, Nat.reduceLeDiff, Nat.reduceLT, Int.reduceEq, Int.reduceLT, Int.reduceLE, Int.reduceNeg, Int.reduceAdd, Int.reduceSub, Int.reduceToNat, ↓reduceIte, one_ne_zero_, zero_ne_one_, px_in32L, cd_33, cd_7]
  repeat' (first | (with_reducible apply And.intro) | (with_reducible refine px_br_intro (fun _ => ?_) (fun _ => ?_)))
  all_goals (try (first | (unfold px_in32; omega) | omega))
  exact lp_keptInAll hk h 0 (by decide) (Int.le_refl 0)
set_option maxHeartbeats 600000 in
set_option maxRecDepth 100000 in
theorem lp_deep (hd : ∀ c, 0 ≤ c → c < 40 → M 62 c ≤ 3) (h : Q (some (0, mx (M 62) 40)) M) (k : Int) (hk_k : k ≤ 40) : 0 ≤ k → px_WP 34 0 0 (px_Q0 LAY Q) 4 [(2, 56), (0, mx (M 62) k), (0, k)] [] LAY M 0 0 := by
  refine up_ind (P := fun k => 0 ≤ k → px_WP 34 0 0 (px_Q0 LAY Q) 4 [(2, 56), (0, mx (M 62) k), (0, k)] [] LAY M 0 0) (40) (fun k hk_k ih => ?_) k hk_k
  intro hk0
  have hs := mx_s (g := M 62) hk0
  have hr := mx_rng (g := M 62) (c := 3) (by decide) (n := k) (fun j a b => hd j a (by omega))
  refine px_go_ok (inl := []) 60 ?_
  simp only [px_go, px_Q0_at, px_sx_0, px_sx_s, px_cl, px_step, ↓px_ll, px_lg, f4_, ↓px_r1, ↓px_r2, ↓px_r4, ↓px_r5, ↓px_p1, ↓px_p2, ↓px_p3, ↓px_pop, px_k_0, px_k_s, px_k3_0, px_stk_, px_cats, px_ent, px_st1, px_st2, px_mask, ↓px_tsw, ↓px_lsw, ct_, mls_0, mls_1, mls_2, mls_3, mls_4, mls_5, kd_0, kd_1, kd_2, kd_3, ln_0, ln_1, ln_2, ln_3, gf_0, gf_1, gf_2, gf_3, gf_4, gf_7, gf_21, gf_63, dy_0, dy_1, dy_2, dy_3, dy_7, dy_21, px_brT, px_brF, true_and, and_true, and_false, false_and, and_self, true_implies, false_implies, or_true, true_or, or_false, false_or, eq_self, ne_eq, not_false_eq_true, not_true_eq_false, if_true, if_false, List.mem_cons, List.not_mem_nil, List.length_cons, List.length_nil, Nat.reduceEqDiff, Nat.reduceAdd, Nat.reduceSub, Nat.reduceLeDiff, Nat.reduceLT, Int.reduceEq, Int.reduceLT, Int.reduceLE, Int.reduceNeg, Int.reduceAdd, Int.reduceSub, Int.reduceToNat, ↓reduceIte, one_ne_zero_, zero_ne_one_, px_in32L, cd_34]
  repeat' (first | (with_reducible apply And.intro) | (with_reducible refine px_br_intro (fun _ => ?_) (fun _ => ?_)))
  all_goals (try (unfold px_in32))
  all_goals grind -mbtc  (splits := 20) []
set_option maxHeartbeats 600000 in
set_option maxRecDepth 100000 in
theorem sp_deep (hd : ∀ c, 0 ≤ c → c < 40 → M 62 c ≤ 3) (h : Q (some (0, mx (M 62) 40)) M) : px_Ok 34 [(2, 56)] LAY M Q := by
  refine px_ok_go (inl := []) (ls0 := [(2, 56), (9, 0), (9, 0)]) 60 (by decide) (Nat.le_of_ble_eq_true rfl) rfl ?_
  simp only [px_go, px_Q0_at, px_sx_0, px_sx_s, px_cl, px_step, ↓px_ll, px_lg, f4_, ↓px_r1, ↓px_r2, ↓px_r4, ↓px_r5, ↓px_p1, ↓px_p2, ↓px_p3, ↓px_pop, px_k_0, px_k_s, px_k3_0, px_stk_, px_cats, px_ent, px_st1, px_st2, px_mask, ↓px_tsw, ↓px_lsw, ct_, mls_0, mls_1, mls_2, mls_3, mls_4, mls_5, kd_0, kd_1, kd_2, kd_3, ln_0, ln_1, ln_2, ln_3, gf_0, gf_1, gf_2, gf_3, gf_4, gf_7, gf_21, gf_63, dy_0, dy_1, dy_2, dy_3, dy_7, dy_21, px_brT, px_brF, true_and, and_true, and_false, false_and, and_self, true_implies, false_implies, or_true, true_or, or_false, false_or, eq_self, ne_eq, not_false_eq_true, not_true_eq_false, if_true, if_false, List.mem_cons, List.not_mem_nil, List.length_cons, List.length_nil, Nat.reduceEqDiff, Nat.reduceAdd, Nat.reduceSub, Nat.reduceLeDiff, Nat.reduceLT, Int.reduceEq, Int.reduceLT, Int.reduceLE, Int.reduceNeg, Int.reduceAdd, Int.reduceSub, Int.reduceToNat, ↓reduceIte, one_ne_zero_, zero_ne_one_, px_in32L, cd_34]
  repeat' (first | (with_reducible apply And.intro) | (with_reducible refine px_br_intro (fun _ => ?_) (fun _ => ?_)))
  all_goals (try (first | (unfold px_in32; omega) | omega))
  exact lp_deep hd h 0 (by decide) (Int.le_refl 0)
set_option maxHeartbeats 600000 in
set_option maxRecDepth 100000 in
theorem lp_leastFree (h : Q (some (0, fnd 40 (fun c => M 62 c < 0))) M) (k : Int) (hk_k : k ≤ 40) : 0 ≤ k → (∀ j, 0 ≤ j → j < k → ¬ M 62 j < 0) → px_WP 19 0 0 (px_Q0 LAY Q) 2 [(2, 56), (0, k)] [] LAY M 0 0 := by
  refine up_ind (P := fun k => 0 ≤ k → (∀ j, 0 ≤ j → j < k → ¬ M 62 j < 0) → px_WP 19 0 0 (px_Q0 LAY Q) 2 [(2, 56), (0, k)] [] LAY M 0 0) (40) (fun k hk_k ih => ?_) k hk_k
  intros
  refine px_go_ok (inl := []) 60 ?_
  simp only [px_go, px_Q0_at, px_sx_0, px_sx_s, px_cl, px_step, ↓px_ll, px_lg, f4_, ↓px_r1, ↓px_r2, ↓px_r4, ↓px_r5, ↓px_p1, ↓px_p2, ↓px_p3, ↓px_pop, px_k_0, px_k_s, px_k3_0, px_stk_, px_cats, px_ent, px_st1, px_st2, px_mask, ↓px_tsw, ↓px_lsw, ct_, mls_0, mls_1, mls_2, mls_3, mls_4, mls_5, kd_0, kd_1, kd_2, kd_3, ln_0, ln_1, ln_2, ln_3, gf_0, gf_1, gf_2, gf_3, gf_4, gf_7, gf_21, gf_63, dy_0, dy_1, dy_2, dy_3, dy_7, dy_21, px_brT, px_brF, true_and, and_true, and_false, false_and, and_self, true_implies, false_implies, or_true, true_or, or_false, false_or, eq_self, ne_eq, not_false_eq_true, not_true_eq_false, if_true, if_false, List.mem_cons, List.not_mem_nil, List.length_cons, List.length_nil, Nat.reduceEqDiff, Nat.reduceAdd, Nat.reduceSub, Nat.reduceLeDiff, Nat.reduceLT, Int.reduceEq, Int.reduceLT, Int.reduceLE, Int.reduceNeg, Int.reduceAdd, Int.reduceSub, Int.reduceToNat, ↓reduceIte, one_ne_zero_, zero_ne_one_, px_in32L, cd_19]
  repeat' (first | (with_reducible apply And.intro) | (with_reducible refine px_br_intro (fun _ => ?_) (fun _ => ?_)))
  all_goals (try (unfold px_in32))
  all_goals grind -mbtc  (splits := 20) [fnd_hit, fnd_miss]
set_option maxHeartbeats 600000 in
set_option maxRecDepth 100000 in
theorem sp_leastFree (h : Q (some (0, fnd 40 (fun c => M 62 c < 0))) M) : px_Ok 19 [(2, 56)] LAY M Q := by
  refine px_ok_go (inl := []) (ls0 := [(2, 56), (9, 0)]) 60 (by decide) (Nat.le_of_ble_eq_true rfl) rfl ?_
  simp only [px_go, px_Q0_at, px_sx_0, px_sx_s, px_cl, px_step, ↓px_ll, px_lg, f4_, ↓px_r1, ↓px_r2, ↓px_r4, ↓px_r5, ↓px_p1, ↓px_p2, ↓px_p3, ↓px_pop, px_k_0, px_k_s, px_k3_0, px_stk_, px_cats, px_ent, px_st1, px_st2, px_mask, ↓px_tsw, ↓px_lsw, ct_, mls_0, mls_1, mls_2, mls_3, mls_4, mls_5, kd_0, kd_1, kd_2, kd_3, ln_0, ln_1, ln_2, ln_3, gf_0, gf_1, gf_2, gf_3, gf_4, gf_7, gf_21, gf_63, dy_0, dy_1, dy_2, dy_3, dy_7, dy_21, px_brT, px_brF, true_and, and_true, and_false, false_and, and_self, true_implies, false_implies, or_true, true_or, or_false, false_or, eq_self, ne_eq, not_false_eq_true, not_true_eq_false, if_true, if_false, List.mem_cons, List.not_mem_nil, List.length_cons, List.length_nil, Nat.reduceEqDiff, Nat.reduceAdd, Nat.reduceSub, Nat.reduceLeDiff, Nat.reduceLT, Int.reduceEq, Int.reduceLT, Int.reduceLE, Int.reduceNeg, Int.reduceAdd, Int.reduceSub, Int.reduceToNat, ↓reduceIte, one_ne_zero_, zero_ne_one_, px_in32L, cd_19]
  repeat' (first | (with_reducible apply And.intro) | (with_reducible refine px_br_intro (fun _ => ?_) (fun _ => ?_)))
  all_goals (try (first | (unfold px_in32; omega) | omega))
  exact lp_leastFree h 0 (by decide) (Int.le_refl 0) (by omega)
/-- what content() tells -/
noncomputable def fact (M : px_mem) (c w : Int) : Int :=
  if w = 0 then M 57 c else if w = 1 then M 58 c else if w = 2 then M 59 c else if w = 3 then M 60 c else if w = 4 then M 61 c else if w = 5 then M 62 c else if w = 7 then sm 40 (fun x => b1 (0 ≤ M 62 x ∧ M 61 x = c)) else if w = 8 then b1 (M 104 c ≠ 0) else if w = 9 then b1 (M 105 c ≠ 0) else -1
set_option maxHeartbeats 600000 in
set_option maxRecDepth 100000 in
theorem sp_factOf {c w : Int} (hc : 0 ≤ c ∧ c < 40) (h : Q (some (0, fact M c w)) M) : px_Ok 28 [(2, 56), (0, c), (0, w)] LAY M Q := by
  refine px_ok_go (inl := []) (ls0 := [(2, 56), (0, c), (0, w)]) 60 (by decide) (Nat.le_of_ble_eq_true rfl) rfl ?_
  simp only [px_go, px_Q0_at, px_sx_0, px_sx_s, px_cl, px_step, ↓px_ll, px_lg, f4_, ↓px_r1, ↓px_r2, ↓px_r4, ↓px_r5, ↓px_p1, ↓px_p2, ↓px_p3, ↓px_pop, px_k_0, px_k_s, px_k3_0, px_stk_, px_cats, px_ent, px_st1, px_st2, px_mask, ↓px_tsw, ↓px_lsw, ct_, mls_0, mls_1, mls_2, mls_3, mls_4, mls_5, kd_0, kd_1, kd_2, kd_3, ln_0, ln_1, ln_2, ln_3, gf_0, gf_1, gf_2, gf_3, gf_4, gf_7, gf_21, gf_63, dy_0, dy_1, dy_2, dy_3, dy_7, dy_21, px_brT, px_brF, true_and, and_true, and_false, false_and, and_self, true_implies, false_implies, or_true, true_or, or_false, false_or, eq_self, ne_eq, not_false_eq_true, not_true_eq_false, if_true, if_false, List.mem_cons, List.not_mem_nil, List.length_cons, List.length_nil, Nat.reduceEqDiff, Nat.reduceAdd, Nat.reduceSub, Nat.reduceLeDiff, Nat.reduceLT, Int.reduceEq, Int.reduceLT, Int.reduceLE, Int.reduceNeg, Int.reduceAdd, Int.reduceSub, Int.reduceToNat, ↓reduceIte, one_ne_zero_, zero_ne_one_, px_in32L, cd_28]
  repeat' (first | (with_reducible apply And.intro) | (with_reducible refine px_br_intro (fun _ => ?_) (fun _ => ?_)))
  all_goals (try (first | (unfold px_in32; omega) | omega))
  all_goals (try intro hw)
  all_goals (try subst hw)
  all_goals (try repeat' (first | (with_reducible apply And.intro) | (with_reducible refine px_br_intro (fun _ => ?_) (fun _ => ?_))))
  all_goals (try omega)
  · exact h
  · exact h
  · exact h
  · exact h
  · exact h
  · exact h
  · exact h
  · refine sp_onesBy ?_
    simp only [px_go, px_Q0_at, px_sx_0, px_sx_s, px_cl, px_step, ↓px_ll, px_lg, f4_, ↓px_r1, ↓px_r2, ↓px_r4, ↓px_r5, ↓px_p1, ↓px_p2, ↓px_p3, ↓px_pop, px_k_0, px_k_s, px_k3_0, px_stk_, px_cats, px_ent, px_st1, px_st2, px_mask, ↓px_tsw, ↓px_lsw, ct_, mls_0, mls_1, mls_2, mls_3, mls_4, mls_5, kd_0, kd_1, kd_2, kd_3, ln_0, ln_1, ln_2, ln_3, gf_0, gf_1, gf_2, gf_3, gf_4, gf_7, gf_21, gf_63, dy_0, dy_1, dy_2, dy_3, dy_7, dy_21, px_brT, px_brF, true_and, and_true, and_false, false_and, and_self, true_implies, false_implies, or_true, true_or, or_false, false_or, eq_self, ne_eq, not_false_eq_true, not_true_eq_false, if_true, if_false, List.mem_cons, List.not_mem_nil, List.length_cons, List.length_nil, Nat.reduceEqDiff, Nat.reduceAdd, Nat.reduceSub, Nat.reduceLeDiff, Nat.reduceLT, Int.reduceEq, Int.reduceLT, Int.reduceLE, Int.reduceNeg, Int.reduceAdd, Int.reduceSub, Int.reduceToNat, ↓reduceIte, one_ne_zero_, zero_ne_one_, px_in32L, cd_28]
    exact h
  · rename_i e
    have h : Q (some (0, b1 (M 104 c ≠ 0))) M := h
    rw [b1_f (by simp [e])] at h; exact h
  · rename_i e
    have h : Q (some (0, b1 (M 104 c ≠ 0))) M := h
    rw [b1_t e] at h; exact h
  · rename_i e
    have h : Q (some (0, b1 (M 105 c ≠ 0))) M := h
    rw [b1_f (by simp [e])] at h; exact h
  · rename_i e
    have h : Q (some (0, b1 (M 105 c ≠ 0))) M := h
    rw [b1_t e] at h; exact h
  · unfold fact at h
    rw [if_neg (by omega), if_neg (by omega), if_neg (by omega), if_neg (by omega), if_neg (by omega), if_neg (by omega), if_neg (by omega), if_neg (by omega), if_neg (by omega)] at h
    exact h
end PS
