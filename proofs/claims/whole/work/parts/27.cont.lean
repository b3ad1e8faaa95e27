/-! EditionVault.Contents: marks, lists, finding -/
set_option maxRecDepth 100000 in
/-- X1_markOf -/
theorem cd_6 : px_at 6 0 = some (2, [], .bipush 7, []) ∧ px_at 6 2 = some (3, [], .istore_n 2, []) ∧ px_at 6 3 = some (4, [], .iconst 0, []) ∧ px_at 6 4 = some (5, [], .istore_n 3, []) ∧ px_at 6 5 = some (6, [1, 1, 1, 1], .iload_n 3, []) ∧ px_at 6 6 = some (7, [], .iload_n 1, []) ∧ px_at 6 7 = some (10, [], .if_icmp .ge 29, [36]) ∧ px_at 6 10 = some (11, [], .iload_n 3, []) ∧ px_at 6 11 = some (12, [], .aload_n 0, []) ∧ px_at 6 12 = some (13, [], .arraylength, []) ∧ px_at 6 13 = some (16, [], .if_icmp .ge 23, [36]) ∧ px_at 6 16 = some (18, [], .bipush 31, []) ∧ px_at 6 18 = some (19, [], .iload_n 2, []) ∧ px_at 6 19 = some (20, [], .imul, []) ∧ px_at 6 20 = some (21, [], .aload_n 0, []) ∧ px_at 6 21 = some (22, [], .iload_n 3, []) ∧ px_at 6 22 = some (23, [], .iaload, []) ∧ px_at 6 23 = some (24, [], .iadd, []) ∧ px_at 6 24 = some (25, [], .iconst 1, []) ∧ px_at 6 25 = some (26, [], .iadd, []) ∧ px_at 6 26 = some (28, [], .ldc 59, [65521, 0]) ∧ px_at 6 28 = some (29, [], .irem, []) ∧ px_at 6 29 = some (30, [], .istore_n 2, []) ∧ px_at 6 30 = some (33, [], .iinc 3 1, []) ∧ px_at 6 33 = some (36, [], .goto (-28), [5]) ∧ px_at 6 36 = some (37, [], .iload_n 2, []) ∧ px_at 6 37 = some (38, [], .ireturn, [0]) := ⟨rfl, rfl, rfl, rfl, rfl, rfl, rfl, rfl, rfl, rfl, rfl, rfl, rfl, rfl, rfl, rfl, rfl, rfl, rfl, rfl, rfl, rfl, rfl, rfl, rfl, rfl, rfl⟩
set_option maxRecDepth 100000 in
/-- X1_isThere -/
theorem cd_7 : px_at 7 0 = some (1, [], .iload_n 1, []) ∧ px_at 7 1 = some (4, [], .ifCond .lt 22, [23]) ∧ px_at 7 4 = some (5, [], .iload_n 1, []) ∧ px_at 7 5 = some (7, [], .bipush 40, []) ∧ px_at 7 7 = some (10, [], .if_icmp .ge 16, [23]) ∧ px_at 7 10 = some (11, [], .aload_n 0, []) ∧ px_at 7 11 = some (14, [], .getfield 27, [1, 5, 2, 1, 76]) ∧ px_at 7 14 = some (15, [], .iload_n 1, []) ∧ px_at 7 15 = some (16, [], .iaload, []) ∧ px_at 7 16 = some (19, [], .ifCond .lt 7, [23]) ∧ px_at 7 19 = some (20, [], .iconst 1, []) ∧ px_at 7 20 = some (23, [], .goto 4, [24]) ∧ px_at 7 23 = some (24, [], .iconst 0, []) ∧ px_at 7 24 = some (25, [], .ireturn, [4]) := ⟨rfl, rfl, rfl, rfl, rfl, rfl, rfl, rfl, rfl, rfl, rfl, rfl, rfl, rfl⟩
set_option maxRecDepth 100000 in
/-- X1_areWhole -/
theorem cd_8 : px_at 8 0 = some (1, [], .iconst 0, []) ∧ px_at 8 1 = some (2, [], .istore_n 3, []) ∧ px_at 8 2 = some (3, [1, 1, 1, 1], .iload_n 3, []) ∧ px_at 8 3 = some (4, [], .iload_n 2, []) ∧ px_at 8 4 = some (7, [], .if_icmp .ge 22, [26]) ∧ px_at 8 7 = some (8, [], .aload_n 0, []) ∧ px_at 8 8 = some (11, [], .getfield 39, [1, 8, 2, 1, 83]) ∧ px_at 8 11 = some (12, [], .aload_n 1, []) ∧ px_at 8 12 = some (13, [], .iload_n 3, []) ∧ px_at 8 13 = some (14, [], .iaload, []) ∧ px_at 8 14 = some (15, [], .baload, []) ∧ px_at 8 15 = some (18, [], .ifCond .ne 5, [20]) ∧ px_at 8 18 = some (19, [], .iconst 0, []) ∧ px_at 8 19 = some (20, [], .ireturn, [4]) ∧ px_at 8 20 = some (23, [], .iinc 3 1, []) ∧ px_at 8 23 = some (26, [], .goto (-21), [2]) ∧ px_at 8 26 = some (27, [], .iconst 1, []) ∧ px_at 8 27 = some (28, [], .ireturn, [4]) := ⟨rfl, rfl, rfl, rfl, rfl, rfl, rfl, rfl, rfl, rfl, rfl, rfl, rfl, rfl, rfl, rfl, rfl, rfl⟩
set_option maxRecDepth 100000 in
/-- X1_lengthOfAll -/
theorem cd_9 : px_at 9 0 = some (1, [], .iconst 0, []) ∧ px_at 9 1 = some (2, [], .istore_n 3, []) ∧ px_at 9 2 = some (3, [], .iconst 0, []) ∧ px_at 9 3 = some (5, [], .istore 4, []) ∧ px_at 9 5 = some (7, [1, 1, 1, 1, 1], .iload 4, []) ∧ px_at 9 7 = some (8, [], .iload_n 2, []) ∧ px_at 9 8 = some (11, [], .if_icmp .ge 21, [29]) ∧ px_at 9 11 = some (12, [], .iload_n 3, []) ∧ px_at 9 12 = some (13, [], .aload_n 0, []) ∧ px_at 9 13 = some (16, [], .getfield 9, [1, 0, 2, 1, 66]) ∧ px_at 9 16 = some (17, [], .aload_n 1, []) ∧ px_at 9 17 = some (19, [], .iload 4, []) ∧ px_at 9 19 = some (20, [], .iaload, []) ∧ px_at 9 20 = some (21, [], .iaload, []) ∧ px_at 9 21 = some (22, [], .iadd, []) ∧ px_at 9 22 = some (23, [], .istore_n 3, []) ∧ px_at 9 23 = some (26, [], .iinc 4 1, []) ∧ px_at 9 26 = some (29, [], .goto (-21), [5]) ∧ px_at 9 29 = some (30, [], .iload_n 3, []) ∧ px_at 9 30 = some (31, [], .ireturn, [0]) := ⟨rfl, rfl, rfl, rfl, rfl, rfl, rfl, rfl, rfl, rfl, rfl, rfl, rfl, rfl, rfl, rfl, rfl, rfl, rfl, rfl⟩
set_option maxRecDepth 100000 in
/-- X1_hasBytes -/
theorem cd_10 : px_at 10 0 = some (1, [], .aload_n 0, []) ∧ px_at 10 1 = some (4, [], .getfield 9, [1, 0, 2, 1, 66]) ∧ px_at 10 4 = some (5, [], .iload_n 1, []) ∧ px_at 10 5 = some (6, [], .iaload, []) ∧ px_at 10 6 = some (7, [], .iload_n 3, []) ∧ px_at 10 7 = some (10, [], .if_icmp .eq 5, [12]) ∧ px_at 10 10 = some (11, [], .iconst 0, []) ∧ px_at 10 11 = some (12, [], .ireturn, [4]) ∧ px_at 10 12 = some (13, [], .iconst 0, []) ∧ px_at 10 13 = some (15, [], .istore 4, []) ∧ px_at 10 15 = some (17, [1, 1, 1, 1, 1], .iload 4, []) ∧ px_at 10 17 = some (18, [], .iload_n 3, []) ∧ px_at 10 18 = some (21, [], .if_icmp .ge 27, [45]) ∧ px_at 10 21 = some (22, [], .aload_n 0, []) ∧ px_at 10 22 = some (25, [], .getfield 32, [1, 6, 2, 1, 78]) ∧ px_at 10 25 = some (26, [], .iload_n 1, []) ∧ px_at 10 26 = some (27, [], .aaload, []) ∧ px_at 10 27 = some (29, [], .iload 4, []) ∧ px_at 10 29 = some (30, [], .iaload, []) ∧ px_at 10 30 = some (31, [], .aload_n 2, []) ∧ px_at 10 31 = some (33, [], .iload 4, []) ∧ px_at 10 33 = some (34, [], .iaload, []) ∧ px_at 10 34 = some (37, [], .if_icmp .eq 5, [39]) ∧ px_at 10 37 = some (38, [], .iconst 0, []) ∧ px_at 10 38 = some (39, [], .ireturn, [4]) ∧ px_at 10 39 = some (42, [], .iinc 4 1, []) ∧ px_at 10 42 = some (45, [], .goto (-27), [15]) ∧ px_at 10 45 = some (46, [], .iconst 1, []) ∧ px_at 10 46 = some (47, [], .ireturn, [4]) := ⟨rfl, rfl, rfl, rfl, rfl, rfl, rfl, rfl, rfl, rfl, rfl, rfl, rfl, rfl, rfl, rfl, rfl, rfl, rfl, rfl, rfl, rfl, rfl, rfl, rfl, rfl, rfl, rfl, rfl⟩
set_option maxRecDepth 100000 in
/-- X1_wholeWith -/
theorem cd_11 : px_at 11 0 = some (1, [], .iconst 0, []) ∧ px_at 11 1 = some (2, [], .istore_n 3, []) ∧ px_at 11 2 = some (3, [1, 1, 1, 1], .iload_n 3, []) ∧ px_at 11 3 = some (5, [], .bipush 40, []) ∧ px_at 11 5 = some (8, [], .if_icmp .ge 38, [43]) ∧ px_at 11 8 = some (9, [], .aload_n 0, []) ∧ px_at 11 9 = some (10, [], .iload_n 3, []) ∧ px_at 11 10 = some (13, [], .invokevirtual 60, [7, 1, 1, 67]) ∧ px_at 11 13 = some (16, [], .ifCond .eq 24, [37]) ∧ px_at 11 16 = some (17, [], .aload_n 0, []) ∧ px_at 11 17 = some (20, [], .getfield 39, [1, 8, 2, 1, 83]) ∧ px_at 11 20 = some (21, [], .iload_n 3, []) ∧ px_at 11 21 = some (22, [], .baload, []) ∧ px_at 11 22 = some (25, [], .ifCond .eq 15, [37]) ∧ px_at 11 25 = some (26, [], .aload_n 0, []) ∧ px_at 11 26 = some (27, [], .iload_n 3, []) ∧ px_at 11 27 = some (28, [], .aload_n 1, []) ∧ px_at 11 28 = some (29, [], .iload_n 2, []) ∧ px_at 11 29 = some (32, [], .invokevirtual 64, [10, 3, 1, 70]) ∧ px_at 11 32 = some (35, [], .ifCond .eq 5, [37]) ∧ px_at 11 35 = some (36, [], .iload_n 3, []) ∧ px_at 11 36 = some (37, [], .ireturn, [0]) ∧ px_at 11 37 = some (40, [], .iinc 3 1, []) ∧ px_at 11 40 = some (43, [], .goto (-38), [2]) ∧ px_at 11 43 = some (45, [], .bipush (-2), []) ∧ px_at 11 45 = some (46, [], .ireturn, [0]) := ⟨rfl, rfl, rfl, rfl, rfl, rfl, rfl, rfl, rfl, rfl, rfl, rfl, rfl, rfl, rfl, rfl, rfl, rfl, rfl, rfl, rfl, rfl, rfl, rfl, rfl, rfl⟩
/-- the mark of bytes -/
def mkN (f : Int → Int) : Nat → Int
  | 0 => 7
  | k + 1 => (31 * mkN f k + f k + 1) % 65521
def mk (f : Int → Int) (n : Int) : Int := mkN f n.toNat
theorem mk_0 (f : Int → Int) : mk f 0 = 7 := rfl
theorem mk_s {f : Int → Int} {k : Int} (h : 0 ≤ k) : mk f (k + 1) = (31 * mk f k + f k + 1) % 65521 := by
  unfold mk
  rw [show (k + 1).toNat = k.toNat + 1 by omega]
  show (31 * mkN f k.toNat + f (k.toNat : Int) + 1) % 65521 = _
  rw [Int.toNat_of_nonneg h]
theorem mkN_rng (f : Int → Int) : ∀ k : Nat, 0 ≤ mkN f k ∧ mkN f k < 65521 := fun k => by
  cases k with
  | zero => exact (by decide : (0 : Int) ≤ 7 ∧ (7 : Int) < 65521)
  | succ k => show 0 ≤ (_ % 65521 : Int) ∧ (_ % 65521 : Int) < 65521; omega
theorem mk_rng (f : Int → Int) (n : Int) : 0 ≤ mk f n ∧ mk f n < 65521 := mkN_rng f _
theorem mk_congr {f g : Int → Int} {n : Int} (h : ∀ k, 0 ≤ k → k < n → f k = g k) : mk f n = mk g n := by
  unfold mk
  have key : ∀ m : Nat, (m : Int) ≤ n → mkN f m = mkN g m := by
    intro m
    induction m with
    | zero => intro _; rfl
    | succ m ih =>
      intro hm
      show (31 * mkN f m + f m + 1) % 65521 = (31 * mkN g m + g m + 1) % 65521
      rw [ih (by omega), h m (by omega) (by omega)]
  by_cases hn : 0 ≤ n
  · exact key _ (by omega)
  · rw [show n.toNat = 0 by omega]; rfl
section PS
variable {M : px_mem} {Q : Option pv → px_mem → Prop}
set_option maxHeartbeats 600000 in
set_option maxRecDepth 100000 in
theorem lp_markOf {v n : Int} (hk : px_kd LAY v = 0) (hn : n ≤ px_ln LAY v) (hn1 : px_ln LAY v < 10000) (hb : ∀ j, 0 ≤ j → j < n → 0 ≤ M v j ∧ M v j < 256) (h : Q (some (0, mk (M v) n)) M) (k : Int) (hk_k : k ≤ n) : 0 ≤ k → px_WP 6 0 0 (px_Q0 LAY Q) 5 [(2, v), (0, n), (0, mk (M v) k), (0, k)] [] LAY M 0 0 := by
  refine up_ind (P := fun k => 0 ≤ k → px_WP 6 0 0 (px_Q0 LAY Q) 5 [(2, v), (0, n), (0, mk (M v) k), (0, k)] [] LAY M 0 0) (n) (fun k hk_k ih => ?_) k hk_k
  intros
  have hr := mk_rng (M v) k
  have hs := @mk_s (M v) k
  refine px_go_ok (inl := []) 60 ?_
  simp only [px_go, px_Q0_at, px_sx_0, px_sx_s, px_cl, px_step, ↓px_ll, px_lg, f4_, ↓px_r1, ↓px_r2, ↓px_r4, ↓px_r5, ↓px_p1, ↓px_p2, ↓px_p3, ↓px_pop, px_k_0, px_k_s, px_k3_0, px_stk_, px_cats, px_ent, px_st1, px_st2, px_mask, ↓px_tsw, ↓px_lsw, ct_, mls_0, mls_1, mls_2, mls_3, mls_4, mls_5, kd_0, kd_1, kd_2, kd_3, ln_0, ln_1, ln_2, ln_3, gf_0, gf_1, gf_2, gf_3, gf_4, gf_7, gf_21, gf_63, dy_0, dy_1, dy_2, dy_3, dy_7, dy_21, px_brT, px_brF, true_and, and_true, and_false, false_and, and_self, true_implies, false_implies, or_true, true_or, or_false, false_or, eq_self, ne_eq, not_false_eq_true, not_true_eq_false, if_true, if_false, List.mem_cons, List.not_mem_nil, List.length_cons, List.length_nil, Nat.reduceEqDiff, Nat.reduceAdd, Nat.reduceSub, Nat.reduceLeDiff, Nat.reduceLT, Int.reduceEq, Int.reduceLT, Int.reduceLE, Int.reduceNeg, Int.reduceAdd, Int.reduceSub, Int.reduceToNat, ↓reduceIte, one_ne_zero_, zero_ne_one_, px_in32L, cd_6, hk]
  repeat' (first | (with_reducible apply And.intro) | (with_reducible refine px_br_intro (fun _ => ?_) (fun _ => ?_)))
  all_goals (try (unfold px_in32))
  all_goals grind -mbtc  (splits := 20) []
set_option maxHeartbeats 600000 in
set_option maxRecDepth 100000 in
theorem sp_markOf {v n : Int} (h0 : 0 ≤ n) (hk : px_kd LAY v = 0) (hn : n ≤ px_ln LAY v) (hn1 : px_ln LAY v < 10000) (hb : ∀ j, 0 ≤ j → j < n → 0 ≤ M v j ∧ M v j < 256) (h : Q (some (0, mk (M v) n)) M) : px_Ok 6 [(2, v), (0, n)] LAY M Q := by
  refine px_ok_go (inl := []) (ls0 := [(2, v), (0, n), (9, 0), (9, 0)]) 60 (by decide) (Nat.le_of_ble_eq_true rfl) rfl ?_
  simp only [px_go, px_Q0_at, px_sx_0, px_sx_s, px_cl, px_step, ↓px_ll, px_lg, f4_, ↓px_r1, ↓px_r2, ↓px_r4, ↓px_r5, ↓px_p1, ↓px_p2, ↓px_p3, ↓px_pop, px_k_0, px_k_s, px_k3_0, px_stk_, px_cats, px_ent, px_st1, px_st2, px_mask, ↓px_tsw, ↓px_lsw, ct_, mls_0, mls_1, mls_2, mls_3, mls_4, mls_5, kd_0, kd_1, kd_2, kd_3, ln_0, ln_1, ln_2, ln_3, gf_0, gf_1, gf_2, gf_3, gf_4, gf_7, gf_21, gf_63, dy_0, dy_1, dy_2, dy_3, dy_7, dy_21, px_brT, px_brF, true_and, and_true, and_false, false_and, and_self, true_implies, false_implies, or_true, true_or, or_false, false_or, eq_self, ne_eq, not_false_eq_true, not_true_eq_false, if_true, if_false, List.mem_cons, List.not_mem_nil, List.length_cons, List.length_nil, Nat.reduceEqDiff, Nat.reduceAdd, Nat.reduceSub, Nat.reduceLeDiff, Nat.reduceLT, Int.reduceEq, Int.reduceLT, Int.reduceLE, Int.reduceNeg, Int.reduceAdd, Int.reduceSub, Int.reduceToNat, ↓reduceIte, one_ne_zero_, zero_ne_one_, px_in32L, cd_6]
  repeat' (first | (with_reducible apply And.intro) | (with_reducible refine px_br_intro (fun _ => ?_) (fun _ => ?_)))
  all_goals (try (first | (unfold px_in32; omega) | omega))
  exact lp_markOf hk hn hn1 hb h 0 h0 (Int.le_refl 0)
set_option maxHeartbeats 600000 in
set_option maxRecDepth 100000 in
theorem lp_areWhole {v n : Int} (hk : px_kd LAY v = 0) (hn : n ≤ px_ln LAY v) (hn1 : px_ln LAY v < 10000) (hb : ∀ j, 0 ≤ j → j < n → 0 ≤ M v j ∧ M v j < 40) (h1 : (∀ j, 0 ≤ j → j < n → M 105 (M v j) ≠ 0) → Q (some (0, 1)) M) (h2 : ¬ (∀ j, 0 ≤ j → j < n → M 105 (M v j) ≠ 0) → Q (some (0, 0)) M) (k : Int) (hk_k : k ≤ n) : 0 ≤ k → (∀ j, 0 ≤ j → j < k → M 105 (M v j) ≠ 0) → px_WP 8 0 0 (px_Q0 LAY Q) 2 [(2, 56), (2, v), (0, n), (0, k)] [] LAY M 0 0 := by
  refine up_ind (P := fun k => 0 ≤ k → (∀ j, 0 ≤ j → j < k → M 105 (M v j) ≠ 0) → px_WP 8 0 0 (px_Q0 LAY Q) 2 [(2, 56), (2, v), (0, n), (0, k)] [] LAY M 0 0) (n) (fun k hk_k ih => ?_) k hk_k
  intros
  refine px_go_ok (inl := []) 60 ?_
  simp only [px_go, px_Q0_at, px_sx_0, px_sx_s, px_cl, px_step, ↓px_ll, px_lg, f4_, ↓px_r1, ↓px_r2, ↓px_r4, ↓px_r5, ↓px_p1, ↓px_p2, ↓px_p3, ↓px_pop, px_k_0, px_k_s, px_k3_0, px_stk_, px_cats, px_ent, px_st1, px_st2, px_mask, ↓px_tsw, ↓px_lsw, ct_, mls_0, mls_1, mls_2, mls_3, mls_4, mls_5, kd_0, kd_1, kd_2, kd_3, ln_0, ln_1, ln_2, ln_3, gf_0, gf_1, gf_2, gf_3, gf_4, gf_7, gf_21, gf_63, dy_0, dy_1, dy_2, dy_3, dy_7, dy_21, px_brT, px_brF, true_and, and_true, and_false, false_and, and_self, true_implies, false_implies, or_true, true_or, or_false, false_or, eq_self, ne_eq, not_false_eq_true, not_true_eq_false, if_true, if_false, List.mem_cons, List.not_mem_nil, List.length_cons, List.length_nil, Nat.reduceEqDiff, Nat.reduceAdd, Nat.reduceSub, Nat.reduceLeDiff, Nat.reduceLT, Int.reduceEq, Int.reduceLT, Int.reduceLE, Int.reduceNeg, Int.reduceAdd, Int.reduceSub, Int.reduceToNat, ↓reduceIte, one_ne_zero_, zero_ne_one_, px_in32L, cd_8, hk]
  repeat' (first | (with_reducible apply And.intro) | (with_reducible refine px_br_intro (fun _ => ?_) (fun _ => ?_)))
  all_goals (try (unfold px_in32))
  all_goals grind -mbtc  (splits := 20) []
set_option maxHeartbeats 600000 in
set_option maxRecDepth 100000 in
theorem sp_areWhole {v n : Int} (h0 : 0 ≤ n) (hk : px_kd LAY v = 0) (hn : n ≤ px_ln LAY v) (hn1 : px_ln LAY v < 10000) (hb : ∀ j, 0 ≤ j → j < n → 0 ≤ M v j ∧ M v j < 40) (h1 : (∀ j, 0 ≤ j → j < n → M 105 (M v j) ≠ 0) → Q (some (0, 1)) M) (h2 : ¬ (∀ j, 0 ≤ j → j < n → M 105 (M v j) ≠ 0) → Q (some (0, 0)) M) : px_Ok 8 [(2, 56), (2, v), (0, n)] LAY M Q := by
  refine px_ok_go (inl := []) (ls0 := [(2, 56), (2, v), (0, n), (9, 0)]) 60 (by decide) (Nat.le_of_ble_eq_true rfl) rfl ?_
  simp only [px_go, px_Q0_at, px_sx_0, px_sx_s, px_cl, px_step, ↓px_ll, px_lg, f4_, ↓px_r1, ↓px_r2, ↓px_r4, ↓px_r5, ↓px_p1, ↓px_p2, ↓px_p3, ↓px_pop, px_k_0, px_k_s, px_k3_0, px_stk_, px_cats, px_ent, px_st1, px_st2, px_mask, ↓px_tsw, ↓px_lsw, ct_, mls_0, mls_1, mls_2, mls_3, mls_4, mls_5, kd_0, kd_1, kd_2, kd_3, ln_0, ln_1, ln_2, ln_3, gf_0, gf_1, gf_2, gf_3, gf_4, gf_7, gf_21, gf_63, dy_0, dy_1, dy_2, dy_3, dy_7, dy_21, px_brT, px_brF, true_and, and_true, and_false, false_and, and_self, true_implies, false_implies, or_true, true_or, or_false, false_or, eq_self, ne_eq, not_false_eq_true, not_true_eq_false, if_true, if_false, List.mem_cons, List.not_mem_nil, List.length_cons, List.length_nil, Nat.reduceEqDiff, Nat.reduceAdd, Nat.reduceSub, Nat.reduceLeDiff, Nat.reduceLT, Int.reduceEq, Int.reduceLT, Int.reduceLE, Int.reduceNeg, Int.reduceAdd, Int.reduceSub, Int.reduceToNat, ↓reduceIte, one_ne_zero_, zero_ne_one_, px_in32L, cd_8]
  repeat' (first | (with_reducible apply And.intro) | (with_reducible refine px_br_intro (fun _ => ?_) (fun _ => ?_)))
  all_goals (try (first | (unfold px_in32; omega) | omega))
  exact lp_areWhole hk hn hn1 hb h1 h2 0 h0 (Int.le_refl 0) (by omega)
set_option maxHeartbeats 600000 in
set_option maxRecDepth 100000 in
theorem lp_lenAll {v n : Int} (hk : px_kd LAY v = 0) (hn : n ≤ px_ln LAY v) (hn1 : n < 10000) (hb : ∀ j, 0 ≤ j → j < n → (0 ≤ M v j ∧ M v j < 40) ∧ 0 ≤ M 57 (M v j) ∧ M 57 (M v j) ≤ 40) (h : Q (some (0, sm n (fun i => M 57 (M v i)))) M) (k : Int) (hk_k : k ≤ n) : 0 ≤ k → px_WP 9 0 0 (px_Q0 LAY Q) 5 [(2, 56), (2, v), (0, n), (0, sm k (fun i => M 57 (M v i))), (0, k)] [] LAY M 0 0 := by
  refine up_ind (P := fun k => 0 ≤ k → px_WP 9 0 0 (px_Q0 LAY Q) 5 [(2, 56), (2, v), (0, n), (0, sm k (fun i => M 57 (M v i))), (0, k)] [] LAY M 0 0) (n) (fun k hk_k ih => ?_) k hk_k
  intro hk0
  have hs := sm_s hk0 (fun i => M 57 (M v i))
  have hr := sm_bnd (c := 40) hk0 (f := fun i => M 57 (M v i)) (fun j a b => (hb j a (by omega)).2)
  refine px_go_ok (inl := []) 60 ?_
  simp only [px_go, px_Q0_at, px_sx_0, px_sx_s, px_cl, px_step, ↓px_ll, px_lg, f4_, ↓px_r1, ↓px_r2, ↓px_r4, ↓px_r5, ↓px_p1, ↓px_p2, ↓px_p3, ↓px_pop, px_k_0, px_k_s, px_k3_0, px_stk_, px_cats, px_ent, px_st1, px_st2, px_mask, ↓px_tsw, ↓px_lsw, ct_, mls_0, mls_1, mls_2, mls_3, mls_4, mls_5, kd_0, kd_1, kd_2, kd_3, ln_0, ln_1, ln_2, ln_3, gf_0, gf_1, gf_2, gf_3, gf_4, gf_7, gf_21, gf_63, dy_0, dy_1, dy_2, dy_3, dy_7, dy_21, px_brT, px_brF, true_and, and_true, and_false, false_and, and_self, true_implies, false_implies, or_true, true_or, or_false, false_or, eq_self, ne_eq, not_false_eq_true, not_true_eq_false, if_true, if_false, List.mem_cons, List.not_mem_nil, List.length_cons, List.length_nil, Nat.reduceEqDiff, Nat.reduceAdd, Nat.reduceSub, Nat.reduceLeDiff, Nat.reduceLT, Int.reduceEq, Int.reduceLT, Int.reduceLE, Int.reduceNeg, Int.reduceAdd, Int.reduceSub, Int.reduceToNat, ↓reduceIte, one_ne_zero_, zero_ne_one_, px_in32L, cd_9, hk]
  repeat' (first | (with_reducible apply And.intro) | (with_reducible refine px_br_intro (fun _ => ?_) (fun _ => ?_)))
  all_goals (try (unfold px_in32))
  all_goals grind -mbtc  (splits := 20) []
set_option maxHeartbeats 600000 in
set_option maxRecDepth 100000 in
theorem sp_lenAll {v n : Int} (h0 : 0 ≤ n) (hk : px_kd LAY v = 0) (hn : n ≤ px_ln LAY v) (hn1 : n < 10000) (hb : ∀ j, 0 ≤ j → j < n → (0 ≤ M v j ∧ M v j < 40) ∧ 0 ≤ M 57 (M v j) ∧ M 57 (M v j) ≤ 40) (h : Q (some (0, sm n (fun i => M 57 (M v i)))) M) : px_Ok 9 [(2, 56), (2, v), (0, n)] LAY M Q := by
  refine px_ok_go (inl := []) (ls0 := [(2, 56), (2, v), (0, n), (9, 0), (9, 0)]) 60 (by decide) (Nat.le_of_ble_eq_true rfl) rfl ?_
  simp only [px_go, px_Q0_at, px_sx_0, px_sx_s, px_cl, px_step, ↓px_ll, px_lg, f4_, ↓px_r1, ↓px_r2, ↓px_r4, ↓px_r5, ↓px_p1, ↓px_p2, ↓px_p3, ↓px_pop, px_k_0, px_k_s, px_k3_0, px_stk_, px_cats, px_ent, px_st1, px_st2, px_mask, ↓px_tsw, ↓px_lsw, ct_, mls_0, mls_1, mls_2, mls_3, mls_4, mls_5, kd_0, kd_1, kd_2, kd_3, ln_0, ln_1, ln_2, ln_3, gf_0, gf_1, gf_2, gf_3, gf_4, gf_7, gf_21, gf_63, dy_0, dy_1, dy_2, dy_3, dy_7, dy_21, px_brT, px_brF, true_and, and_true, and_false, false_and, and_self, true_implies, false_implies, or_true, true_or, or_false, false_or, eq_self, ne_eq, not_false_eq_true, not_true_eq_false, if_true, if_false, List.mem_cons, List.not_mem_nil, List.length_cons, List.length_nil, Nat.reduceEqDiff, Nat.reduceAdd, Nat.reduceSub, Nat.reduceLeDiff, Nat.reduceLT, Int.reduceEq, Int.reduceLT, Int.reduceLE, Int.reduceNeg, Int.reduceAdd, Int.reduceSub, Int.reduceToNat, ↓reduceIte, one_ne_zero_, zero_ne_one_, px_in32L, cd_9]
  repeat' (first | (with_reducible apply And.intro) | (with_reducible refine px_br_intro (fun _ => ?_) (fun _ => ?_)))
  all_goals (try (first | (unfold px_in32; omega) | omega))
  exact lp_lenAll hk hn hn1 hb h 0 h0 (Int.le_refl 0)
set_option maxHeartbeats 600000 in
set_option maxRecDepth 100000 in
theorem lp_hasBytes {c v n : Int} (hc : 0 ≤ c ∧ c < 40) (hk : px_kd LAY v = 0) (hn : n ≤ px_ln LAY v) (hn1 : n ≤ 40) (h1 : (∀ j, 0 ≤ j → j < n → M (64 + c) j = M v j) → Q (some (0, 1)) M) (h2 : ¬ (∀ j, 0 ≤ j → j < n → M (64 + c) j = M v j) → Q (some (0, 0)) M) (k : Int) (hk_k : k ≤ n) : 0 ≤ k → (∀ j, 0 ≤ j → j < k → M (64 + c) j = M v j) → px_WP 10 0 0 (px_Q0 LAY Q) 15 [(2, 56), (0, c), (2, v), (0, n), (0, k)] [] LAY M 0 0 := by
  refine up_ind (P := fun k => 0 ≤ k → (∀ j, 0 ≤ j → j < k → M (64 + c) j = M v j) → px_WP 10 0 0 (px_Q0 LAY Q) 15 [(2, 56), (0, c), (2, v), (0, n), (0, k)] [] LAY M 0 0) (n) (fun k hk_k ih => ?_) k hk_k
  intros
  have hr := row_lay (v := 64 + c) (by omega)
  refine px_go_ok (inl := []) 60 ?_
  simp only [px_go, px_Q0_at, px_sx_0, px_sx_s, px_cl, px_step, ↓px_ll, px_lg, f4_, ↓px_r1, ↓px_r2, ↓px_r4, ↓px_r5, ↓px_p1, ↓px_p2, ↓px_p3, ↓px_pop, px_k_0, px_k_s, px_k3_0, px_stk_, px_cats, px_ent, px_st1, px_st2, px_mask, ↓px_tsw, ↓px_lsw, ct_, mls_0, mls_1, mls_2, mls_3, mls_4, mls_5, kd_0, kd_1, kd_2, kd_3, ln_0, ln_1, ln_2, ln_3, gf_0, gf_1, gf_2, gf_3, gf_4, gf_7, gf_21, gf_63, dy_0, dy_1, dy_2, dy_3, dy_7, dy_21, px_brT, px_brF, true_and, and_true, and_false, false_and, and_self, true_implies, false_implies, or_true, true_or, or_false, false_or, eq_self, ne_eq, not_false_eq_true, not_true_eq_false, if_true, if_false, List.mem_cons, List.not_mem_nil, List.length_cons, List.length_nil, Nat.reduceEqDiff, Nat.reduceAdd, Nat.reduceSub, Nat.reduceLeDiff, Nat.reduceLT, Int.reduceEq, Int.reduceLT, Int.reduceLE, Int.reduceNeg, Int.reduceAdd, Int.reduceSub, Int.reduceToNat, ↓reduceIte, one_ne_zero_, zero_ne_one_, px_in32L, cd_10, hk]
  repeat' (first | (with_reducible apply And.intro) | (with_reducible refine px_br_intro (fun _ => ?_) (fun _ => ?_)))
  all_goals (try (unfold px_in32))
  all_goals grind -mbtc  (splits := 20) []
set_option maxHeartbeats 600000 in
set_option maxRecDepth 100000 in
theorem sp_hasBytes {c v n : Int} (h0 : 0 ≤ n) (hc : 0 ≤ c ∧ c < 40) (hk : px_kd LAY v = 0) (hn : n ≤ px_ln LAY v) (hn1 : n ≤ 40) (h1 : M 57 c = n ∧ (∀ j, 0 ≤ j → j < n → M (64 + c) j = M v j) → Q (some (0, 1)) M) (h2 : ¬ (M 57 c = n ∧ (∀ j, 0 ≤ j → j < n → M (64 + c) j = M v j)) → Q (some (0, 0)) M) : px_Ok 10 [(2, 56), (0, c), (2, v), (0, n)] LAY M Q := by
  refine px_ok_go (inl := []) (ls0 := [(2, 56), (0, c), (2, v), (0, n), (9, 0)]) 60 (by decide) (Nat.le_of_ble_eq_true rfl) rfl ?_
  simp only [px_go, px_Q0_at, px_sx_0, px_sx_s, px_cl, px_step, ↓px_ll, px_lg, f4_, ↓px_r1, ↓px_r2, ↓px_r4, ↓px_r5, ↓px_p1, ↓px_p2, ↓px_p3, ↓px_pop, px_k_0, px_k_s, px_k3_0, px_stk_, px_cats, px_ent, px_st1, px_st2, px_mask, ↓px_tsw, ↓px_lsw, ct_, mls_0, mls_1, mls_2, mls_3, mls_4, mls_5, kd_0, kd_1, kd_2, kd_3, ln_0, ln_1, ln_2, ln_3, gf_0, gf_1, gf_2, gf_3, gf_4, gf_7, gf_21, gf_63, dy_0, dy_1, dy_2, dy_3, dy_7, dy_21, px_brT, px_brF, true_and, and_true, and_false, false_and, and_self, true_implies, false_implies, or_true, true_or, or_false, false_or, eq_self, ne_eq, not_false_eq_true, not_true_eq_false, if_true, if_false, List.mem_cons, List.not_mem_nil, List.length_cons, List.length_nil, Nat.reduceEqDiff, Nat.reduceAdd, Nat.reduceSub, Nat.reduceLeDiff, Nat.reduceLT, Int.reduceEq, Int.reduceLT, Int.reduceLE, Int.reduceNeg, Int.reduceAdd, Int.reduceSub, Int.reduceToNat, ↓reduceIte, one_ne_zero_, zero_ne_one_, px_in32L, cd_10]
  repeat' (first | (with_reducible apply And.intro) | (with_reducible refine px_br_intro (fun _ => ?_) (fun _ => ?_)))
  all_goals (try (first | (unfold px_in32; omega) | omega))
  · exact lp_hasBytes hc hk hn hn1 (fun a => h1 ⟨by omega, a⟩) (fun a => h2 (fun b => a b.2)) 0 h0 (Int.le_refl 0) (by omega)
  · rename_i c1; exact h2 (fun b => c1 b.1)
/-- is whole and has these bytes -/
def isF (M : px_mem) (v n c : Int) : Prop := 0 ≤ M 62 c ∧ M 105 c ≠ 0 ∧ M 57 c = n ∧ ∀ j, 0 ≤ j → j < n → M (64 + c) j = M v j
set_option maxHeartbeats 600000 in
set_option maxRecDepth 100000 in
theorem lp_wholeWith {v n : Int} (h0 : 0 ≤ n) (hk : px_kd LAY v = 0) (hn : n ≤ px_ln LAY v) (hn1 : n ≤ 40) (h : Q (some (0, idx 40 (isF M v n))) M) (k : Int) (hk_k : k ≤ 40) : 0 ≤ k → (∀ j, 0 ≤ j → j < k → ¬ isF M v n j) → px_WP 11 0 0 (px_Q0 LAY Q) 2 [(2, 56), (2, v), (0, n), (0, k)] [] LAY M 0 0 := by
  refine up_ind (P := fun k => 0 ≤ k → (∀ j, 0 ≤ j → j < k → ¬ isF M v n j) → px_WP 11 0 0 (px_Q0 LAY Q) 2 [(2, 56), (2, v), (0, n), (0, k)] [] LAY M 0 0) (40) (fun k hk_k ih => ?_) k hk_k
  intros
  refine px_go_ok (inl := [7]) 60 ?_
  simp only [px_go, px_Q0_at, px_sx_0, px_sx_s, px_cl, px_step, ↓px_ll, px_lg, f4_, ↓px_r1, ↓px_r2, ↓px_r4, ↓px_r5, ↓px_p1, ↓px_p2, ↓px_p3, ↓px_pop, px_k_0, px_k_s, px_k3_0, px_stk_, px_cats, px_ent, px_st1, px_st2, px_mask, ↓px_tsw, ↓px_lsw, ct_, mls_0, mls_1, mls_2, mls_3, mls_4, mls_5, kd_0, kd_1, kd_2, kd_3, ln_0, ln_1, ln_2, ln_3, gf_0, gf_1, gf_2, gf_3, gf_4, gf_7, gf_21, gf_63, dy_0, dy_1, dy_2, dy_3, dy_7, dy_21, px_brT, px_brF, true_and, and_true, and_false, false_and, and_self, true_implies, false_implies, or_true, true_or, or_false, false_or, eq_self, ne_eq, not_false_eq_true, not_true_eq_false, if_true, if_false, List.mem_cons, List.not_mem_nil, List.length_cons, List.length_nil, Nat.reduceEqDiff, Nat.reduceAdd, Nat.reduceSub, Nat.reduceLeDiff, Nat.reduceLT, Int.reduceEq, Int.reduceLT, Int.reduceLE, Int.reduceNeg, Int.reduceAdd, Int.reduceSub, Int.reduceToNat, ↓reduceIte, one_ne_zero_, zero_ne_one_, px_in32L, cd_11, cd_7, hk]
  repeat' (first | (with_reducible apply And.intro) | (with_reducible refine px_br_intro (fun _ => ?_) (fun _ => ?_)) | (refine sp_hasBytes h0 ?_ hk hn hn1 (fun _ => ?_) (fun _ => ?_) <;> (try simp only [px_go, px_Q0_at, px_sx_0, px_sx_s, px_cl, px_step, ↓px_ll, px_lg, f4_, ↓px_r1, ↓px_r2, ↓px_r4, ↓px_r5, ↓px_p1, ↓px_p2, ↓px_p3, ↓px_pop, px_k_0, px_k_s, px_k3_0, px_stk_, px_cats, px_ent, px_st1, px_st2, px_mask, ↓px_tsw, ↓px_lsw, ct_, mls_0, mls_1, mls_2, mls_3, mls_4, mls_5, kd_0, kd_1, kd_2, kd_3, ln_0, ln_1, ln_2, ln_3, gf_0, gf_1, gf_2, gf_3, gf_4, gf_7, gf_21, gf_63, dy_0, dy_1, dy_2, dy_3, dy_7, dy_21, px_brT, px_brF, true_and, and_true, and_false, false_and, and_self, true_implies, false_implies, or_true, true_or, or_false, false_or, eq_self, ne_eq, not_false_eq_true, not_true_eq_false, if_true, if_false, List.mem_cons, List.not_mem_nil, List.length_cons, List.length_nil, Nat.reduceEqDiff, Nat.reduceAdd, Nat.reduceSub, Nat.reduceLeDiff, Nat.reduceLT, Int.reduceEq, Int.reduceLT, Int.reduceLE, Int.reduceNeg, Int.reduceAdd, Int.reduceSub, Int.reduceToNat, ↓reduceIte, one_ne_zero_, zero_ne_one_, px_in32L, cd_11, cd_7, hk])))
  all_goals (try (unfold px_in32))
  all_goals grind -mbtc  (splits := 20) [isF, idx_hit, idx_miss]
set_option maxHeartbeats 600000 in
set_option maxRecDepth 100000 in
theorem sp_wholeWith {v n : Int} (h0 : 0 ≤ n) (hk : px_kd LAY v = 0) (hn : n ≤ px_ln LAY v) (hn1 : n ≤ 40) (h : Q (some (0, idx 40 (isF M v n))) M) : px_Ok 11 [(2, 56), (2, v), (0, n)] LAY M Q := by
  refine px_ok_go (inl := []) (ls0 := [(2, 56), (2, v), (0, n), (9, 0)]) 60 (by decide) (Nat.le_of_ble_eq_true rfl) rfl ?_
  simp only [px_go, px_Q0_at, px_sx_0, px_sx_s, px_cl, px_step, ↓px_ll, px_lg, f4_, ↓px_r1, ↓px_r2, ↓px_r4, ↓px_r5, ↓px_p1, ↓px_p2, ↓px_p3, ↓px_pop, px_k_0, px_k_s, px_k3_0, px_stk_, px_cats, px_ent, px_st1, px_st2, px_mask, ↓px_tsw, ↓px_lsw, ct_, mls_0, mls_1, mls_2, mls_3, mls_4, mls_5, kd_0, kd_1, kd_2, kd_3, ln_0, ln_1, ln_2, ln_3, gf_0, gf_1, gf_2, gf_3, gf_4, gf_7, gf_21, gf_63, dy_0, dy_1, dy_2, dy_3, dy_7, dy_21, px_brT, px_brF, true_and, and_true, and_false, false_and, and_self, true_implies, false_implies, or_true, true_or, or_false, false_or, eq_self, ne_eq, not_false_eq_true, not_true_eq_false, if_true, if_false, List.mem_cons, List.not_mem_nil, List.length_cons, List.length_nil, Nat.reduceEqDiff, Nat.reduceAdd, Nat.reduceSub, Nat.reduceLeDiff, Nat.reduceLT, Int.reduceEq, Int.reduceLT, Int.reduceLE, Int.reduceNeg, Int.reduceAdd, Int.reduceSub, Int.reduceToNat, ↓reduceIte, one_ne_zero_, zero_ne_one_, px_in32L, cd_11]
  repeat' (first | (with_reducible apply And.intro) | (with_reducible refine px_br_intro (fun _ => ?_) (fun _ => ?_)))
  all_goals (try (first | (unfold px_in32; omega) | omega))
  exact lp_wholeWith h0 hk hn hn1 h 0 (by decide) (Int.le_refl 0) (by omega)
end PS
