set_option maxRecDepth 100000 in
/-- X12_in -/
theorem cd_170 : px_at 170 0 = some (1, [], .iload_n 0, []) ∧ px_at 170 1 = some (2, [], .iload_n 1, []) ∧ px_at 170 2 = some (5, [], .if_icmp .lt 12, [14]) ∧ px_at 170 5 = some (6, [], .iload_n 0, []) ∧ px_at 170 6 = some (7, [], .iload_n 2, []) ∧ px_at 170 7 = some (10, [], .if_icmp .gt 7, [14]) ∧ px_at 170 10 = some (11, [], .iconst 1, []) ∧ px_at 170 11 = some (14, [], .goto 4, [15]) ∧ px_at 170 14 = some (15, [], .iconst 0, []) ∧ px_at 170 15 = some (16, [], .ireturn, [4]) := ⟨rfl, rfl, rfl, rfl, rfl, rfl, rfl, rfl, rfl, rfl⟩
set_option maxRecDepth 100000 in
/-- X12_laysBeside -/
theorem cd_175 : px_at 175 0 = some (1, [], .iconst 0, []) ∧ px_at 175 1 = some (2, [], .istore_n 1, []) ∧ px_at 175 2 = some (3, [1, 1], .iload_n 1, []) ∧ px_at 175 3 = some (6, [], .sipush 3154, []) ∧ px_at 175 6 = some (9, [], .if_icmp .ge 21, [27]) ∧ px_at 175 9 = some (10, [], .aload_n 0, []) ∧ px_at 175 10 = some (13, [], .getfield 13, [11, 1, 2, 1, 126]) ∧ px_at 175 13 = some (14, [], .iload_n 1, []) ∧ px_at 175 14 = some (15, [], .aload_n 0, []) ∧ px_at 175 15 = some (18, [], .getfield 7, [11, 0, 2, 1, 125]) ∧ px_at 175 18 = some (19, [], .iload_n 1, []) ∧ px_at 175 19 = some (20, [], .iaload, []) ∧ px_at 175 20 = some (21, [], .iastore, []) ∧ px_at 175 21 = some (24, [], .iinc 1 1, []) ∧ px_at 175 24 = some (27, [], .goto (-22), [2]) ∧ px_at 175 27 = some (28, [], .return_, []) := ⟨rfl, rfl, rfl, rfl, rfl, rfl, rfl, rfl, rfl, rfl, rfl, rfl, rfl, rfl, rfl, rfl⟩
set_option maxRecDepth 100000 in
/-- X12_laysBack -/
theorem cd_176 : px_at 176 0 = some (1, [], .iconst 0, []) ∧ px_at 176 1 = some (2, [], .istore_n 1, []) ∧ px_at 176 2 = some (3, [1, 1], .iload_n 1, []) ∧ px_at 176 3 = some (6, [], .sipush 3154, []) ∧ px_at 176 6 = some (9, [], .if_icmp .ge 21, [27]) ∧ px_at 176 9 = some (10, [], .aload_n 0, []) ∧ px_at 176 10 = some (13, [], .getfield 7, [11, 0, 2, 1, 125]) ∧ px_at 176 13 = some (14, [], .iload_n 1, []) ∧ px_at 176 14 = some (15, [], .aload_n 0, []) ∧ px_at 176 15 = some (18, [], .getfield 13, [11, 1, 2, 1, 126]) ∧ px_at 176 18 = some (19, [], .iload_n 1, []) ∧ px_at 176 19 = some (20, [], .iaload, []) ∧ px_at 176 20 = some (21, [], .iastore, []) ∧ px_at 176 21 = some (24, [], .iinc 1 1, []) ∧ px_at 176 24 = some (27, [], .goto (-22), [2]) ∧ px_at 176 27 = some (28, [], .return_, []) := ⟨rfl, rfl, rfl, rfl, rfl, rfl, rfl, rfl, rfl, rfl, rfl, rfl, rfl, rfl, rfl, rfl⟩
set_option maxRecDepth 100000 in
/-- X12_laysPath -/
theorem cd_179 : px_at 179 0 = some (1, [], .aload_n 3, []) ∧ px_at 179 1 = some (2, [], .iconst 0, []) ∧ px_at 179 2 = some (3, [], .iload_n 2, []) ∧ px_at 179 3 = some (4, [], .iastore, []) ∧ px_at 179 4 = some (5, [], .iconst 0, []) ∧ px_at 179 5 = some (7, [], .istore 4, []) ∧ px_at 179 7 = some (9, [1, 1, 1, 1, 1], .iload 4, []) ∧ px_at 179 9 = some (11, [], .bipush 12, []) ∧ px_at 179 11 = some (14, [], .if_icmp .ge 38, [49]) ∧ px_at 179 14 = some (15, [], .aload_n 3, []) ∧ px_at 179 15 = some (16, [], .iconst 1, []) ∧ px_at 179 16 = some (18, [], .iload 4, []) ∧ px_at 179 18 = some (19, [], .iadd, []) ∧ px_at 179 19 = some (21, [], .iload 4, []) ∧ px_at 179 21 = some (22, [], .iload_n 2, []) ∧ px_at 179 22 = some (25, [], .if_icmp .ge 19, [41]) ∧ px_at 179 25 = some (26, [], .aload_n 0, []) ∧ px_at 179 26 = some (29, [], .getfield 16, [11, 2, 2, 1, 127]) ∧ px_at 179 29 = some (30, [], .iload_n 1, []) ∧ px_at 179 30 = some (32, [], .iload 4, []) ∧ px_at 179 32 = some (33, [], .iadd, []) ∧ px_at 179 33 = some (34, [], .baload, []) ∧ px_at 179 34 = some (37, [], .sipush 255, []) ∧ px_at 179 37 = some (38, [], .iand, []) ∧ px_at 179 38 = some (41, [], .goto 4, [42]) ∧ px_at 179 41 = some (42, [], .iconst 0, []) ∧ px_at 179 42 = some (43, [], .iastore, []) ∧ px_at 179 43 = some (46, [], .iinc 4 1, []) ∧ px_at 179 46 = some (49, [], .goto (-39), [7]) ∧ px_at 179 49 = some (50, [], .return_, []) := ⟨rfl, rfl, rfl, rfl, rfl, rfl, rfl, rfl, rfl, rfl, rfl, rfl, rfl, rfl, rfl, rfl, rfl, rfl, rfl, rfl, rfl, rfl, rfl, rfl, rfl, rfl, rfl, rfl, rfl, rfl⟩
set_option maxRecDepth 100000 in
/-- X12_isLetter -/
theorem cd_180 : px_at 180 0 = some (1, [], .iload_n 0, []) ∧ px_at 180 1 = some (3, [], .bipush 97, []) ∧ px_at 180 3 = some (5, [], .bipush 122, []) ∧ px_at 180 5 = some (8, [], .invokestatic 92, [170, 3, 11, 223]) ∧ px_at 180 8 = some (9, [], .ireturn, [4]) := ⟨rfl, rfl, rfl, rfl, rfl⟩
set_option maxRecDepth 100000 in
/-- X12_isPath -/
theorem cd_181 : px_at 181 0 = some (1, [], .iconst 1, []) ∧ px_at 181 1 = some (2, [], .istore_n 1, []) ∧ px_at 181 2 = some (3, [1, 1], .iload_n 1, []) ∧ px_at 181 3 = some (4, [], .aload_n 0, []) ∧ px_at 181 4 = some (5, [], .iconst 0, []) ∧ px_at 181 5 = some (6, [], .iaload, []) ∧ px_at 181 6 = some (9, [], .if_icmp .gt 53, [59]) ∧ px_at 181 9 = some (10, [], .aload_n 0, []) ∧ px_at 181 10 = some (11, [], .iload_n 1, []) ∧ px_at 181 11 = some (12, [], .iaload, []) ∧ px_at 181 12 = some (15, [], .invokestatic 96, [180, 1, 11, 227]) ∧ px_at 181 15 = some (18, [], .ifCond .eq 6, [21]) ∧ px_at 181 18 = some (21, [], .goto 35, [53]) ∧ px_at 181 21 = some (22, [], .aload_n 0, []) ∧ px_at 181 22 = some (23, [], .iload_n 1, []) ∧ px_at 181 23 = some (24, [], .iaload, []) ∧ px_at 181 24 = some (26, [], .bipush 47, []) ∧ px_at 181 26 = some (29, [], .if_icmp .ne 25, [51]) ∧ px_at 181 29 = some (30, [], .iload_n 1, []) ∧ px_at 181 30 = some (31, [], .iconst 1, []) ∧ px_at 181 31 = some (34, [], .if_icmp .eq 20, [51]) ∧ px_at 181 34 = some (35, [], .iload_n 1, []) ∧ px_at 181 35 = some (36, [], .aload_n 0, []) ∧ px_at 181 36 = some (37, [], .iconst 0, []) ∧ px_at 181 37 = some (38, [], .iaload, []) ∧ px_at 181 38 = some (41, [], .if_icmp .eq 13, [51]) ∧ px_at 181 41 = some (42, [], .aload_n 0, []) ∧ px_at 181 42 = some (43, [], .iload_n 1, []) ∧ px_at 181 43 = some (44, [], .iconst 1, []) ∧ px_at 181 44 = some (45, [], .isub, []) ∧ px_at 181 45 = some (46, [], .iaload, []) ∧ px_at 181 46 = some (48, [], .bipush 47, []) ∧ px_at 181 48 = some (51, [], .if_icmp .ne 5, [53]) ∧ px_at 181 51 = some (52, [], .iconst 0, []) ∧ px_at 181 52 = some (53, [], .ireturn, [4]) ∧ px_at 181 53 = some (56, [], .iinc 1 1, []) ∧ px_at 181 56 = some (59, [], .goto (-54), [2]) ∧ px_at 181 59 = some (60, [], .aload_n 0, []) ∧ px_at 181 60 = some (61, [], .iconst 0, []) ∧ px_at 181 61 = some (62, [], .iaload, []) ∧ px_at 181 62 = some (65, [], .ifCond .le 7, [69]) ∧ px_at 181 65 = some (66, [], .iconst 1, []) ∧ px_at 181 66 = some (69, [], .goto 4, [70]) ∧ px_at 181 69 = some (70, [], .iconst 0, []) ∧ px_at 181 70 = some (71, [], .ireturn, [4]) := ⟨rfl, rfl, rfl, rfl, rfl, rfl, rfl, rfl, rfl, rfl, rfl, rfl, rfl, rfl, rfl, rfl, rfl, rfl, rfl, rfl, rfl, rfl, rfl, rfl, rfl, rfl, rfl, rfl, rfl, rfl, rfl, rfl, rfl, rfl, rfl, rfl, rfl, rfl, rfl, rfl, rfl, rfl, rfl, rfl, rfl⟩
set_option maxRecDepth 100000 in
/-- X12_copiesPath -/
theorem cd_185 : px_at 185 0 = some (1, [], .iconst 0, []) ∧ px_at 185 1 = some (3, [], .istore 4, []) ∧ px_at 185 3 = some (5, [1, 1, 1, 1, 1], .iload 4, []) ∧ px_at 185 5 = some (7, [], .bipush 12, []) ∧ px_at 185 7 = some (10, [], .if_icmp .gt 21, [28]) ∧ px_at 185 10 = some (11, [], .aload_n 2, []) ∧ px_at 185 11 = some (12, [], .iload_n 3, []) ∧ px_at 185 12 = some (14, [], .iload 4, []) ∧ px_at 185 14 = some (15, [], .iadd, []) ∧ px_at 185 15 = some (16, [], .aload_n 0, []) ∧ px_at 185 16 = some (17, [], .iload_n 1, []) ∧ px_at 185 17 = some (19, [], .iload 4, []) ∧ px_at 185 19 = some (20, [], .iadd, []) ∧ px_at 185 20 = some (21, [], .iaload, []) ∧ px_at 185 21 = some (22, [], .iastore, []) ∧ px_at 185 22 = some (25, [], .iinc 4 1, []) ∧ px_at 185 25 = some (28, [], .goto (-22), [3]) ∧ px_at 185 28 = some (29, [], .return_, []) := ⟨rfl, rfl, rfl, rfl, rfl, rfl, rfl, rfl, rfl, rfl, rfl, rfl, rfl, rfl, rfl, rfl, rfl, rfl⟩
set_option maxRecDepth 100000 in
/-- X12_markOf -/
theorem cd_186 : px_at 186 0 = some (2, [], .bipush 7, []) ∧ px_at 186 2 = some (3, [], .istore_n 3, []) ∧ px_at 186 3 = some (4, [], .iconst 0, []) ∧ px_at 186 4 = some (6, [], .istore 4, []) ∧ px_at 186 6 = some (8, [1, 1, 1, 1, 1], .iload 4, []) ∧ px_at 186 8 = some (9, [], .iload_n 2, []) ∧ px_at 186 9 = some (12, [], .if_icmp .ge 26, [35]) ∧ px_at 186 12 = some (14, [], .bipush 31, []) ∧ px_at 186 14 = some (15, [], .iload_n 3, []) ∧ px_at 186 15 = some (16, [], .imul, []) ∧ px_at 186 16 = some (17, [], .aload_n 0, []) ∧ px_at 186 17 = some (18, [], .iload_n 1, []) ∧ px_at 186 18 = some (20, [], .iload 4, []) ∧ px_at 186 20 = some (21, [], .iadd, []) ∧ px_at 186 21 = some (22, [], .iaload, []) ∧ px_at 186 22 = some (23, [], .iadd, []) ∧ px_at 186 23 = some (24, [], .iconst 1, []) ∧ px_at 186 24 = some (25, [], .iadd, []) ∧ px_at 186 25 = some (27, [], .ldc 108, [65521, 4]) ∧ px_at 186 27 = some (28, [], .irem, []) ∧ px_at 186 28 = some (29, [], .istore_n 3, []) ∧ px_at 186 29 = some (32, [], .iinc 4 1, []) ∧ px_at 186 32 = some (35, [], .goto (-26), [6]) ∧ px_at 186 35 = some (36, [], .iload_n 3, []) ∧ px_at 186 36 = some (37, [], .ireturn, [0]) := ⟨rfl, rfl, rfl, rfl, rfl, rfl, rfl, rfl, rfl, rfl, rfl, rfl, rfl, rfl, rfl, rfl, rfl, rfl, rfl, rfl, rfl, rfl, rfl, rfl, rfl⟩
/-! the reference: paths laid, marks, what is laid beside -/
section PS
variable {M : px_mem} {Q : Option pv → px_mem → Prop}
set_option maxHeartbeats 600000 in
set_option maxRecDepth 100000 in
theorem lp_laysPath {M0 : px_mem} {s n v : Int} (hv3 : v = 131 ∨ v = 132 ∨ v = 133) (hs : 0 ≤ s ∧ s + n ≤ 160) (hn : 0 ≤ n ∧ n ≤ 12) (h : ∀ M', M' v 0 = n → (∀ j, 0 ≤ j → j < 12 → M' v (1 + j) = if j < n then M0 130 (s + j) % 256 else 0) → (∀ b, b ≠ v → M' b = M0 b) → Q none M') (k : Int) (hk_k : k ≤ 12) : ∀ (M : px_mem), 0 ≤ k → M v 0 = n → (∀ j, 0 ≤ j → j < k → M v (1 + j) = if j < n then M0 130 (s + j) % 256 else 0) → (∀ b, b ≠ v → M b = M0 b) → px_WP 179 0 0 (px_Q0 LAY Q) 7 [(2, 127), (0, s), (0, n), (2, v), (0, k)] [] LAY M 0 0 := by
  refine up_ind (P := fun k => ∀ (M : px_mem), 0 ≤ k → M v 0 = n → (∀ j, 0 ≤ j → j < k → M v (1 + j) = if j < n then M0 130 (s + j) % 256 else 0) → (∀ b, b ≠ v → M b = M0 b) → px_WP 179 0 0 (px_Q0 LAY Q) 7 [(2, 127), (0, s), (0, n), (2, v), (0, k)] [] LAY M 0 0) (12) (fun k hk_k ih => ?_) k hk_k
  intro M k0 h0 hv hf
  have hkv : px_kd LAY v = 0 := by rcases hv3 with e | e | e <;> subst e <;> rfl
  have hlv : px_ln LAY v = 13 := by rcases hv3 with e | e | e <;> subst e <;> rfl
  have f130 := hf 130 (by omega)
  have hnx : ∀ y, y = (if k < n then M0 130 (s + k) % 256 else 0) → ∀ j, 0 ≤ j → j < k + 1 → px_up M v (1 + k) y v (1 + j) = if j < n then M0 130 (s + j) % 256 else 0 := fun y hy j j0 j1 => by
    rw [px_up_at]
    by_cases q : j = k
    · rw [if_pos ⟨rfl, by omega⟩, q]; exact hy
    · rw [if_neg (by omega)]; exact hv j j0 (by omega)
  refine px_go_ok (inl := []) 60 ?_
  simp only [px_go, px_Q0_at, px_sx_0, px_sx_s, px_cl, px_step, ↓px_ll, px_lg, f4_, ↓px_r1, ↓px_r2, ↓px_r4, ↓px_r5, ↓px_p1, ↓px_p2, ↓px_p3, ↓px_pop, px_k_0, px_k_s, px_k3_0, px_stk_, px_cats, px_ent, px_st1, px_st2, px_mask, ↓px_tsw, ↓px_lsw, ct_, mls_0, mls_1, mls_2, mls_3, mls_4, mls_5, kd_0, kd_1, kd_2, kd_3, ln_0, ln_1, ln_2, ln_3, gf_0, gf_1, gf_2, gf_3, gf_4, gf_7, gf_21, gf_63, dy_0, dy_1, dy_2, dy_3, dy_7, dy_21, px_brT, px_brF, true_and, and_true, and_false, false_and, and_self, true_implies, false_implies, or_true, true_or, or_false, false_or, eq_self, ne_eq, not_false_eq_true, not_true_eq_false, if_true, if_false, List.mem_cons, List.not_mem_nil, List.length_cons, List.length_nil, Nat.reduceEqDiff, Nat.reduceAdd, Nat.reduceSub, Nat.reduceLeDiff, Nat.reduceLT, Int.reduceEq, Int.reduceLT, Int.reduceLE, Int.reduceNeg, Int.reduceAdd, Int.reduceSub, Int.reduceToNat, ↓reduceIte, one_ne_zero_, zero_ne_one_, px_in32L, cd_179, hkv, hlv]
  repeat' (first | (with_reducible apply And.intro) | (with_reducible refine px_br_intro (fun _ => ?_) (fun _ => ?_)))
  all_goals (try (first | (unfold px_in32; omega) | omega))
  · have e : k = 12 := by omega
    subst e
    exact h M h0 hv hf
  · rename_i c1 c2
    refine ih (by omega) _ (by omega) ?_ (hnx 0 (by rw [if_neg (by omega)])) (fun b b0 => by rw [row_ne b0]; exact hf b b0)
    rw [px_up_at, if_neg (by omega)]; exact h0
  · rename_i c1 c2
    refine ih (by omega) _ (by omega) ?_ (hnx _ ?_) (fun b b0 => by rw [row_ne b0]; exact hf b b0)
    · rw [px_up_at, if_neg (by omega)]; exact h0
    · rw [if_pos (by omega), f130, and_255]
set_option maxHeartbeats 600000 in
set_option maxRecDepth 100000 in
theorem sp_laysPath {s n v : Int} (hv3 : v = 131 ∨ v = 132 ∨ v = 133) (hs : 0 ≤ s ∧ s + n ≤ 160) (hn : 0 ≤ n ∧ n ≤ 12) (h : ∀ M', M' v 0 = n → (∀ j, 0 ≤ j → j < 12 → M' v (1 + j) = if j < n then M 130 (s + j) % 256 else 0) → (∀ b, b ≠ v → M' b = M b) → Q none M') : px_Ok 179 [(2, 127), (0, s), (0, n), (2, v)] LAY M Q := by
  have hkv : px_kd LAY v = 0 := by rcases hv3 with e | e | e <;> subst e <;> rfl
  have hlv : px_ln LAY v = 13 := by rcases hv3 with e | e | e <;> subst e <;> rfl
  refine px_ok_go (inl := []) (ls0 := [(2, 127), (0, s), (0, n), (2, v), (9, 0)]) 60 (by decide) (Nat.le_of_ble_eq_true rfl) rfl ?_
  simp only [px_go, px_Q0_at, px_sx_0, px_sx_s, px_cl, px_step, ↓px_ll, px_lg, f4_, ↓px_r1, ↓px_r2, ↓px_r4, ↓px_r5, ↓px_p1, ↓px_p2, ↓px_p3, ↓px_pop, px_k_0, px_k_s, px_k3_0, px_stk_, px_cats, px_ent, px_st1, px_st2, px_mask, ↓px_tsw, ↓px_lsw, ct_, mls_0, mls_1, mls_2, mls_3, mls_4, mls_5, kd_0, kd_1, kd_2, kd_3, ln_0, ln_1, ln_2, ln_3, gf_0, gf_1, gf_2, gf_3, gf_4, gf_7, gf_21, gf_63, dy_0, dy_1, dy_2, dy_3, dy_7, dy_21, px_brT, px_brF, true_and, and_true, and_false, false_and, and_self, true_implies, false_implies, or_true, true_or, or_false, false_or, eq_self, ne_eq, not_false_eq_true, not_true_eq_false, if_true, if_false, List.mem_cons, List.not_mem_nil, List.length_cons, List.length_nil, Nat.reduceEqDiff, Nat.reduceAdd, Nat.reduceSub, Nat.reduceLeDiff, Nat.reduceLT, Int.reduceEq, Int.reduceLT, Int.reduceLE, Int.reduceNeg, Int.reduceAdd, Int.reduceSub, Int.reduceToNat, ↓reduceIte, one_ne_zero_, zero_ne_one_, px_in32L, cd_179, hkv, hlv]
  repeat' (first | (with_reducible apply And.intro) | (with_reducible refine px_br_intro (fun _ => ?_) (fun _ => ?_)))
  all_goals (try (first | (unfold px_in32; omega) | omega))
  exact lp_laysPath (M0 := M) hv3 hs hn h 0 (by decide) _ (Int.le_refl 0) (by rw [px_up_at, if_pos ⟨rfl, rfl⟩]) (fun j j0 j1 => by omega) (fun b b0 => row_ne b0)
/-- a path in a row of its own -/
def rp (M : px_mem) (v : Int) : List Int := lst (fun k => M v (1 + k)) (M v 0)
set_option maxHeartbeats 600000 in
set_option maxRecDepth 100000 in
theorem lp_isPath {v : Int} (hkv : px_kd LAY v = 0) (hlv : px_ln LAY v = 13) (hn : 0 ≤ M v 0 ∧ M v 0 ≤ 12) (h1 : isP (rp M v) → Q (some (0, 1)) M) (h0 : ¬ isP (rp M v) → Q (some (0, 0)) M) (k : Int) (hk_k : k ≤ M v 0+1) : 1 ≤ k → ∀ b, (isP (rp M v) ↔ pthF b ((rp M v).drop (k - 1).toNat)) → ((k = 1 ∧ b = 1) ∨ (1 < k ∧ b = sg (M v (k - 1)) ∧ (k = M v 0 + 1 → b ≠ 1))) → px_WP 181 0 0 (px_Q0 LAY Q) 2 [(2, v), (0, k)] [] LAY M 0 0 := by
  refine up_ind (P := fun k => 1 ≤ k → ∀ b, (isP (rp M v) ↔ pthF b ((rp M v).drop (k - 1).toNat)) → ((k = 1 ∧ b = 1) ∨ (1 < k ∧ b = sg (M v (k - 1)) ∧ (k = M v 0 + 1 → b ≠ 1))) → px_WP 181 0 0 (px_Q0 LAY Q) 2 [(2, v), (0, k)] [] LAY M 0 0) (M v 0+1) (fun k hk_k ih => ?_) k hk_k
  intro k1 b hb hb2
  have hfin : k = M v 0 + 1 → (isP (rp M v) ↔ b ≠ 1) := fun e => by
    rw [hb, List.drop_eq_nil_of_le (by unfold rp; rw [lst_lenN]; omega)]
    rfl
  have hcons : k ≤ M v 0 → (rp M v).drop (k - 1).toNat = M v k :: (rp M v).drop k.toNat := fun q => by
    have := lst_drop (f := fun k => M v (1 + k)) (n := M v 0) (k := k - 1) (by omega) (by omega)
    rw [show k - 1 + 1 = k by omega] at this
    rw [show 1 + (k - 1) = k by omega] at this
    exact this
  have hgo : k ≤ M v 0 → (isP (rp M v) ↔ (sg (M v k) ≠ 0 ∧ ¬ (sg (M v k) = 1 ∧ b = 1) ∧ pthF (sg (M v k)) ((rp M v).drop k.toNat))) := fun q => by
    rw [hb, hcons q]
    exact Iff.rfl
  have hs0 := sg_0 (M v k)
  have hs1 := sg_1 (M v k)
  have hp1 := sg_1 (M v (k - 1))
  have hlast : k = M v 0 → sg (M v k) = 1 → ¬ isP (rp M v) := fun e z y => by
    have := ((hgo (by omega)).mp y).2.2
    rw [List.drop_eq_nil_of_le (by unfold rp; rw [lst_lenN]; omega), z] at this
    exact this rfl
  have hnext : k ≤ M v 0 → sg (M v k) ≠ 0 → ¬ (sg (M v k) = 1 ∧ b = 1) → (k = M v 0 → sg (M v k) ≠ 1) → px_WP 181 0 0 (px_Q0 LAY Q) 2 [(2, v), (0, k + 1)] [] LAY M 0 0 := fun q z1 z2 z3 => by
    refine ih (by omega) (by omega) (sg (M v k)) ?_ (Or.inr ⟨by omega, by rw [show k + 1 - 1 = k by omega], fun e => z3 (by omega)⟩)
    rw [hgo q, show k + 1 - 1 = k by omega]
    exact ⟨fun y => y.2.2, fun y => ⟨z1, z2, y⟩⟩
  refine px_go_ok (inl := [170,180]) 60 ?_
  simp only [px_go, px_Q0_at, px_sx_0, px_sx_s, px_cl, px_step, ↓px_ll, px_lg, f4_, ↓px_r1, ↓px_r2, ↓px_r4, ↓px_r5, ↓px_p1, ↓px_p2, ↓px_p3, ↓px_pop, px_k_0, px_k_s, px_k3_0, px_stk_, px_cats, px_ent, px_st1, px_st2, px_mask, ↓px_tsw, ↓px_lsw, ct_, mls_0, mls_1, mls_2, mls_3, mls_4, mls_5, kd_0, kd_1, kd_2, kd_3, ln_0, ln_1, ln_2, ln_3, gf_0, gf_1, gf_2, gf_3, gf_4, gf_7, gf_21, gf_63, dy_0, dy_1, dy_2, dy_3, dy_7, dy_21, px_brT, px_brF, true_and, and_true, and_false, false_and, and_self, true_implies, false_implies, or_true, true_or, or_false, false_or, eq_self, ne_eq, not_false_eq_true, not_true_eq_false, if_true, if_false, List.mem_cons, List.not_mem_nil, List.length_cons, List.length_nil, Nat.reduceEqDiff, Nat.reduceAdd, Nat.reduceSub, Nat.reduceLeDiff, Nat.reduceLT, Int.reduceEq, Int.reduceLT, Int.reduceLE, Int.reduceNeg, Int.reduceAdd, Int.reduceSub, Int.reduceToNat, ↓reduceIte, one_ne_zero_, zero_ne_one_, px_in32L, cd_181, cd_170, cd_180, hkv, hlv]
  repeat' (first | (with_reducible apply And.intro) | (with_reducible refine px_br_intro (fun _ => ?_) (fun _ => ?_)))
  all_goals (try (first | (unfold px_in32; omega) | omega))
  · rename_i c1 c2
    exact h0 (fun y => by have := (hfin (by omega)).mp y; omega)
  · rename_i c1 c2
    refine h1 ((hfin (by omega)).mpr ?_)
    rcases hb2 with z | z
    · omega
    · exact z.2.2 (by omega)
  · rename_i c1 c2 c3 c4
    exact h0 (fun y => ((hgo (by omega)).mp y).2.1 ⟨hs1.mpr c3, by omega⟩)
  · rename_i c1 c2 c3 c4 c5
    exact h0 (hlast (by omega) (hs1.mpr c3))
  · rename_i c1 c2 c3 c4 c5 c6
    refine h0 (fun y => ((hgo (by omega)).mp y).2.1 ⟨hs1.mpr c3, ?_⟩)
    rcases hb2 with z | z
    · omega
    · rw [z.2.1]; exact hp1.mpr c6
  · rename_i c1 c2 c3 c4 c5 c6
    refine hnext (by omega) (fun z => hs0.mp z (Or.inl c3)) (fun z => c6 ?_) (fun e => by omega)
    rcases hb2 with y | y
    · omega
    · rw [y.2.1] at z; exact hp1.mp z.2
  · rename_i c1 c2 c3
    exact h0 (fun y => ((hgo (by omega)).mp y).1 (hs0.mpr (by omega)))
  · rename_i c1 c2 c3 c4
    exact h0 (fun y => ((hgo (by omega)).mp y).1 (hs0.mpr (by omega)))
  · rename_i c1 c2 c3
    exact hnext (by omega) (fun z => hs0.mp z (Or.inr (by omega))) (fun z => by have := hs1.mp z.1; omega) (fun _ z => by have := hs1.mp z; omega)
set_option maxHeartbeats 600000 in
set_option maxRecDepth 100000 in
theorem sp_isPath {v : Int} (hkv : px_kd LAY v = 0) (hlv : px_ln LAY v = 13) (hn : 0 ≤ M v 0 ∧ M v 0 ≤ 12) (h1 : isP (rp M v) → Q (some (0, 1)) M) (h0 : ¬ isP (rp M v) → Q (some (0, 0)) M) : px_Ok 181 [(2, v)] LAY M Q := by
  refine px_ok_go (inl := []) (ls0 := [(2, v), (9, 0)]) 60 (by decide) (Nat.le_of_ble_eq_true rfl) rfl ?_
  simp only [px_go, px_Q0_at, px_sx_0, px_sx_s, px_cl, px_step, ↓px_ll, px_lg, f4_, ↓px_r1, ↓px_r2, ↓px_r4, ↓px_r5, ↓px_p1, ↓px_p2, ↓px_p3, ↓px_pop, px_k_0, px_k_s, px_k3_0, px_stk_, px_cats, px_ent, px_st1, px_st2, px_mask, ↓px_tsw, ↓px_lsw, ct_, mls_0, mls_1, mls_2, mls_3, mls_4, mls_5, kd_0, kd_1, kd_2, kd_3, ln_0, ln_1, ln_2, ln_3, gf_0, gf_1, gf_2, gf_3, gf_4, gf_7, gf_21, gf_63, dy_0, dy_1, dy_2, dy_3, dy_7, dy_21, px_brT, px_brF, true_and, and_true, and_false, false_and, and_self, true_implies, false_implies, or_true, true_or, or_false, false_or, eq_self, ne_eq, not_false_eq_true, not_true_eq_false, if_true, if_false, List.mem_cons, List.not_mem_nil, List.length_cons, List.length_nil, Nat.reduceEqDiff, Nat.reduceAdd, Nat.reduceSub, Nat.reduceLeDiff, Nat.reduceLT, Int.reduceEq, Int.reduceLT, Int.reduceLE, Int.reduceNeg, Int.reduceAdd, Int.reduceSub, Int.reduceToNat, ↓reduceIte, one_ne_zero_, zero_ne_one_, px_in32L, cd_181]
  repeat' (first | (with_reducible apply And.intro) | (with_reducible refine px_br_intro (fun _ => ?_) (fun _ => ?_)))
  all_goals (try (first | (unfold px_in32; omega) | omega))
  exact lp_isPath hkv hlv hn h1 h0 1 (by omega) (Int.le_refl 1) 1 (by rw [show ((1 : Int) - 1).toNat = 0 from rfl, List.drop_zero]; exact Iff.rfl) (Or.inl ⟨rfl, rfl⟩)
set_option maxHeartbeats 600000 in
set_option maxRecDepth 100000 in
theorem lp_copiesPath {M0 : px_mem} {v a w b : Int} (hkv : px_kd LAY v = 0) (hkw : px_kd LAY w = 0) (ha : 0 ≤ a ∧ a + 13 ≤ px_ln LAY v) (hb : 0 ≤ b ∧ b + 13 ≤ px_ln LAY w) (hln : px_ln LAY v < 10000 ∧ px_ln LAY w < 10000) (hdis : v ≠ w ∨ a + 13 ≤ b ∨ b + 13 ≤ a) (h : ∀ M', (∀ x, M' w x = if b ≤ x ∧ x < b + 13 then M0 v (a + (x - b)) else M0 w x) → (∀ c, c ≠ w → M' c = M0 c) → Q none M') (k : Int) (hk_k : k ≤ 13) : ∀ (M : px_mem), 0 ≤ k → (∀ x, M w x = if b ≤ x ∧ x < b + k then M0 v (a + (x - b)) else M0 w x) → (∀ c, c ≠ w → M c = M0 c) → px_WP 185 0 0 (px_Q0 LAY Q) 3 [(2, v), (0, a), (2, w), (0, b), (0, k)] [] LAY M 0 0 := by
  refine up_ind (P := fun k => ∀ (M : px_mem), 0 ≤ k → (∀ x, M w x = if b ≤ x ∧ x < b + k then M0 v (a + (x - b)) else M0 w x) → (∀ c, c ≠ w → M c = M0 c) → px_WP 185 0 0 (px_Q0 LAY Q) 3 [(2, v), (0, a), (2, w), (0, b), (0, k)] [] LAY M 0 0) (13) (fun k hk_k ih => ?_) k hk_k
  intro M k0 hv hf
  refine px_go_ok (inl := []) 60 ?_
  simp only [px_go, px_Q0_at, px_sx_0, px_sx_s, px_cl, px_step, ↓px_ll, px_lg, f4_, ↓px_r1, ↓px_r2, ↓px_r4, ↓px_r5, ↓px_p1, ↓px_p2, ↓px_p3, ↓px_pop, px_k_0, px_k_s, px_k3_0, px_stk_, px_cats, px_ent, px_st1, px_st2, px_mask, ↓px_tsw, ↓px_lsw, ct_, mls_0, mls_1, mls_2, mls_3, mls_4, mls_5, kd_0, kd_1, kd_2, kd_3, ln_0, ln_1, ln_2, ln_3, gf_0, gf_1, gf_2, gf_3, gf_4, gf_7, gf_21, gf_63, dy_0, dy_1, dy_2, dy_3, dy_7, dy_21, px_brT, px_brF, true_and, and_true, and_false, false_and, and_self, true_implies, false_implies, or_true, true_or, or_false, false_or, eq_self, ne_eq, not_false_eq_true, not_true_eq_false, if_true, if_false, List.mem_cons, List.not_mem_nil, List.length_cons, List.length_nil, Nat.reduceEqDiff, Nat.reduceAdd, Nat.reduceSub, Nat.reduceLeDiff, Nat.reduceLT, Int.reduceEq, Int.reduceLT, Int.reduceLE, Int.reduceNeg, Int.reduceAdd, Int.reduceSub, Int.reduceToNat, ↓reduceIte, one_ne_zero_, zero_ne_one_, px_in32L, cd_185, hkv, hkw]
  repeat' (first | (with_reducible apply And.intro) | (with_reducible refine px_br_intro (fun _ => ?_) (fun _ => ?_)))
  all_goals (try (first | (unfold px_in32; omega) | omega))
  · rename_i c1
    rw [show k = 13 by omega] at hv
    exact h M hv hf
  · rename_i c1
    refine ih (by omega) _ (by omega) (fun x => ?_) (fun c c0 => by rw [row_ne c0]; exact hf c c0)
    have hsrc : M v (a + k) = M0 v (a + k) := by
      by_cases q : v = w
      · rw [q, hv, if_neg (by omega)]
      · rw [hf v q]
    rw [px_up_at, hsrc, hv x]
    by_cases q : x = b + k
    · rw [if_pos ⟨rfl, q⟩, if_pos (by omega), show a + (x - b) = a + k by omega]
    · rw [if_neg (fun z => q z.2)]
      by_cases r : b ≤ x ∧ x < b + k
      · rw [if_pos r, if_pos (by omega)]
      · rw [if_neg r, if_neg (by omega)]
set_option maxHeartbeats 600000 in
set_option maxRecDepth 100000 in
theorem sp_copiesPath {v a w b : Int} (hkv : px_kd LAY v = 0) (hkw : px_kd LAY w = 0) (ha : 0 ≤ a ∧ a + 13 ≤ px_ln LAY v) (hb : 0 ≤ b ∧ b + 13 ≤ px_ln LAY w) (hln : px_ln LAY v < 10000 ∧ px_ln LAY w < 10000) (hdis : v ≠ w ∨ a + 13 ≤ b ∨ b + 13 ≤ a) (h : ∀ M', (∀ x, M' w x = if b ≤ x ∧ x < b + 13 then M v (a + (x - b)) else M w x) → (∀ c, c ≠ w → M' c = M c) → Q none M') : px_Ok 185 [(2, v), (0, a), (2, w), (0, b)] LAY M Q := by
  refine px_ok_go (inl := []) (ls0 := [(2, v), (0, a), (2, w), (0, b), (9, 0)]) 60 (by decide) (Nat.le_of_ble_eq_true rfl) rfl ?_
  simp only [px_go, px_Q0_at, px_sx_0, px_sx_s, px_cl, px_step, ↓px_ll, px_lg, f4_, ↓px_r1, ↓px_r2, ↓px_r4, ↓px_r5, ↓px_p1, ↓px_p2, ↓px_p3, ↓px_pop, px_k_0, px_k_s, px_k3_0, px_stk_, px_cats, px_ent, px_st1, px_st2, px_mask, ↓px_tsw, ↓px_lsw, ct_, mls_0, mls_1, mls_2, mls_3, mls_4, mls_5, kd_0, kd_1, kd_2, kd_3, ln_0, ln_1, ln_2, ln_3, gf_0, gf_1, gf_2, gf_3, gf_4, gf_7, gf_21, gf_63, dy_0, dy_1, dy_2, dy_3, dy_7, dy_21, px_brT, px_brF, true_and, and_true, and_false, false_and, and_self, true_implies, false_implies, or_true, true_or, or_false, false_or, eq_self, ne_eq, not_false_eq_true, not_true_eq_false, if_true, if_false, List.mem_cons, List.not_mem_nil, List.length_cons, List.length_nil, Nat.reduceEqDiff, Nat.reduceAdd, Nat.reduceSub, Nat.reduceLeDiff, Nat.reduceLT, Int.reduceEq, Int.reduceLT, Int.reduceLE, Int.reduceNeg, Int.reduceAdd, Int.reduceSub, Int.reduceToNat, ↓reduceIte, one_ne_zero_, zero_ne_one_, px_in32L, cd_185]
  repeat' (first | (with_reducible apply And.intro) | (with_reducible refine px_br_intro (fun _ => ?_) (fun _ => ?_)))
  all_goals (try (first | (unfold px_in32; omega) | omega))
  exact lp_copiesPath (M0 := M) hkv hkw ha hb hln hdis h 0 (by decide) M (Int.le_refl 0) (fun x => by rw [if_neg (by omega)]) (fun _ _ => rfl)
set_option maxHeartbeats 600000 in
set_option maxRecDepth 100000 in
theorem lp_rmark {v s n : Int} (hkv : px_kd LAY v = 0) (hs : 0 ≤ s) (hl : s + n ≤ px_ln LAY v) (hln : px_ln LAY v < 10000) (hb : ∀ j, 0 ≤ j → j < n → 0 ≤ M v (s + j) ∧ M v (s + j) < 256) (h : Q (some (0, mk (fun j => M v (s + j)) n)) M) (k : Int) (hk_k : k ≤ n) : 0 ≤ k → px_WP 186 0 0 (px_Q0 LAY Q) 6 [(2, v), (0, s), (0, n), (0, mk (fun j => M v (s + j)) k), (0, k)] [] LAY M 0 0 := by
  refine up_ind (P := fun k => 0 ≤ k → px_WP 186 0 0 (px_Q0 LAY Q) 6 [(2, v), (0, s), (0, n), (0, mk (fun j => M v (s + j)) k), (0, k)] [] LAY M 0 0) (n) (fun k hk_k ih => ?_) k hk_k
  intros
  have hr := mk_rng (fun j => M v (s + j)) k
  have hss := @mk_s (fun j => M v (s + j)) k
  refine px_go_ok (inl := []) 60 ?_
  simp only [px_go, px_Q0_at, px_sx_0, px_sx_s, px_cl, px_step, ↓px_ll, px_lg, f4_, ↓px_r1, ↓px_r2, ↓px_r4, ↓px_r5, ↓px_p1, ↓px_p2, ↓px_p3, ↓px_pop, px_k_0, px_k_s, px_k3_0, px_stk_, px_cats, px_ent, px_st1, px_st2, px_mask, ↓px_tsw, ↓px_lsw, ct_, mls_0, mls_1, mls_2, mls_3, mls_4, mls_5, kd_0, kd_1, kd_2, kd_3, ln_0, ln_1, ln_2, ln_3, gf_0, gf_1, gf_2, gf_3, gf_4, gf_7, gf_21, gf_63, dy_0, dy_1, dy_2, dy_3, dy_7, dy_21, px_brT, px_brF, true_and, and_true, and_false, false_and, and_self, true_implies, false_implies, or_true, true_or, or_false, false_or, eq_self, ne_eq, not_false_eq_true, not_true_eq_false, if_true, if_false, List.mem_cons, List.not_mem_nil, List.length_cons, List.length_nil, Nat.reduceEqDiff, Nat.reduceAdd, Nat.reduceSub, Nat.reduceLeDiff, Nat.reduceLT, Int.reduceEq, Int.reduceLT, Int.reduceLE, Int.reduceNeg, Int.reduceAdd, Int.reduceSub, Int.reduceToNat, ↓reduceIte, one_ne_zero_, zero_ne_one_, px_in32L, cd_186, hkv]
  repeat' (first | (with_reducible apply And.intro) | (with_reducible refine px_br_intro (fun _ => ?_) (fun _ => ?_)))
  all_goals (try (unfold px_in32))
  all_goals grind -mbtc  (splits := 20) []
set_option maxHeartbeats 600000 in
set_option maxRecDepth 100000 in
theorem sp_rmark {v s n : Int} (hkv : px_kd LAY v = 0) (hs : 0 ≤ s) (h0 : 0 ≤ n) (hl : s + n ≤ px_ln LAY v) (hln : px_ln LAY v < 10000) (hb : ∀ j, 0 ≤ j → j < n → 0 ≤ M v (s + j) ∧ M v (s + j) < 256) (h : Q (some (0, mk (fun j => M v (s + j)) n)) M) : px_Ok 186 [(2, v), (0, s), (0, n)] LAY M Q := by
  refine px_ok_go (inl := []) (ls0 := [(2, v), (0, s), (0, n), (9, 0), (9, 0)]) 60 (by decide) (Nat.le_of_ble_eq_true rfl) rfl ?_
  simp only [px_go, px_Q0_at, px_sx_0, px_sx_s, px_cl, px_step, ↓px_ll, px_lg, f4_, ↓px_r1, ↓px_r2, ↓px_r4, ↓px_r5, ↓px_p1, ↓px_p2, ↓px_p3, ↓px_pop, px_k_0, px_k_s, px_k3_0, px_stk_, px_cats, px_ent, px_st1, px_st2, px_mask, ↓px_tsw, ↓px_lsw, ct_, mls_0, mls_1, mls_2, mls_3, mls_4, mls_5, kd_0, kd_1, kd_2, kd_3, ln_0, ln_1, ln_2, ln_3, gf_0, gf_1, gf_2, gf_3, gf_4, gf_7, gf_21, gf_63, dy_0, dy_1, dy_2, dy_3, dy_7, dy_21, px_brT, px_brF, true_and, and_true, and_false, false_and, and_self, true_implies, false_implies, or_true, true_or, or_false, false_or, eq_self, ne_eq, not_false_eq_true, not_true_eq_false, if_true, if_false, List.mem_cons, List.not_mem_nil, List.length_cons, List.length_nil, Nat.reduceEqDiff, Nat.reduceAdd, Nat.reduceSub, Nat.reduceLeDiff, Nat.reduceLT, Int.reduceEq, Int.reduceLT, Int.reduceLE, Int.reduceNeg, Int.reduceAdd, Int.reduceSub, Int.reduceToNat, ↓reduceIte, one_ne_zero_, zero_ne_one_, px_in32L, cd_186]
  repeat' (first | (with_reducible apply And.intro) | (with_reducible refine px_br_intro (fun _ => ?_) (fun _ => ?_)))
  all_goals (try (first | (unfold px_in32; omega) | omega))
  exact lp_rmark hkv hs hl hln hb h 0 h0 (Int.le_refl 0)
set_option maxHeartbeats 600000 in
set_option maxRecDepth 100000 in
theorem lp_beside {M0 : px_mem} (h : ∀ M', (∀ x, 0 ≤ x → x < 3154 → M' 129 x = M0 128 x) → (∀ c, c ≠ 129 → M' c = M0 c) → Q none M') (k : Int) (hk_k : k ≤ 3154) : ∀ (M : px_mem), 0 ≤ k → (∀ x, 0 ≤ x → x < k → M 129 x = M0 128 x) → (∀ c, c ≠ 129 → M c = M0 c) → px_WP 175 0 0 (px_Q0 LAY Q) 2 [(2, 127), (0, k)] [] LAY M 0 0 := by
  refine up_ind (P := fun k => ∀ (M : px_mem), 0 ≤ k → (∀ x, 0 ≤ x → x < k → M 129 x = M0 128 x) → (∀ c, c ≠ 129 → M c = M0 c) → px_WP 175 0 0 (px_Q0 LAY Q) 2 [(2, 127), (0, k)] [] LAY M 0 0) (3154) (fun k hk_k ih => ?_) k hk_k
  intro M k0 hv hf
  refine px_go_ok (inl := []) 60 ?_
  simp only [px_go, px_Q0_at, px_sx_0, px_sx_s, px_cl, px_step, ↓px_ll, px_lg, f4_, ↓px_r1, ↓px_r2, ↓px_r4, ↓px_r5, ↓px_p1, ↓px_p2, ↓px_p3, ↓px_pop, px_k_0, px_k_s, px_k3_0, px_stk_, px_cats, px_ent, px_st1, px_st2, px_mask, ↓px_tsw, ↓px_lsw, ct_, mls_0, mls_1, mls_2, mls_3, mls_4, mls_5, kd_0, kd_1, kd_2, kd_3, ln_0, ln_1, ln_2, ln_3, gf_0, gf_1, gf_2, gf_3, gf_4, gf_7, gf_21, gf_63, dy_0, dy_1, dy_2, dy_3, dy_7, dy_21, px_brT, px_brF, true_and, and_true, and_false, false_and, and_self, true_implies, false_implies, or_true, true_or, or_false, false_or, eq_self, ne_eq, not_false_eq_true, not_true_eq_false, if_true, if_false, List.mem_cons, List.not_mem_nil, List.length_cons, List.length_nil, Nat.reduceEqDiff, Nat.reduceAdd, Nat.reduceSub, Nat.reduceLeDiff, Nat.reduceLT, Int.reduceEq, Int.reduceLT, Int.reduceLE, Int.reduceNeg, Int.reduceAdd, Int.reduceSub, Int.reduceToNat, ↓reduceIte, one_ne_zero_, zero_ne_one_, px_in32L, cd_175]
  repeat' (first | (with_reducible apply And.intro) | (with_reducible refine px_br_intro (fun _ => ?_) (fun _ => ?_)))
  all_goals (try (first | (unfold px_in32; omega) | omega))
  · rename_i c1
    exact h M (fun x x0 x1 => hv x x0 (by omega)) hf
  · rename_i c1
    refine ih (by omega) _ (by omega) (fun x x0 x1 => ?_) (fun c c0 => by rw [row_ne c0]; exact hf c c0)
    rw [px_up_at, hf 128 (by decide)]
    by_cases q : x = k
    · rw [if_pos ⟨rfl, q⟩, q]
    · rw [if_neg (fun z => q z.2)]; exact hv x x0 (by omega)
set_option maxHeartbeats 600000 in
set_option maxRecDepth 100000 in
theorem sp_beside (h : ∀ M', (∀ x, 0 ≤ x → x < 3154 → M' 129 x = M 128 x) → (∀ c, c ≠ 129 → M' c = M c) → Q none M') : px_Ok 175 [(2, 127)] LAY M Q := by
  refine px_ok_go (inl := []) (ls0 := [(2, 127), (9, 0)]) 60 (by decide) (Nat.le_of_ble_eq_true rfl) rfl ?_
  simp only [px_go, px_Q0_at, px_sx_0, px_sx_s, px_cl, px_step, ↓px_ll, px_lg, f4_, ↓px_r1, ↓px_r2, ↓px_r4, ↓px_r5, ↓px_p1, ↓px_p2, ↓px_p3, ↓px_pop, px_k_0, px_k_s, px_k3_0, px_stk_, px_cats, px_ent, px_st1, px_st2, px_mask, ↓px_tsw, ↓px_lsw, ct_, mls_0, mls_1, mls_2, mls_3, mls_4, mls_5, kd_0, kd_1, kd_2, kd_3, ln_0, ln_1, ln_2, ln_3, gf_0, gf_1, gf_2, gf_3, gf_4, gf_7, gf_21, gf_63, dy_0, dy_1, dy_2, dy_3, dy_7, dy_21, px_brT, px_brF, true_and, and_true, and_false, false_and, and_self, true_implies, false_implies, or_true, true_or, or_false, false_or, eq_self, ne_eq, not_false_eq_true, not_true_eq_false, if_true, if_false, List.mem_cons, List.not_mem_nil, List.length_cons, List.length_nil, Nat.reduceEqDiff, Nat.reduceAdd, Nat.reduceSub, Nat.reduceLeDiff, Nat.reduceLT, Int.reduceEq, Int.reduceLT, Int.reduceLE, Int.reduceNeg, Int.reduceAdd, Int.reduceSub, Int.reduceToNat, ↓reduceIte, one_ne_zero_, zero_ne_one_, px_in32L, cd_175]
  repeat' (first | (with_reducible apply And.intro) | (with_reducible refine px_br_intro (fun _ => ?_) (fun _ => ?_)))
  all_goals (try (first | (unfold px_in32; omega) | omega))
  exact lp_beside (M0 := M) h 0 (by decide) M (Int.le_refl 0) (fun x x0 x1 => by omega) (fun _ _ => rfl)
set_option maxHeartbeats 600000 in
set_option maxRecDepth 100000 in
theorem lp_back {M0 : px_mem} (h : ∀ M', (∀ x, 0 ≤ x → x < 3154 → M' 128 x = M0 129 x) → (∀ c, c ≠ 128 → M' c = M0 c) → Q none M') (k : Int) (hk_k : k ≤ 3154) : ∀ (M : px_mem), 0 ≤ k → (∀ x, 0 ≤ x → x < k → M 128 x = M0 129 x) → (∀ c, c ≠ 128 → M c = M0 c) → px_WP 176 0 0 (px_Q0 LAY Q) 2 [(2, 127), (0, k)] [] LAY M 0 0 := by
  refine up_ind (P := fun k => ∀ (M : px_mem), 0 ≤ k → (∀ x, 0 ≤ x → x < k → M 128 x = M0 129 x) → (∀ c, c ≠ 128 → M c = M0 c) → px_WP 176 0 0 (px_Q0 LAY Q) 2 [(2, 127), (0, k)] [] LAY M 0 0) (3154) (fun k hk_k ih => ?_) k hk_k
  intro M k0 hv hf
  refine px_go_ok (inl := []) 60 ?_
  simp only [px_go, px_Q0_at, px_sx_0, px_sx_s, px_cl, px_step, ↓px_ll, px_lg, f4_, ↓px_r1, ↓px_r2, ↓px_r4, ↓px_r5, ↓px_p1, ↓px_p2, ↓px_p3, ↓px_pop, px_k_0, px_k_s, px_k3_0, px_stk_, px_cats, px_ent, px_st1, px_st2, px_mask, ↓px_tsw, ↓px_lsw, ct_, mls_0, mls_1, mls_2, mls_3, mls_4, mls_5, kd_0, kd_1, kd_2, kd_3, ln_0, ln_1, ln_2, ln_3, gf_0, gf_1, gf_2, gf_3, gf_4, gf_7, gf_21, gf_63, dy_0, dy_1, dy_2, dy_3, dy_7, dy_21, px_brT, px_brF, true_and, and_true, and_false, false_and, and_self, true_implies, false_implies, or_true, true_or, or_false, false_or, eq_self, ne_eq, not_false_eq_true, not_true_eq_false, if_true, if_false, List.mem_cons, List.not_mem_nil, List.length_cons, List.length_nil, Nat.reduceEqDiff, Nat.reduceAdd, Nat.reduceSub, Nat.reduceLeDiff, Nat.reduceLT, Int.reduceEq, Int.reduceLT, Int.reduceLE, Int.reduceNeg, Int.reduceAdd, Int.reduceSub, Int.reduceToNat, ↓reduceIte, one_ne_zero_, zero_ne_one_, px_in32L, cd_176]
  repeat' (first | (with_reducible apply And.intro) | (with_reducible refine px_br_intro (fun _ => ?_) (fun _ => ?_)))
  all_goals (try (first | (unfold px_in32; omega) | omega))
  · rename_i c1
    exact h M (fun x x0 x1 => hv x x0 (by omega)) hf
  · rename_i c1
    refine ih (by omega) _ (by omega) (fun x x0 x1 => ?_) (fun c c0 => by rw [row_ne c0]; exact hf c c0)
    rw [px_up_at, hf 129 (by decide)]
    by_cases q : x = k
    · rw [if_pos ⟨rfl, q⟩, q]
    · rw [if_neg (fun z => q z.2)]; exact hv x x0 (by omega)
set_option maxHeartbeats 600000 in
set_option maxRecDepth 100000 in
theorem sp_back (h : ∀ M', (∀ x, 0 ≤ x → x < 3154 → M' 128 x = M 129 x) → (∀ c, c ≠ 128 → M' c = M c) → Q none M') : px_Ok 176 [(2, 127)] LAY M Q := by
  refine px_ok_go (inl := []) (ls0 := [(2, 127), (9, 0)]) 60 (by decide) (Nat.le_of_ble_eq_true rfl) rfl ?_
  simp only [px_go, px_Q0_at, px_sx_0, px_sx_s, px_cl, px_step, ↓px_ll, px_lg, f4_, ↓px_r1, ↓px_r2, ↓px_r4, ↓px_r5, ↓px_p1, ↓px_p2, ↓px_p3, ↓px_pop, px_k_0, px_k_s, px_k3_0, px_stk_, px_cats, px_ent, px_st1, px_st2, px_mask, ↓px_tsw, ↓px_lsw, ct_, mls_0, mls_1, mls_2, mls_3, mls_4, mls_5, kd_0, kd_1, kd_2, kd_3, ln_0, ln_1, ln_2, ln_3, gf_0, gf_1, gf_2, gf_3, gf_4, gf_7, gf_21, gf_63, dy_0, dy_1, dy_2, dy_3, dy_7, dy_21, px_brT, px_brF, true_and, and_true, and_false, false_and, and_self, true_implies, false_implies, or_true, true_or, or_false, false_or, eq_self, ne_eq, not_false_eq_true, not_true_eq_false, if_true, if_false, List.mem_cons, List.not_mem_nil, List.length_cons, List.length_nil, Nat.reduceEqDiff, Nat.reduceAdd, Nat.reduceSub, Nat.reduceLeDiff, Nat.reduceLT, Int.reduceEq, Int.reduceLT, Int.reduceLE, Int.reduceNeg, Int.reduceAdd, Int.reduceSub, Int.reduceToNat, ↓reduceIte, one_ne_zero_, zero_ne_one_, px_in32L, cd_176]
  repeat' (first | (with_reducible apply And.intro) | (with_reducible refine px_br_intro (fun _ => ?_) (fun _ => ?_)))
  all_goals (try (first | (unfold px_in32; omega) | omega))
  exact lp_back (M0 := M) h 0 (by decide) M (Int.le_refl 0) (fun x x0 x1 => by omega) (fun _ _ => rfl)
end PS
