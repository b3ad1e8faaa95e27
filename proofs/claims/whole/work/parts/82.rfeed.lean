set_option maxRecDepth 100000 in
/-- X12_sizeOf -/
theorem cd_174 : px_at 174 0 = some (1, [], .iconst 0, []) ∧ px_at 174 1 = some (2, [], .istore_n 1, []) ∧ px_at 174 2 = some (3, [], .iload_n 0, []) ∧ px_at 174 3 = some (4, [], .istore_n 2, []) ∧ px_at 174 4 = some (5, [0, 1, 1], .iload_n 2, []) ∧ px_at 174 5 = some (8, [], .ifCond .eq 16, [21]) ∧ px_at 174 8 = some (9, [], .iload_n 1, []) ∧ px_at 174 9 = some (10, [], .iconst 1, []) ∧ px_at 174 10 = some (11, [], .iadd, []) ∧ px_at 174 11 = some (12, [], .istore_n 1, []) ∧ px_at 174 12 = some (13, [], .iload_n 2, []) ∧ px_at 174 13 = some (14, [], .iload_n 2, []) ∧ px_at 174 14 = some (15, [], .iconst 1, []) ∧ px_at 174 15 = some (16, [], .isub, []) ∧ px_at 174 16 = some (17, [], .iand, []) ∧ px_at 174 17 = some (18, [], .istore_n 2, []) ∧ px_at 174 18 = some (21, [], .goto (-14), [4]) ∧ px_at 174 21 = some (22, [], .iload_n 1, []) ∧ px_at 174 22 = some (23, [], .ireturn, [0]) := ⟨rfl, rfl, rfl, rfl, rfl, rfl, rfl, rfl, rfl, rfl, rfl, rfl, rfl, rfl, rfl, rfl, rfl, rfl, rfl⟩
set_option maxRecDepth 100000 in
/-- X12_types -/
theorem cd_177 : px_at 177 0 = some (1, [], .iconst 3, []) ∧ px_at 177 1 = some (2, [], .istore_n 2, []) ∧ px_at 177 2 = some (3, [1, 1, 1], .iload_n 2, []) ∧ px_at 177 3 = some (6, [], .ifCond .lt 35, [38]) ∧ px_at 177 6 = some (7, [], .aload_n 0, []) ∧ px_at 177 7 = some (10, [], .getfield 16, [11, 2, 2, 1, 127]) ∧ px_at 177 10 = some (11, [], .aload_n 0, []) ∧ px_at 177 11 = some (14, [], .getfield 84, [11, 3, 0, 0, 128]) ∧ px_at 177 14 = some (15, [], .iload_n 1, []) ∧ px_at 177 15 = some (17, [], .bipush 8, []) ∧ px_at 177 17 = some (18, [], .iload_n 2, []) ∧ px_at 177 18 = some (19, [], .imul, []) ∧ px_at 177 19 = some (20, [], .ishr, []) ∧ px_at 177 20 = some (21, [], .i2b, []) ∧ px_at 177 21 = some (22, [], .bastore, []) ∧ px_at 177 22 = some (23, [], .aload_n 0, []) ∧ px_at 177 23 = some (24, [], .aload_n 0, []) ∧ px_at 177 24 = some (27, [], .getfield 84, [11, 3, 0, 0, 128]) ∧ px_at 177 27 = some (28, [], .iconst 1, []) ∧ px_at 177 28 = some (29, [], .iadd, []) ∧ px_at 177 29 = some (32, [], .putfield 84, [11, 3, 0, 0, 128]) ∧ px_at 177 32 = some (35, [], .iinc 2 (-1), []) ∧ px_at 177 35 = some (38, [], .goto (-33), [2]) ∧ px_at 177 38 = some (39, [], .return_, []) := ⟨rfl, rfl, rfl, rfl, rfl, rfl, rfl, rfl, rfl, rfl, rfl, rfl, rfl, rfl, rfl, rfl, rfl, rfl, rfl, rfl, rfl, rfl, rfl, rfl⟩
set_option maxRecDepth 100000 in
/-- X12_feed -/
theorem cd_178 : px_at 178 0 = some (1, [], .aload_n 0, []) ∧ px_at 178 1 = some (4, [], .getfield 84, [11, 3, 0, 0, 128]) ∧ px_at 178 4 = some (6, [], .bipush 20, []) ∧ px_at 178 6 = some (7, [], .iadd, []) ∧ px_at 178 7 = some (10, [], .sipush 160, []) ∧ px_at 178 10 = some (13, [], .if_icmp .le 5, [15]) ∧ px_at 178 13 = some (14, [], .iconst (-1), []) ∧ px_at 178 14 = some (15, [], .ireturn, [0]) ∧ px_at 178 15 = some (16, [], .aload_n 0, []) ∧ px_at 178 16 = some (17, [], .iload_n 1, []) ∧ px_at 178 17 = some (20, [], .invokevirtual 88, [177, 1, 11, 220]) ∧ px_at 178 20 = some (21, [], .aload_n 0, []) ∧ px_at 178 21 = some (22, [], .iload_n 2, []) ∧ px_at 178 22 = some (25, [], .invokevirtual 88, [177, 1, 11, 220]) ∧ px_at 178 25 = some (26, [], .aload_n 0, []) ∧ px_at 178 26 = some (27, [], .iload_n 3, []) ∧ px_at 178 27 = some (30, [], .invokevirtual 88, [177, 1, 11, 220]) ∧ px_at 178 30 = some (31, [], .aload_n 0, []) ∧ px_at 178 31 = some (33, [], .iload 4, []) ∧ px_at 178 33 = some (36, [], .invokevirtual 88, [177, 1, 11, 220]) ∧ px_at 178 36 = some (37, [], .aload_n 0, []) ∧ px_at 178 37 = some (39, [], .iload 5, []) ∧ px_at 178 39 = some (42, [], .invokevirtual 88, [177, 1, 11, 220]) ∧ px_at 178 42 = some (43, [], .aload_n 0, []) ∧ px_at 178 43 = some (46, [], .getfield 84, [11, 3, 0, 0, 128]) ∧ px_at 178 46 = some (47, [], .ireturn, [0]) := ⟨rfl, rfl, rfl, rfl, rfl, rfl, rfl, rfl, rfl, rfl, rfl, rfl, rfl, rfl, rfl, rfl, rfl, rfl, rfl, rfl, rfl, rfl, rfl, rfl, rfl, rfl⟩
set_option maxRecDepth 100000 in
/-- X12_partOf -/
theorem cd_187 : px_at 187 0 = some (1, [], .aload_n 0, []) ∧ px_at 187 1 = some (4, [], .getfield 7, [11, 0, 2, 1, 125]) ∧ px_at 187 4 = some (7, [], .sipush 654, []) ∧ px_at 187 7 = some (9, [], .bipush 6, []) ∧ px_at 187 9 = some (10, [], .iload_n 1, []) ∧ px_at 187 10 = some (11, [], .imul, []) ∧ px_at 187 11 = some (12, [], .iadd, []) ∧ px_at 187 12 = some (13, [], .iload_n 2, []) ∧ px_at 187 13 = some (14, [], .iadd, []) ∧ px_at 187 14 = some (15, [], .iaload, []) ∧ px_at 187 15 = some (16, [], .ireturn, [0]) := ⟨rfl, rfl, rfl, rfl, rfl, rfl, rfl, rfl, rfl, rfl, rfl⟩
set_option maxRecDepth 100000 in
/-- X12_sets -/
theorem cd_188 : px_at 188 0 = some (1, [], .aload_n 0, []) ∧ px_at 188 1 = some (4, [], .getfield 7, [11, 0, 2, 1, 125]) ∧ px_at 188 4 = some (7, [], .sipush 654, []) ∧ px_at 188 7 = some (9, [], .bipush 6, []) ∧ px_at 188 9 = some (10, [], .iload_n 1, []) ∧ px_at 188 10 = some (11, [], .imul, []) ∧ px_at 188 11 = some (12, [], .iadd, []) ∧ px_at 188 12 = some (13, [], .iload_n 2, []) ∧ px_at 188 13 = some (14, [], .iadd, []) ∧ px_at 188 14 = some (15, [], .iload_n 3, []) ∧ px_at 188 15 = some (16, [], .iastore, []) ∧ px_at 188 16 = some (17, [], .return_, []) := ⟨rfl, rfl, rfl, rfl, rfl, rfl, rfl, rfl, rfl, rfl, rfl, rfl⟩
/-! the reference: feed, sizes of sets, contents by parts -/
/-- the byte that goes onto the reference's tape -/
def tb (v j : Int) : Int := px_i2b (px_ishr v (8 * (3 - j)))
theorem tb_byt {v j : Int} (hv : px_in32 v) (j0 : 0 ≤ j) (j1 : j < 4) : (-128 ≤ tb v j ∧ tb v j < 128) ∧ tb v j % 256 = byt v j := by
  have h := i2b_255 (px_ishr v (8 * (3 - j)))
  rw [and_255] at h
  refine ⟨h.2, ?_⟩
  unfold tb
  rw [h.1, ishr_eq (by omega) (by omega) hv]
  unfold byt
  rcases (by omega : j = 0 ∨ j = 1 ∨ j = 2 ∨ j = 3) with e | e | e | e <;> subst e <;> simp
section PS
variable {M : px_mem} {Q : Option pv → px_mem → Prop}
set_option maxHeartbeats 600000 in
set_option maxRecDepth 100000 in
theorem lp_types {M0 : px_mem} {v s : Int} (h0 : 0 ≤ s ∧ s + 4 ≤ 160) (h : ∀ M', M' 127 3 = s + 4 → (∀ x, M' 130 x = if s ≤ x ∧ x < s + 4 then tb v (x - s) else M0 130 x) → (∀ j, j ≠ 3 → M' 127 j = M0 127 j) → (∀ b, b ≠ 127 → b ≠ 130 → M' b = M0 b) → Q none M') (k : Int) (hk_k : -1 ≤ k) : ∀ (M : px_mem), k ≤ 3 → M 127 3 = s + (3 - k) → (∀ x, M 130 x = if s ≤ x ∧ x < s + (3 - k) then tb v (x - s) else M0 130 x) → (∀ j, j ≠ 3 → M 127 j = M0 127 j) → (∀ b, b ≠ 127 → b ≠ 130 → M b = M0 b) → px_WP 177 0 0 (px_Q0 LAY Q) 2 [(2, 127), (0, v), (0, k)] [] LAY M 0 0 := by
  refine dn_ind (P := fun k => ∀ (M : px_mem), k ≤ 3 → M 127 3 = s + (3 - k) → (∀ x, M 130 x = if s ≤ x ∧ x < s + (3 - k) then tb v (x - s) else M0 130 x) → (∀ j, j ≠ 3 → M 127 j = M0 127 j) → (∀ b, b ≠ 127 → b ≠ 130 → M b = M0 b) → px_WP 177 0 0 (px_Q0 LAY Q) 2 [(2, 127), (0, v), (0, k)] [] LAY M 0 0) (-1) (fun k hk_k ih => ?_) k hk_k
  intro M k3 hs ht hj hf
  have hr := (i2b_255 (px_ishr v (8 * k))).2
  refine px_go_ok (inl := []) 60 ?_
  simp only [px_go, px_Q0_at, px_sx_0, px_sx_s, px_cl, px_step, ↓px_ll, px_lg, f4_, ↓px_r1, ↓px_r2, ↓px_r4, ↓px_r5, ↓px_p1, ↓px_p2, ↓px_p3, ↓px_pop, px_k_0, px_k_s, px_k3_0, px_stk_, px_cats, px_ent, px_st1, px_st2, px_mask, ↓px_tsw, ↓px_lsw, ct_, mls_0, mls_1, mls_2, mls_3, mls_4, mls_5, kd_0, kd_1, kd_2, kd_3, ln_0, ln_1, ln_2, ln_3, gf_0, gf_1, gf_2, gf_3, gf_4, gf_7, gf_21, gf_63, dy_0, dy_1, dy_2, dy_3, dy_7, dy_21, px_brT, px_brF, true_and, and_true, and_false, false_and, and_self, true_implies, false_implies, or_true, true_or, or_false, false_or, eq_self, ne_eq, not_false_eq_true, not_true_eq_false, if_true, if_false, List.mem_cons, List.not_mem_nil, List.length_cons, List.length_nil, Nat.reduceEqDiff, Nat.reduceAdd, Nat.reduceSub, Nat.reduceLeDiff, Nat.reduceLT, Int.reduceEq, Int.reduceLT, Int.reduceLE, Int.reduceNeg, Int.reduceAdd, Int.reduceSub, Int.reduceToNat, ↓reduceIte, one_ne_zero_, zero_ne_one_, px_in32L, cd_177, px_up_at, hs]
  repeat' (first | (with_reducible apply And.intro) | (with_reducible refine px_br_intro (fun _ => ?_) (fun _ => ?_)))
  all_goals (try (first | (unfold px_in32; omega) | omega))
  · rename_i c1
    have e : k = -1 := by omega
    subst e
    exact h M hs ht hj hf
  · rename_i c1
    rw [show k + -1 = k - 1 by omega]
    refine ih (by omega) _ (by omega) ?_ (fun x => ?_) (fun j j0 => ?_) (fun b b0 b1 => by rw [row_ne b0, row_ne b1]; exact hf b b0 b1)
    · rw [px_up_at, if_pos ⟨rfl, rfl⟩]; omega
    · rw [row_ne (by decide), px_up_at]
      by_cases q : x = s + (3 - k)
      · rw [if_pos ⟨rfl, q⟩, if_pos (by omega)]
        unfold tb
        rw [show 3 - (x - s) = k by omega]
      · rw [if_neg (fun z => q z.2), ht x]
        by_cases r : s ≤ x ∧ x < s + (3 - k)
        · rw [if_pos r, if_pos (by omega)]
        · rw [if_neg r, if_neg (by omega)]
    · rw [px_up_at, if_neg (fun z => j0 z.2), row_ne (by decide)]; exact hj j j0
set_option maxHeartbeats 600000 in
set_option maxRecDepth 100000 in
theorem sp_types {v : Int} (h0 : 0 ≤ M 127 3 ∧ M 127 3 + 4 ≤ 160) (h : ∀ M', M' 127 3 = M 127 3 + 4 → (∀ x, M' 130 x = if M 127 3 ≤ x ∧ x < M 127 3 + 4 then tb v (x - M 127 3) else M 130 x) → (∀ j, j ≠ 3 → M' 127 j = M 127 j) → (∀ b, b ≠ 127 → b ≠ 130 → M' b = M b) → Q none M') : px_Ok 177 [(2, 127), (0, v)] LAY M Q := by
  refine px_ok_go (inl := []) (ls0 := [(2, 127), (0, v), (9, 0)]) 60 (by decide) (Nat.le_of_ble_eq_true rfl) rfl ?_
  simp only [px_go, px_Q0_at, px_sx_0, px_sx_s, px_cl, px_step, ↓px_ll, px_lg, f4_, ↓px_r1, ↓px_r2, ↓px_r4, ↓px_r5, ↓px_p1, ↓px_p2, ↓px_p3, ↓px_pop, px_k_0, px_k_s, px_k3_0, px_stk_, px_cats, px_ent, px_st1, px_st2, px_mask, ↓px_tsw, ↓px_lsw, ct_, mls_0, mls_1, mls_2, mls_3, mls_4, mls_5, kd_0, kd_1, kd_2, kd_3, ln_0, ln_1, ln_2, ln_3, gf_0, gf_1, gf_2, gf_3, gf_4, gf_7, gf_21, gf_63, dy_0, dy_1, dy_2, dy_3, dy_7, dy_21, px_brT, px_brF, true_and, and_true, and_false, false_and, and_self, true_implies, false_implies, or_true, true_or, or_false, false_or, eq_self, ne_eq, not_false_eq_true, not_true_eq_false, if_true, if_false, List.mem_cons, List.not_mem_nil, List.length_cons, List.length_nil, Nat.reduceEqDiff, Nat.reduceAdd, Nat.reduceSub, Nat.reduceLeDiff, Nat.reduceLT, Int.reduceEq, Int.reduceLT, Int.reduceLE, Int.reduceNeg, Int.reduceAdd, Int.reduceSub, Int.reduceToNat, ↓reduceIte, one_ne_zero_, zero_ne_one_, px_in32L, cd_177]
  repeat' (first | (with_reducible apply And.intro) | (with_reducible refine px_br_intro (fun _ => ?_) (fun _ => ?_)))
  all_goals (try (first | (unfold px_in32; omega) | omega))
  exact lp_types (M0 := M) h0 h 3 (by decide) M (Int.le_refl 3) (by omega) (fun x => by rw [if_neg (by omega)]) (fun _ _ => rfl) (fun _ _ _ => rfl)
def tb5 (a b c d e k : Int) : Int := tb (if k < 4 then a else if k < 8 then b else if k < 12 then c else if k < 16 then d else e) (k % 4)
set_option maxHeartbeats 600000 in
set_option maxRecDepth 100000 in
theorem sp_rfeed {a b c d e : Int} (ht : 0 ≤ M 127 3 ∧ M 127 3 ≤ 160) (h0 : ¬ M 127 3 + 20 ≤ 160 → Q (some (0, -1)) M) (h : ∀ M', M 127 3 + 20 ≤ 160 → M' 127 3 = M 127 3 + 20 → (∀ k, M' 130 k = if M 127 3 ≤ k ∧ k < M 127 3 + 20 then tb5 a b c d e (k - M 127 3) else M 130 k) → (∀ j, j ≠ 3 → M' 127 j = M 127 j) → (∀ b, b ≠ 127 → b ≠ 130 → M' b = M b) → Q (some (0, M 127 3 + 20)) M') : px_Ok 178 [(2, 127), (0, a), (0, b), (0, c), (0, d), (0, e)] LAY M Q := by
  refine px_ok_go (inl := []) (ls0 := [(2, 127), (0, a), (0, b), (0, c), (0, d), (0, e)]) 60 (by decide) (Nat.le_of_ble_eq_true rfl) rfl ?_
  simp only [px_go, px_Q0_at, px_sx_0, px_sx_s, px_cl, px_step, ↓px_ll, px_lg, f4_, ↓px_r1, ↓px_r2, ↓px_r4, ↓px_r5, ↓px_p1, ↓px_p2, ↓px_p3, ↓px_pop, px_k_0, px_k_s, px_k3_0, px_stk_, px_cats, px_ent, px_st1, px_st2, px_mask, ↓px_tsw, ↓px_lsw, ct_, mls_0, mls_1, mls_2, mls_3, mls_4, mls_5, kd_0, kd_1, kd_2, kd_3, ln_0, ln_1, ln_2, ln_3, gf_0, gf_1, gf_2, gf_3, gf_4, gf_7, gf_21, gf_63, dy_0, dy_1, dy_2, dy_3, dy_7, dy_21, px_brT, px_brF, true_and, and_true, and_false, false_and, and_self, true_implies, false_implies, or_true, true_or, or_false, false_or, eq_self, ne_eq, not_false_eq_true, not_true_eq_false, if_true, if_false, List.mem_cons, List.not_mem_nil, List.length_cons, List.length_nil, Nat.reduceEqDiff, Nat.reduceAdd, Nat.reduceSub, Nat.reduceLeDiff, Nat.reduceLT, Int.reduceEq, Int.reduceLT, Int.reduceLE, Int.reduceNeg, Int.reduceAdd, Int.reduceSub, Int.reduceToNat, ↓reduceIte, one_ne_zero_, zero_ne_one_, px_in32L, cd_178]
  repeat' (first | (with_reducible apply And.intro) | (with_reducible refine px_br_intro (fun _ => ?_) (fun _ => ?_)))
  all_goals (try (first | (unfold px_in32; omega) | omega))
  · rename_i c1
    refine sp_types ⟨ht.1, by omega⟩ (fun M1 a1 b1 g1 f1 => ?_)
    simp only [px_go, px_Q0_at, px_sx_0, px_sx_s, px_cl, px_step, ↓px_ll, px_lg, f4_, ↓px_r1, ↓px_r2, ↓px_r4, ↓px_r5, ↓px_p1, ↓px_p2, ↓px_p3, ↓px_pop, px_k_0, px_k_s, px_k3_0, px_stk_, px_cats, px_ent, px_st1, px_st2, px_mask, ↓px_tsw, ↓px_lsw, ct_, mls_0, mls_1, mls_2, mls_3, mls_4, mls_5, kd_0, kd_1, kd_2, kd_3, ln_0, ln_1, ln_2, ln_3, gf_0, gf_1, gf_2, gf_3, gf_4, gf_7, gf_21, gf_63, dy_0, dy_1, dy_2, dy_3, dy_7, dy_21, px_brT, px_brF, true_and, and_true, and_false, false_and, and_self, true_implies, false_implies, or_true, true_or, or_false, false_or, eq_self, ne_eq, not_false_eq_true, not_true_eq_false, if_true, if_false, List.mem_cons, List.not_mem_nil, List.length_cons, List.length_nil, Nat.reduceEqDiff, Nat.reduceAdd, Nat.reduceSub, Nat.reduceLeDiff, Nat.reduceLT, Int.reduceEq, Int.reduceLT, Int.reduceLE, Int.reduceNeg, Int.reduceAdd, Int.reduceSub, Int.reduceToNat, ↓reduceIte, one_ne_zero_, zero_ne_one_, px_in32L, cd_178]
    refine sp_types (by omega) (fun M2 a2 b2 g2 f2 => ?_)
    simp only [px_go, px_Q0_at, px_sx_0, px_sx_s, px_cl, px_step, ↓px_ll, px_lg, f4_, ↓px_r1, ↓px_r2, ↓px_r4, ↓px_r5, ↓px_p1, ↓px_p2, ↓px_p3, ↓px_pop, px_k_0, px_k_s, px_k3_0, px_stk_, px_cats, px_ent, px_st1, px_st2, px_mask, ↓px_tsw, ↓px_lsw, ct_, mls_0, mls_1, mls_2, mls_3, mls_4, mls_5, kd_0, kd_1, kd_2, kd_3, ln_0, ln_1, ln_2, ln_3, gf_0, gf_1, gf_2, gf_3, gf_4, gf_7, gf_21, gf_63, dy_0, dy_1, dy_2, dy_3, dy_7, dy_21, px_brT, px_brF, true_and, and_true, and_false, false_and, and_self, true_implies, false_implies, or_true, true_or, or_false, false_or, eq_self, ne_eq, not_false_eq_true, not_true_eq_false, if_true, if_false, List.mem_cons, List.not_mem_nil, List.length_cons, List.length_nil, Nat.reduceEqDiff, Nat.reduceAdd, Nat.reduceSub, Nat.reduceLeDiff, Nat.reduceLT, Int.reduceEq, Int.reduceLT, Int.reduceLE, Int.reduceNeg, Int.reduceAdd, Int.reduceSub, Int.reduceToNat, ↓reduceIte, one_ne_zero_, zero_ne_one_, px_in32L, cd_178]
    refine sp_types (by omega) (fun M3 a3 b3 g3 f3 => ?_)
    simp only [px_go, px_Q0_at, px_sx_0, px_sx_s, px_cl, px_step, ↓px_ll, px_lg, f4_, ↓px_r1, ↓px_r2, ↓px_r4, ↓px_r5, ↓px_p1, ↓px_p2, ↓px_p3, ↓px_pop, px_k_0, px_k_s, px_k3_0, px_stk_, px_cats, px_ent, px_st1, px_st2, px_mask, ↓px_tsw, ↓px_lsw, ct_, mls_0, mls_1, mls_2, mls_3, mls_4, mls_5, kd_0, kd_1, kd_2, kd_3, ln_0, ln_1, ln_2, ln_3, gf_0, gf_1, gf_2, gf_3, gf_4, gf_7, gf_21, gf_63, dy_0, dy_1, dy_2, dy_3, dy_7, dy_21, px_brT, px_brF, true_and, and_true, and_false, false_and, and_self, true_implies, false_implies, or_true, true_or, or_false, false_or, eq_self, ne_eq, not_false_eq_true, not_true_eq_false, if_true, if_false, List.mem_cons, List.not_mem_nil, List.length_cons, List.length_nil, Nat.reduceEqDiff, Nat.reduceAdd, Nat.reduceSub, Nat.reduceLeDiff, Nat.reduceLT, Int.reduceEq, Int.reduceLT, Int.reduceLE, Int.reduceNeg, Int.reduceAdd, Int.reduceSub, Int.reduceToNat, ↓reduceIte, one_ne_zero_, zero_ne_one_, px_in32L, cd_178]
    refine sp_types (by omega) (fun M4 a4 b4 g4 f4 => ?_)
    simp only [px_go, px_Q0_at, px_sx_0, px_sx_s, px_cl, px_step, ↓px_ll, px_lg, f4_, ↓px_r1, ↓px_r2, ↓px_r4, ↓px_r5, ↓px_p1, ↓px_p2, ↓px_p3, ↓px_pop, px_k_0, px_k_s, px_k3_0, px_stk_, px_cats, px_ent, px_st1, px_st2, px_mask, ↓px_tsw, ↓px_lsw, ct_, mls_0, mls_1, mls_2, mls_3, mls_4, mls_5, kd_0, kd_1, kd_2, kd_3, ln_0, ln_1, ln_2, ln_3, gf_0, gf_1, gf_2, gf_3, gf_4, gf_7, gf_21, gf_63, dy_0, dy_1, dy_2, dy_3, dy_7, dy_21, px_brT, px_brF, true_and, and_true, and_false, false_and, and_self, true_implies, false_implies, or_true, true_or, or_false, false_or, eq_self, ne_eq, not_false_eq_true, not_true_eq_false, if_true, if_false, List.mem_cons, List.not_mem_nil, List.length_cons, List.length_nil, Nat.reduceEqDiff, Nat.reduceAdd, Nat.reduceSub, Nat.reduceLeDiff, Nat.reduceLT, Int.reduceEq, Int.reduceLT, Int.reduceLE, Int.reduceNeg, Int.reduceAdd, Int.reduceSub, Int.reduceToNat, ↓reduceIte, one_ne_zero_, zero_ne_one_, px_in32L, cd_178]
    refine sp_types (by omega) (fun M5 a5 b5 g5 f5 => ?_)
    simp only [px_go, px_Q0_at, px_sx_0, px_sx_s, px_cl, px_step, ↓px_ll, px_lg, f4_, ↓px_r1, ↓px_r2, ↓px_r4, ↓px_r5, ↓px_p1, ↓px_p2, ↓px_p3, ↓px_pop, px_k_0, px_k_s, px_k3_0, px_stk_, px_cats, px_ent, px_st1, px_st2, px_mask, ↓px_tsw, ↓px_lsw, ct_, mls_0, mls_1, mls_2, mls_3, mls_4, mls_5, kd_0, kd_1, kd_2, kd_3, ln_0, ln_1, ln_2, ln_3, gf_0, gf_1, gf_2, gf_3, gf_4, gf_7, gf_21, gf_63, dy_0, dy_1, dy_2, dy_3, dy_7, dy_21, px_brT, px_brF, true_and, and_true, and_false, false_and, and_self, true_implies, false_implies, or_true, true_or, or_false, false_or, eq_self, ne_eq, not_false_eq_true, not_true_eq_false, if_true, if_false, List.mem_cons, List.not_mem_nil, List.length_cons, List.length_nil, Nat.reduceEqDiff, Nat.reduceAdd, Nat.reduceSub, Nat.reduceLeDiff, Nat.reduceLT, Int.reduceEq, Int.reduceLT, Int.reduceLE, Int.reduceNeg, Int.reduceAdd, Int.reduceSub, Int.reduceToNat, ↓reduceIte, one_ne_zero_, zero_ne_one_, px_in32L, cd_178]
    rw [show M5 127 3 = M 127 3 + 20 by omega]
    refine h M5 c1 (by omega) (fun k => ?_) (fun j j0 => by rw [g5 j j0, g4 j j0, g3 j j0, g2 j j0, g1 j j0]) (fun b q1 q2 => by rw [f5 b q1 q2, f4 b q1 q2, f3 b q1 q2, f2 b q1 q2, f1 b q1 q2])
    rw [b5 k, b4 k, b3 k, b2 k, b1 k, a4, a3, a2, a1]
    generalize M 127 3 = s at *
    have hb : ∀ (v j j' : Int), (j = j') → tb v j = tb v j' := fun v j j' e => by rw [e]
    unfold tb5
    by_cases q : s ≤ k ∧ k < s + 20
    · rw [if_pos q]
      rcases (by omega : k - s < 4 ∨ (4 ≤ k - s ∧ k - s < 8) ∨ (8 ≤ k - s ∧ k - s < 12) ∨ (12 ≤ k - s ∧ k - s < 16) ∨ 16 ≤ k - s) with r | r | r | r | r
      · rw [if_neg (by omega), if_neg (by omega), if_neg (by omega), if_neg (by omega), if_pos (by omega), if_pos r]
        exact hb _ _ _ (by omega)
      · rw [if_neg (by omega), if_neg (by omega), if_neg (by omega), if_pos (by omega), if_neg (by omega), if_pos (by omega)]
        exact hb _ _ _ (by omega)
      · rw [if_neg (by omega), if_neg (by omega), if_pos (by omega), if_neg (by omega), if_neg (by omega), if_pos (by omega)]
        exact hb _ _ _ (by omega)
      · rw [if_neg (by omega), if_pos (by omega), if_neg (by omega), if_neg (by omega), if_neg (by omega), if_pos (by omega)]
        exact hb _ _ _ (by omega)
      · rw [if_pos (by omega), if_neg (by omega), if_neg (by omega), if_neg (by omega), if_neg (by omega)]
        exact hb _ _ _ (by omega)
    · rw [if_neg (by omega), if_neg (by omega), if_neg (by omega), if_neg (by omega), if_neg (by omega), if_neg q]
  · rename_i c1
    exact h0 c1
set_option maxRecDepth 100000 in
theorem pc_key : ∀ n : Nat, n < 1024 → n ≠ 0 → 0 ≤ px_iand (n : Int) ((n : Int) - 1) ∧ px_iand (n : Int) ((n : Int) - 1) < n ∧ (pcN 10 n : Int) = 1 + (pcN 10 (px_iand (n : Int) ((n : Int) - 1)).toNat : Int) := by decide +kernel
set_option maxHeartbeats 4000000 in
set_option maxRecDepth 100000 in
theorem lp_sizeOf {r : Int} (h : Q (some (0, r)) M) : ∀ (m : Nat) (s n : Int), 0 ≤ s → s < 1024 → s ≤ m → 0 ≤ n → n + pcI s = r → r ≤ 10 → px_WP 174 0 0 (px_Q0 LAY Q) 4 [(9, 0), (0, n), (0, s)] [] LAY M 0 0 := by
  intro m
  induction m with
  | zero =>
    intro s n s0 s1 s2 n0 hr hr2
    have e : s = 0 := by omega
    subst e
    have e2 : pcI 0 = 0 := rfl
    refine px_go_ok (inl := []) 60 ?_
    simp only [px_go, px_Q0_at, px_sx_0, px_sx_s, px_cl, px_step, ↓px_ll, px_lg, f4_, ↓px_r1, ↓px_r2, ↓px_r4, ↓px_r5, ↓px_p1, ↓px_p2, ↓px_p3, ↓px_pop, px_k_0, px_k_s, px_k3_0, px_stk_, px_cats, px_ent, px_st1, px_st2, px_mask, ↓px_tsw, ↓px_lsw, ct_, mls_0, mls_1, mls_2, mls_3, mls_4, mls_5, kd_0, kd_1, kd_2, kd_3, ln_0, ln_1, ln_2, ln_3, gf_0, gf_1, gf_2, gf_3, gf_4, gf_7, gf_21, gf_63, dy_0, dy_1, dy_2, dy_3, dy_7, dy_21, px_brT, px_brF, true_and, and_true, and_false, false_and, and_self, true_implies, false_implies, or_true, true_or, or_false, false_or, eq_self, ne_eq, not_false_eq_true, not_true_eq_false, if_true, if_false, List.mem_cons, List.not_mem_nil, List.length_cons, List.length_nil, Nat.reduceEqDiff, Nat.reduceAdd, Nat.reduceSub, Nat.reduceLeDiff, Nat.reduceLT, Int.reduceEq, Int.reduceLT, Int.reduceLE, Int.reduceNeg, Int.reduceAdd, Int.reduceSub, Int.reduceToNat, ↓reduceIte, one_ne_zero_, zero_ne_one_, px_in32L, cd_174]
    rw [show n = r by omega]; exact h
  | succ m ih =>
    intro s n s0 s1 s2 n0 hr hr2
    refine px_go_ok (inl := []) 60 ?_
    simp only [px_go, px_Q0_at, px_sx_0, px_sx_s, px_cl, px_step, ↓px_ll, px_lg, f4_, ↓px_r1, ↓px_r2, ↓px_r4, ↓px_r5, ↓px_p1, ↓px_p2, ↓px_p3, ↓px_pop, px_k_0, px_k_s, px_k3_0, px_stk_, px_cats, px_ent, px_st1, px_st2, px_mask, ↓px_tsw, ↓px_lsw, ct_, mls_0, mls_1, mls_2, mls_3, mls_4, mls_5, kd_0, kd_1, kd_2, kd_3, ln_0, ln_1, ln_2, ln_3, gf_0, gf_1, gf_2, gf_3, gf_4, gf_7, gf_21, gf_63, dy_0, dy_1, dy_2, dy_3, dy_7, dy_21, px_brT, px_brF, true_and, and_true, and_false, false_and, and_self, true_implies, false_implies, or_true, true_or, or_false, false_or, eq_self, ne_eq, not_false_eq_true, not_true_eq_false, if_true, if_false, List.mem_cons, List.not_mem_nil, List.length_cons, List.length_nil, Nat.reduceEqDiff, Nat.reduceAdd, Nat.reduceSub, Nat.reduceLeDiff, Nat.reduceLT, Int.reduceEq, Int.reduceLT, Int.reduceLE, Int.reduceNeg, Int.reduceAdd, Int.reduceSub, Int.reduceToNat, ↓reduceIte, one_ne_zero_, zero_ne_one_, px_in32L, cd_174]
    repeat' (first | (with_reducible apply And.intro) | (with_reducible refine px_br_intro (fun _ => ?_) (fun _ => ?_)))
    all_goals (try (first | (unfold px_in32; omega) | omega))
    · rename_i c1
      subst c1
      have e2 : pcI 0 = 0 := rfl
      rw [show n = r by omega]; exact h
    · rename_i c1
      have hp := pcI_rng s
      unfold px_in32
      have k := pc_key s.toNat (by omega) (by omega)
      rw [Int.toNat_of_nonneg s0] at k
      have kp : pcI s = 1 + pcI (px_iand s (s - 1)) := k.2.2
      have := pcI_rng (px_iand s (s - 1))
      omega
    · rename_i c1
      have k := pc_key s.toNat (by omega) (by omega)
      rw [Int.toNat_of_nonneg s0] at k
      have kp : pcI s = 1 + pcI (px_iand s (s - 1)) := k.2.2
      exact ih _ (n + 1) k.1 (by omega) (by omega) (by omega) (by omega) hr2
set_option maxHeartbeats 600000 in
set_option maxRecDepth 100000 in
theorem sp_sizeOf {s : Int} (hs : 0 ≤ s ∧ s < 1024) (h : Q (some (0, pcI s)) M) : px_Ok 174 [(0, s)] LAY M Q := by
  refine px_ok_go (inl := []) (ls0 := [(0, s), (9, 0), (9, 0)]) 60 (by decide) (Nat.le_of_ble_eq_true rfl) rfl ?_
  simp only [px_go, px_Q0_at, px_sx_0, px_sx_s, px_cl, px_step, ↓px_ll, px_lg, f4_, ↓px_r1, ↓px_r2, ↓px_r4, ↓px_r5, ↓px_p1, ↓px_p2, ↓px_p3, ↓px_pop, px_k_0, px_k_s, px_k3_0, px_stk_, px_cats, px_ent, px_st1, px_st2, px_mask, ↓px_tsw, ↓px_lsw, ct_, mls_0, mls_1, mls_2, mls_3, mls_4, mls_5, kd_0, kd_1, kd_2, kd_3, ln_0, ln_1, ln_2, ln_3, gf_0, gf_1, gf_2, gf_3, gf_4, gf_7, gf_21, gf_63, dy_0, dy_1, dy_2, dy_3, dy_7, dy_21, px_brT, px_brF, true_and, and_true, and_false, false_and, and_self, true_implies, false_implies, or_true, true_or, or_false, false_or, eq_self, ne_eq, not_false_eq_true, not_true_eq_false, if_true, if_false, List.mem_cons, List.not_mem_nil, List.length_cons, List.length_nil, Nat.reduceEqDiff, Nat.reduceAdd, Nat.reduceSub, Nat.reduceLeDiff, Nat.reduceLT, Int.reduceEq, Int.reduceLT, Int.reduceLE, Int.reduceNeg, Int.reduceAdd, Int.reduceSub, Int.reduceToNat, ↓reduceIte, one_ne_zero_, zero_ne_one_, px_in32L, cd_174]
  repeat' (first | (with_reducible apply And.intro) | (with_reducible refine px_br_intro (fun _ => ?_) (fun _ => ?_)))
  all_goals (try (first | (unfold px_in32; omega) | omega))
  exact lp_sizeOf h s.toNat s 0 hs.1 hs.2 (by omega) (Int.le_refl 0) (by omega) (pcI_rng s).2
/-- contents, as the reference keeps them -/
def rC (F : Int → Int) (c p : Int) : Int := F (654 + 6 * c + p)
set_option maxHeartbeats 600000 in
set_option maxRecDepth 100000 in
theorem sp_partOf {c p : Int} (hc : 0 ≤ c ∧ c < 40) (hp : 0 ≤ p ∧ p < 6) (h : Q (some (0, rC (M 128) c p)) M) : px_Ok 187 [(2, 127), (0, c), (0, p)] LAY M Q := by
  refine px_ok_go (inl := []) (ls0 := [(2, 127), (0, c), (0, p)]) 60 (by decide) (Nat.le_of_ble_eq_true rfl) rfl ?_
  simp only [px_go, px_Q0_at, px_sx_0, px_sx_s, px_cl, px_step, ↓px_ll, px_lg, f4_, ↓px_r1, ↓px_r2, ↓px_r4, ↓px_r5, ↓px_p1, ↓px_p2, ↓px_p3, ↓px_pop, px_k_0, px_k_s, px_k3_0, px_stk_, px_cats, px_ent, px_st1, px_st2, px_mask, ↓px_tsw, ↓px_lsw, ct_, mls_0, mls_1, mls_2, mls_3, mls_4, mls_5, kd_0, kd_1, kd_2, kd_3, ln_0, ln_1, ln_2, ln_3, gf_0, gf_1, gf_2, gf_3, gf_4, gf_7, gf_21, gf_63, dy_0, dy_1, dy_2, dy_3, dy_7, dy_21, px_brT, px_brF, true_and, and_true, and_false, false_and, and_self, true_implies, false_implies, or_true, true_or, or_false, false_or, eq_self, ne_eq, not_false_eq_true, not_true_eq_false, if_true, if_false, List.mem_cons, List.not_mem_nil, List.length_cons, List.length_nil, Nat.reduceEqDiff, Nat.reduceAdd, Nat.reduceSub, Nat.reduceLeDiff, Nat.reduceLT, Int.reduceEq, Int.reduceLT, Int.reduceLE, Int.reduceNeg, Int.reduceAdd, Int.reduceSub, Int.reduceToNat, ↓reduceIte, one_ne_zero_, zero_ne_one_, px_in32L, cd_187]
  repeat' (first | (with_reducible apply And.intro) | (with_reducible refine px_br_intro (fun _ => ?_) (fun _ => ?_)))
  all_goals (try (first | (unfold px_in32; omega) | omega))
  all_goals exact h
set_option maxHeartbeats 600000 in
set_option maxRecDepth 100000 in
theorem sp_sets {c p v : Int} (hc : 0 ≤ c ∧ c < 40) (hp : 0 ≤ p ∧ p < 6) (h : Q none (px_up M 128 (654 + 6 * c + p) v)) : px_Ok 188 [(2, 127), (0, c), (0, p), (0, v)] LAY M Q := by
  refine px_ok_go (inl := []) (ls0 := [(2, 127), (0, c), (0, p), (0, v)]) 60 (by decide) (Nat.le_of_ble_eq_true rfl) rfl ?_
  simp only [px_go, px_Q0_at, px_sx_0, px_sx_s, px_cl, px_step, ↓px_ll, px_lg, f4_, ↓px_r1, ↓px_r2, ↓px_r4, ↓px_r5, ↓px_p1, ↓px_p2, ↓px_p3, ↓px_pop, px_k_0, px_k_s, px_k3_0, px_stk_, px_cats, px_ent, px_st1, px_st2, px_mask, ↓px_tsw, ↓px_lsw, ct_, mls_0, mls_1, mls_2, mls_3, mls_4, mls_5, kd_0, kd_1, kd_2, kd_3, ln_0, ln_1, ln_2, ln_3, gf_0, gf_1, gf_2, gf_3, gf_4, gf_7, gf_21, gf_63, dy_0, dy_1, dy_2, dy_3, dy_7, dy_21, px_brT, px_brF, true_and, and_true, and_false, false_and, and_self, true_implies, false_implies, or_true, true_or, or_false, false_or, eq_self, ne_eq, not_false_eq_true, not_true_eq_false, if_true, if_false, List.mem_cons, List.not_mem_nil, List.length_cons, List.length_nil, Nat.reduceEqDiff, Nat.reduceAdd, Nat.reduceSub, Nat.reduceLeDiff, Nat.reduceLT, Int.reduceEq, Int.reduceLT, Int.reduceLE, Int.reduceNeg, Int.reduceAdd, Int.reduceSub, Int.reduceToNat, ↓reduceIte, one_ne_zero_, zero_ne_one_, px_in32L, cd_188]
  repeat' (first | (with_reducible apply And.intro) | (with_reducible refine px_br_intro (fun _ => ?_) (fun _ => ?_)))
  all_goals (try (first | (unfold px_in32; omega) | omega))
  all_goals exact h
end PS
