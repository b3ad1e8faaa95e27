set_option maxRecDepth 100000 in
/-- X12_rowOf -/
theorem cd_204 : px_at 204 0 = some (3, [], .sipush 1294, []) ∧ px_at 204 3 = some (6, [], .sipush 186, []) ∧ px_at 204 6 = some (7, [], .iload_n 1, []) ∧ px_at 204 7 = some (8, [], .imul, []) ∧ px_at 204 8 = some (9, [], .iadd, []) ∧ px_at 204 9 = some (10, [], .ireturn, [0]) := ⟨rfl, rfl, rfl, rfl, rfl, rfl⟩
set_option maxRecDepth 100000 in
/-- X12_entryOf -/
theorem cd_205 : px_at 205 0 = some (1, [], .aload_n 0, []) ∧ px_at 205 1 = some (2, [], .iload_n 1, []) ∧ px_at 205 2 = some (5, [], .invokevirtual 174, [204, 1, 11, 251]) ∧ px_at 205 5 = some (7, [], .bipush 18, []) ∧ px_at 205 7 = some (8, [], .iadd, []) ∧ px_at 205 8 = some (10, [], .bipush 14, []) ∧ px_at 205 10 = some (11, [], .iload_n 2, []) ∧ px_at 205 11 = some (12, [], .imul, []) ∧ px_at 205 12 = some (13, [], .iadd, []) ∧ px_at 205 13 = some (14, [], .ireturn, [0]) := ⟨rfl, rfl, rfl, rfl, rfl, rfl, rfl, rfl, rfl, rfl⟩
set_option maxRecDepth 100000 in
/-- X12_listMany -/
theorem cd_206 : px_at 206 0 = some (1, [], .aload_n 0, []) ∧ px_at 206 1 = some (4, [], .getfield 7, [11, 0, 2, 1, 125]) ∧ px_at 206 4 = some (5, [], .aload_n 0, []) ∧ px_at 206 5 = some (6, [], .iload_n 1, []) ∧ px_at 206 6 = some (9, [], .invokevirtual 174, [204, 1, 11, 251]) ∧ px_at 206 9 = some (11, [], .bipush 17, []) ∧ px_at 206 11 = some (12, [], .iadd, []) ∧ px_at 206 12 = some (13, [], .iaload, []) ∧ px_at 206 13 = some (14, [], .ireturn, [0]) := ⟨rfl, rfl, rfl, rfl, rfl, rfl, rfl, rfl, rfl⟩
set_option maxRecDepth 100000 in
/-- X12_contentOf -/
theorem cd_207 : px_at 207 0 = some (1, [], .aload_n 0, []) ∧ px_at 207 1 = some (4, [], .getfield 7, [11, 0, 2, 1, 125]) ∧ px_at 207 4 = some (5, [], .aload_n 0, []) ∧ px_at 207 5 = some (6, [], .iload_n 1, []) ∧ px_at 207 6 = some (7, [], .iload_n 2, []) ∧ px_at 207 7 = some (10, [], .invokevirtual 177, [205, 2, 11, 254]) ∧ px_at 207 10 = some (12, [], .bipush 13, []) ∧ px_at 207 12 = some (13, [], .iadd, []) ∧ px_at 207 13 = some (14, [], .iaload, []) ∧ px_at 207 14 = some (15, [], .ireturn, [0]) := ⟨rfl, rfl, rfl, rfl, rfl, rfl, rfl, rfl, rfl, rfl⟩
set_option maxRecDepth 100000 in
/-- X12_slotOf -/
theorem cd_208 : px_at 208 0 = some (1, [], .iconst 0, []) ∧ px_at 208 1 = some (2, [], .istore_n 2, []) ∧ px_at 208 2 = some (3, [1, 1, 1], .iload_n 2, []) ∧ px_at 208 3 = some (4, [], .aload_n 0, []) ∧ px_at 208 4 = some (7, [], .getfield 7, [11, 0, 2, 1, 125]) ∧ px_at 208 7 = some (8, [], .iconst 5, []) ∧ px_at 208 8 = some (9, [], .iaload, []) ∧ px_at 208 9 = some (12, [], .if_icmp .ge 27, [36]) ∧ px_at 208 12 = some (13, [], .aload_n 0, []) ∧ px_at 208 13 = some (16, [], .getfield 7, [11, 0, 2, 1, 125]) ∧ px_at 208 16 = some (17, [], .aload_n 0, []) ∧ px_at 208 17 = some (18, [], .iload_n 2, []) ∧ px_at 208 18 = some (21, [], .invokevirtual 174, [204, 1, 11, 251]) ∧ px_at 208 21 = some (22, [], .iconst 0, []) ∧ px_at 208 22 = some (23, [], .iadd, []) ∧ px_at 208 23 = some (24, [], .iaload, []) ∧ px_at 208 24 = some (25, [], .iload_n 1, []) ∧ px_at 208 25 = some (28, [], .if_icmp .ne 5, [30]) ∧ px_at 208 28 = some (29, [], .iload_n 2, []) ∧ px_at 208 29 = some (30, [], .ireturn, [0]) ∧ px_at 208 30 = some (33, [], .iinc 2 1, []) ∧ px_at 208 33 = some (36, [], .goto (-31), [2]) ∧ px_at 208 36 = some (37, [], .iconst (-1), []) ∧ px_at 208 37 = some (38, [], .ireturn, [0]) := ⟨rfl, rfl, rfl, rfl, rfl, rfl, rfl, rfl, rfl, rfl, rfl, rfl, rfl, rfl, rfl, rfl, rfl, rfl, rfl, rfl, rfl, rfl, rfl, rfl⟩
set_option maxRecDepth 100000 in
/-- X12_placeIn -/
theorem cd_209 : px_at 209 0 = some (1, [], .iconst 0, []) ∧ px_at 209 1 = some (3, [], .istore 4, []) ∧ px_at 209 3 = some (5, [1, 1, 1, 1, 1], .iload 4, []) ∧ px_at 209 5 = some (6, [], .aload_n 0, []) ∧ px_at 209 6 = some (7, [], .iload_n 1, []) ∧ px_at 209 7 = some (10, [], .invokevirtual 180, [206, 1, 11, 253]) ∧ px_at 209 10 = some (13, [], .if_icmp .ge 31, [41]) ∧ px_at 209 13 = some (14, [], .aload_n 0, []) ∧ px_at 209 14 = some (17, [], .getfield 7, [11, 0, 2, 1, 125]) ∧ px_at 209 17 = some (18, [], .aload_n 0, []) ∧ px_at 209 18 = some (19, [], .iload_n 1, []) ∧ px_at 209 19 = some (21, [], .iload 4, []) ∧ px_at 209 21 = some (24, [], .invokevirtual 177, [205, 2, 11, 254]) ∧ px_at 209 24 = some (25, [], .aload_n 2, []) ∧ px_at 209 25 = some (26, [], .iload_n 3, []) ∧ px_at 209 26 = some (29, [], .invokestatic 183, [182, 4, 11, 230]) ∧ px_at 209 29 = some (32, [], .ifCond .ne 6, [35]) ∧ px_at 209 32 = some (34, [], .iload 4, []) ∧ px_at 209 34 = some (35, [], .ireturn, [0]) ∧ px_at 209 35 = some (38, [], .iinc 4 1, []) ∧ px_at 209 38 = some (41, [], .goto (-35), [3]) ∧ px_at 209 41 = some (43, [], .bipush (-2), []) ∧ px_at 209 43 = some (44, [], .ireturn, [0]) := ⟨rfl, rfl, rfl, rfl, rfl, rfl, rfl, rfl, rfl, rfl, rfl, rfl, rfl, rfl, rfl, rfl, rfl, rfl, rfl, rfl, rfl, rfl, rfl⟩
set_option maxRecDepth 100000 in
/-- X12_isListed -/
theorem cd_210 : px_at 210 0 = some (1, [], .iconst 0, []) ∧ px_at 210 1 = some (2, [], .istore_n 2, []) ∧ px_at 210 2 = some (3, [1, 1, 1, 0], .iload_n 2, []) ∧ px_at 210 3 = some (4, [], .aload_n 0, []) ∧ px_at 210 4 = some (7, [], .getfield 7, [11, 0, 2, 1, 125]) ∧ px_at 210 7 = some (8, [], .iconst 5, []) ∧ px_at 210 8 = some (9, [], .iaload, []) ∧ px_at 210 9 = some (12, [], .if_icmp .ge 38, [47]) ∧ px_at 210 12 = some (13, [], .iconst 0, []) ∧ px_at 210 13 = some (14, [], .istore_n 3, []) ∧ px_at 210 14 = some (15, [1, 1, 1, 1], .iload_n 3, []) ∧ px_at 210 15 = some (16, [], .aload_n 0, []) ∧ px_at 210 16 = some (17, [], .iload_n 2, []) ∧ px_at 210 17 = some (20, [], .invokevirtual 180, [206, 1, 11, 253]) ∧ px_at 210 20 = some (23, [], .if_icmp .ge 21, [41]) ∧ px_at 210 23 = some (24, [], .aload_n 0, []) ∧ px_at 210 24 = some (25, [], .iload_n 2, []) ∧ px_at 210 25 = some (26, [], .iload_n 3, []) ∧ px_at 210 26 = some (29, [], .invokevirtual 187, [207, 2, 11, 256]) ∧ px_at 210 29 = some (30, [], .iload_n 1, []) ∧ px_at 210 30 = some (33, [], .if_icmp .ne 5, [35]) ∧ px_at 210 33 = some (34, [], .iconst 1, []) ∧ px_at 210 34 = some (35, [], .ireturn, [4]) ∧ px_at 210 35 = some (38, [], .iinc 3 1, []) ∧ px_at 210 38 = some (41, [], .goto (-24), [14]) ∧ px_at 210 41 = some (44, [], .iinc 2 1, []) ∧ px_at 210 44 = some (47, [], .goto (-42), [2]) ∧ px_at 210 47 = some (48, [], .iconst 0, []) ∧ px_at 210 48 = some (49, [], .ireturn, [4]) := ⟨rfl, rfl, rfl, rfl, rfl, rfl, rfl, rfl, rfl, rfl, rfl, rfl, rfl, rfl, rfl, rfl, rfl, rfl, rfl, rfl, rfl, rfl, rfl, rfl, rfl, rfl, rfl, rfl, rfl⟩
set_option maxRecDepth 100000 in
/-- X12_basedOn -/
theorem cd_211 : px_at 211 0 = some (1, [], .iconst 0, []) ∧ px_at 211 1 = some (2, [], .istore_n 2, []) ∧ px_at 211 2 = some (3, [], .iconst 0, []) ∧ px_at 211 3 = some (4, [], .istore_n 3, []) ∧ px_at 211 4 = some (5, [1, 1, 1, 1], .iload_n 3, []) ∧ px_at 211 5 = some (7, [], .bipush 40, []) ∧ px_at 211 7 = some (10, [], .if_icmp .ge 33, [40]) ∧ px_at 211 10 = some (11, [], .aload_n 0, []) ∧ px_at 211 11 = some (12, [], .iload_n 3, []) ∧ px_at 211 12 = some (13, [], .iconst 0, []) ∧ px_at 211 13 = some (16, [], .invokevirtual 109, [187, 2, 11, 259]) ∧ px_at 211 16 = some (17, [], .iconst 1, []) ∧ px_at 211 17 = some (20, [], .if_icmp .ne 17, [34]) ∧ px_at 211 20 = some (21, [], .aload_n 0, []) ∧ px_at 211 21 = some (22, [], .iload_n 3, []) ∧ px_at 211 22 = some (23, [], .iconst 5, []) ∧ px_at 211 23 = some (26, [], .invokevirtual 109, [187, 2, 11, 259]) ∧ px_at 211 26 = some (27, [], .iload_n 1, []) ∧ px_at 211 27 = some (30, [], .if_icmp .ne 7, [34]) ∧ px_at 211 30 = some (31, [], .iload_n 2, []) ∧ px_at 211 31 = some (32, [], .iconst 1, []) ∧ px_at 211 32 = some (33, [], .iadd, []) ∧ px_at 211 33 = some (34, [], .istore_n 2, []) ∧ px_at 211 34 = some (37, [], .iinc 3 1, []) ∧ px_at 211 37 = some (40, [], .goto (-33), [4]) ∧ px_at 211 40 = some (41, [], .iload_n 2, []) ∧ px_at 211 41 = some (42, [], .ireturn, [0]) := ⟨rfl, rfl, rfl, rfl, rfl, rfl, rfl, rfl, rfl, rfl, rfl, rfl, rfl, rfl, rfl, rfl, rfl, rfl, rfl, rfl, rfl, rfl, rfl, rfl, rfl, rfl, rfl⟩
set_option maxRecDepth 100000 in
/-- X12_keptBytes -/
theorem cd_213 : px_at 213 0 = some (1, [], .iconst 0, []) ∧ px_at 213 1 = some (2, [], .istore_n 1, []) ∧ px_at 213 2 = some (3, [], .iconst 0, []) ∧ px_at 213 3 = some (4, [], .istore_n 2, []) ∧ px_at 213 4 = some (5, [1, 1, 1], .iload_n 2, []) ∧ px_at 213 5 = some (7, [], .bipush 40, []) ∧ px_at 213 7 = some (10, [], .if_icmp .ge 28, [35]) ∧ px_at 213 10 = some (11, [], .aload_n 0, []) ∧ px_at 213 11 = some (12, [], .iload_n 2, []) ∧ px_at 213 12 = some (13, [], .iconst 0, []) ∧ px_at 213 13 = some (16, [], .invokevirtual 109, [187, 2, 11, 259]) ∧ px_at 213 16 = some (17, [], .iconst 1, []) ∧ px_at 213 17 = some (20, [], .if_icmp .ne 12, [29]) ∧ px_at 213 20 = some (21, [], .iload_n 1, []) ∧ px_at 213 21 = some (22, [], .aload_n 0, []) ∧ px_at 213 22 = some (23, [], .iload_n 2, []) ∧ px_at 213 23 = some (24, [], .iconst 4, []) ∧ px_at 213 24 = some (27, [], .invokevirtual 109, [187, 2, 11, 259]) ∧ px_at 213 27 = some (28, [], .iadd, []) ∧ px_at 213 28 = some (29, [], .istore_n 1, []) ∧ px_at 213 29 = some (32, [], .iinc 2 1, []) ∧ px_at 213 32 = some (35, [], .goto (-28), [4]) ∧ px_at 213 35 = some (36, [], .iload_n 1, []) ∧ px_at 213 36 = some (37, [], .ireturn, [0]) := ⟨rfl, rfl, rfl, rfl, rfl, rfl, rfl, rfl, rfl, rfl, rfl, rfl, rfl, rfl, rfl, rfl, rfl, rfl, rfl, rfl, rfl, rfl, rfl, rfl⟩
/-! the reference: editions and their lists -/
/-- of an edition: 0 number, 1 of, 2 also, 3 sealed, 4.. its name, 17 how many -/
def rE (F : Int → Int) (e p : Int) : Int := F (1294 + 186 * e + p)
def rpl (F : Int → Int) (e j : Int) : List Int := fp F (1294 + 186 * e + 18 + 14 * j)
def rcf (F : Int → Int) (e j : Int) : Int := F (1294 + 186 * e + 18 + 14 * j + 13)
noncomputable def rslot (F : Int → Int) (num : Int) : Int := fnd (F 5) (fun e => rE F e 0 = num)
/-- bounds of editions -/
def rls (F dd : Int → Int) : Prop := (0 ≤ F 5 ∧ F 5 ≤ 10) ∧ ∀ e, 0 ≤ e → e < F 5 → 0 ≤ rE F e 17 ∧ rE F e 17 ≤ 12 ∧ ∀ j, 0 ≤ j → j < rE F e 17 → pok F (1294 + 186 * e + 18 + 14 * j) 3154 ∧ okp (rpl F e j) ∧ rpl F e j ≠ [] ∧ 0 ≤ rcf F e j ∧ rcf F e j < 40 ∧ 0 ≤ dd (rcf F e j)
def rlsd (F : Int → Int) (c : Int) : Prop := ∃ e j, 0 ≤ e ∧ e < F 5 ∧ 0 ≤ j ∧ j < rE F e 17 ∧ rcf F e j = c
theorem fp_len {F : Int → Int} {a : Int} (h : 0 ≤ F a) : ((fp F a).length : Int) = F a := lst_len h
theorem fp_pos {F : Int → Int} {a : Int} (h : fp F a ≠ []) : 0 < F a := by
  rcases Int.lt_or_le 0 (F a) with q | q
  · exact q
  · exact absurd (lst_nil q) h
section PS
variable {M : px_mem} {Q : Option pv → px_mem → Prop}
set_option maxHeartbeats 600000 in
set_option maxRecDepth 100000 in
theorem lp_slotOf {num : Int} (hE : 0 ≤ M 128 5 ∧ M 128 5 ≤ 10) (h : Q (some (0, rslot (M 128) num)) M) (k : Int) (hk_k : k ≤ M 128 5) : 0 ≤ k → (∀ j, 0 ≤ j → j < k → ¬ rE (M 128) j 0 = num) → px_WP 208 0 0 (px_Q0 LAY Q) 2 [(2, 127), (0, num), (0, k)] [] LAY M 0 0 := by
  refine up_ind (P := fun k => 0 ≤ k → (∀ j, 0 ≤ j → j < k → ¬ rE (M 128) j 0 = num) → px_WP 208 0 0 (px_Q0 LAY Q) 2 [(2, 127), (0, num), (0, k)] [] LAY M 0 0) (M 128 5) (fun k hk_k ih => ?_) k hk_k
  intro k0 hj
  refine px_go_ok (inl := [204]) 60 ?_
  simp only [px_go, px_Q0_at, px_sx_0, px_sx_s, px_cl, px_step, ↓px_ll, px_lg, f4_, ↓px_r1, ↓px_r2, ↓px_r4, ↓px_r5, ↓px_p1, ↓px_p2, ↓px_p3, ↓px_pop, px_k_0, px_k_s, px_k3_0, px_stk_, px_cats, px_ent, px_st1, px_st2, px_mask, ↓px_tsw, ↓px_lsw, ct_, mls_0, mls_1, mls_2, mls_3, mls_4, mls_5, kd_0, kd_1, kd_2, kd_3, ln_0, ln_1, ln_2, ln_3, gf_0, gf_1, gf_2, gf_3, gf_4, gf_7, gf_21, gf_63, dy_0, dy_1, dy_2, dy_3, dy_7, dy_21, px_brT, px_brF, true_and, and_true, and_false, false_and, and_self, true_implies, false_implies, or_true, true_or, or_false, false_or, eq_self, ne_eq, not_false_eq_true, not_true_eq_false, if_true, if_false, List.mem_cons, List.not_mem_nil, List.length_cons, List.length_nil, Nat.reduceEqDiff, Nat.reduceAdd, Nat.reduceSub, Nat.reduceLeDiff, Nat.reduceLT, Int.reduceEq, Int.reduceLT, Int.reduceLE, Int.reduceNeg, Int.reduceAdd, Int.reduceSub, Int.reduceToNat, ↓reduceIte, one_ne_zero_, zero_ne_one_, px_in32L, cd_208, cd_204]
  repeat' (first | (with_reducible apply And.intro) | (with_reducible refine px_br_intro (fun _ => ?_) (fun _ => ?_)))
  all_goals (try (first | (unfold px_in32; omega) | omega))
  · rename_i c1
    have e : rslot (M 128) num = -1 := fnd_miss (fun j j0 j1 => hj j j0 (by omega))
    rw [e] at h; exact h
  · rename_i c1 c2
    have e : rslot (M 128) num = k := fnd_hit k0 (by omega) c2 hj
    rw [e] at h; exact h
  · rename_i c1 c2
    refine ih (by omega) (by omega) (fun j j0 j1 => ?_)
    by_cases q : j = k
    · rw [q]; exact c2
    · exact hj j j0 (by omega)
set_option maxHeartbeats 600000 in
set_option maxRecDepth 100000 in
theorem sp_rslot {num : Int} (hE : 0 ≤ M 128 5 ∧ M 128 5 ≤ 10) (h : Q (some (0, rslot (M 128) num)) M) : px_Ok 208 [(2, 127), (0, num)] LAY M Q := by
  refine px_ok_go (inl := []) (ls0 := [(2, 127), (0, num), (9, 0)]) 60 (by decide) (Nat.le_of_ble_eq_true rfl) rfl ?_
  simp only [px_go, px_Q0_at, px_sx_0, px_sx_s, px_cl, px_step, ↓px_ll, px_lg, f4_, ↓px_r1, ↓px_r2, ↓px_r4, ↓px_r5, ↓px_p1, ↓px_p2, ↓px_p3, ↓px_pop, px_k_0, px_k_s, px_k3_0, px_stk_, px_cats, px_ent, px_st1, px_st2, px_mask, ↓px_tsw, ↓px_lsw, ct_, mls_0, mls_1, mls_2, mls_3, mls_4, mls_5, kd_0, kd_1, kd_2, kd_3, ln_0, ln_1, ln_2, ln_3, gf_0, gf_1, gf_2, gf_3, gf_4, gf_7, gf_21, gf_63, dy_0, dy_1, dy_2, dy_3, dy_7, dy_21, px_brT, px_brF, true_and, and_true, and_false, false_and, and_self, true_implies, false_implies, or_true, true_or, or_false, false_or, eq_self, ne_eq, not_false_eq_true, not_true_eq_false, if_true, if_false, List.mem_cons, List.not_mem_nil, List.length_cons, List.length_nil, Nat.reduceEqDiff, Nat.reduceAdd, Nat.reduceSub, Nat.reduceLeDiff, Nat.reduceLT, Int.reduceEq, Int.reduceLT, Int.reduceLE, Int.reduceNeg, Int.reduceAdd, Int.reduceSub, Int.reduceToNat, ↓reduceIte, one_ne_zero_, zero_ne_one_, px_in32L, cd_208]
  repeat' (first | (with_reducible apply And.intro) | (with_reducible refine px_br_intro (fun _ => ?_) (fun _ => ?_)))
  all_goals (try (first | (unfold px_in32; omega) | omega))
  exact lp_slotOf hE h 0 hE.1 (Int.le_refl 0) (fun j j0 j1 => by omega)
set_option maxHeartbeats 600000 in
set_option maxRecDepth 100000 in
theorem lp_rplaceIn {dd : Int → Int} {e v a : Int} (hl : rls (M 128) dd) (he : 0 ≤ e ∧ e < M 128 5) (hkv : px_kd LAY v = 0) (ha : pok (M v) a (px_ln LAY v)) (hln : px_ln LAY v < 10000) (h : Q (some (0, idx (rE (M 128) e 17) (fun j => rpl (M 128) e j = fp (M v) a))) M) (k : Int) (hk_k : k ≤ rE (M 128) e 17) : 0 ≤ k → (∀ j, 0 ≤ j → j < k → ¬ rpl (M 128) e j = fp (M v) a) → px_WP 209 0 0 (px_Q0 LAY Q) 3 [(2, 127), (0, e), (2, v), (0, a), (0, k)] [] LAY M 0 0 := by
  refine up_ind (P := fun k => 0 ≤ k → (∀ j, 0 ≤ j → j < k → ¬ rpl (M 128) e j = fp (M v) a) → px_WP 209 0 0 (px_Q0 LAY Q) 3 [(2, 127), (0, e), (2, v), (0, a), (0, k)] [] LAY M 0 0) (rE (M 128) e 17) (fun k hk_k ih => ?_) k hk_k
  intro k0 hj
  have e17 : M 128 (1294 + 186 * e + 17) = rE (M 128) e 17 := rfl
  have h1 := hl.1
  have h2 := hl.2 e he.1 he.2
  refine px_go_ok (inl := [204,205,206]) 60 ?_
  simp only [px_go, px_Q0_at, px_sx_0, px_sx_s, px_cl, px_step, ↓px_ll, px_lg, f4_, ↓px_r1, ↓px_r2, ↓px_r4, ↓px_r5, ↓px_p1, ↓px_p2, ↓px_p3, ↓px_pop, px_k_0, px_k_s, px_k3_0, px_stk_, px_cats, px_ent, px_st1, px_st2, px_mask, ↓px_tsw, ↓px_lsw, ct_, mls_0, mls_1, mls_2, mls_3, mls_4, mls_5, kd_0, kd_1, kd_2, kd_3, ln_0, ln_1, ln_2, ln_3, gf_0, gf_1, gf_2, gf_3, gf_4, gf_7, gf_21, gf_63, dy_0, dy_1, dy_2, dy_3, dy_7, dy_21, px_brT, px_brF, true_and, and_true, and_false, false_and, and_self, true_implies, false_implies, or_true, true_or, or_false, false_or, eq_self, ne_eq, not_false_eq_true, not_true_eq_false, if_true, if_false, List.mem_cons, List.not_mem_nil, List.length_cons, List.length_nil, Nat.reduceEqDiff, Nat.reduceAdd, Nat.reduceSub, Nat.reduceLeDiff, Nat.reduceLT, Int.reduceEq, Int.reduceLT, Int.reduceLE, Int.reduceNeg, Int.reduceAdd, Int.reduceSub, Int.reduceToNat, ↓reduceIte, one_ne_zero_, zero_ne_one_, px_in32L, cd_209, cd_204, cd_205, cd_206, e17]
  repeat' (first | (with_reducible apply And.intro) | (with_reducible refine px_br_intro (fun _ => ?_) (fun _ => ?_)))
  all_goals (try (first | (unfold px_in32; omega) | omega))
  · rename_i c1
    rw [idx_miss (fun j j0 j1 => hj j j0 (by omega))] at h
    exact h
  · rename_i c1
    have h3 := h2.2.2 k k0 (by omega)
    refine sp_against rfl hkv h3.1 ha ⟨by decide, hln⟩ (fun r r1 r2 => ?_)
    simp only [px_go, px_Q0_at, px_sx_0, px_sx_s, px_cl, px_step, ↓px_ll, px_lg, f4_, ↓px_r1, ↓px_r2, ↓px_r4, ↓px_r5, ↓px_p1, ↓px_p2, ↓px_p3, ↓px_pop, px_k_0, px_k_s, px_k3_0, px_stk_, px_cats, px_ent, px_st1, px_st2, px_mask, ↓px_tsw, ↓px_lsw, ct_, mls_0, mls_1, mls_2, mls_3, mls_4, mls_5, kd_0, kd_1, kd_2, kd_3, ln_0, ln_1, ln_2, ln_3, gf_0, gf_1, gf_2, gf_3, gf_4, gf_7, gf_21, gf_63, dy_0, dy_1, dy_2, dy_3, dy_7, dy_21, px_brT, px_brF, true_and, and_true, and_false, false_and, and_self, true_implies, false_implies, or_true, true_or, or_false, false_or, eq_self, ne_eq, not_false_eq_true, not_true_eq_false, if_true, if_false, List.mem_cons, List.not_mem_nil, List.length_cons, List.length_nil, Nat.reduceEqDiff, Nat.reduceAdd, Nat.reduceSub, Nat.reduceLeDiff, Nat.reduceLT, Int.reduceEq, Int.reduceLT, Int.reduceLE, Int.reduceNeg, Int.reduceAdd, Int.reduceSub, Int.reduceToNat, ↓reduceIte, one_ne_zero_, zero_ne_one_, px_in32L, cd_209]
    repeat' (first | (with_reducible apply And.intro) | (with_reducible refine px_br_intro (fun _ => ?_) (fun _ => ?_)))
    all_goals (try (first | (unfold px_in32; omega) | omega))
    · rename_i c2
      rw [idx_hit k0 (by omega) (r2.mp c2) hj] at h
      exact h
    · rename_i c2
      refine ih (by omega) (by omega) (fun j j0 j1 => ?_)
      by_cases q : j = k
      · rw [q]; exact fun z => c2 (r2.mpr z)
      · exact hj j j0 (by omega)
set_option maxHeartbeats 600000 in
set_option maxRecDepth 100000 in
theorem sp_rplaceIn {dd : Int → Int} {e v a : Int} (hl : rls (M 128) dd) (he : 0 ≤ e ∧ e < M 128 5) (hkv : px_kd LAY v = 0) (ha : pok (M v) a (px_ln LAY v)) (hln : px_ln LAY v < 10000) (h : Q (some (0, idx (rE (M 128) e 17) (fun j => rpl (M 128) e j = fp (M v) a))) M) : px_Ok 209 [(2, 127), (0, e), (2, v), (0, a)] LAY M Q := by
  refine px_ok_go (inl := []) (ls0 := [(2, 127), (0, e), (2, v), (0, a), (9, 0)]) 60 (by decide) (Nat.le_of_ble_eq_true rfl) rfl ?_
  simp only [px_go, px_Q0_at, px_sx_0, px_sx_s, px_cl, px_step, ↓px_ll, px_lg, f4_, ↓px_r1, ↓px_r2, ↓px_r4, ↓px_r5, ↓px_p1, ↓px_p2, ↓px_p3, ↓px_pop, px_k_0, px_k_s, px_k3_0, px_stk_, px_cats, px_ent, px_st1, px_st2, px_mask, ↓px_tsw, ↓px_lsw, ct_, mls_0, mls_1, mls_2, mls_3, mls_4, mls_5, kd_0, kd_1, kd_2, kd_3, ln_0, ln_1, ln_2, ln_3, gf_0, gf_1, gf_2, gf_3, gf_4, gf_7, gf_21, gf_63, dy_0, dy_1, dy_2, dy_3, dy_7, dy_21, px_brT, px_brF, true_and, and_true, and_false, false_and, and_self, true_implies, false_implies, or_true, true_or, or_false, false_or, eq_self, ne_eq, not_false_eq_true, not_true_eq_false, if_true, if_false, List.mem_cons, List.not_mem_nil, List.length_cons, List.length_nil, Nat.reduceEqDiff, Nat.reduceAdd, Nat.reduceSub, Nat.reduceLeDiff, Nat.reduceLT, Int.reduceEq, Int.reduceLT, Int.reduceLE, Int.reduceNeg, Int.reduceAdd, Int.reduceSub, Int.reduceToNat, ↓reduceIte, one_ne_zero_, zero_ne_one_, px_in32L, cd_209]
  repeat' (first | (with_reducible apply And.intro) | (with_reducible refine px_br_intro (fun _ => ?_) (fun _ => ?_)))
  all_goals (try (first | (unfold px_in32; omega) | omega))
  exact lp_rplaceIn hl he hkv ha hln h 0 (hl.2 e he.1 he.2).1 (Int.le_refl 0) (fun j j0 j1 => by omega)
set_option maxHeartbeats 600000 in
set_option maxRecDepth 100000 in
theorem lp_isListed2 {dd : Int → Int} {c e : Int} (hl : rls (M 128) dd) (he : 0 ≤ e ∧ e < M 128 5) (hx : (∀ j, 0 ≤ j → j < rE (M 128) e 17 → ¬ rcf (M 128) e j = c) → px_WP 210 0 0 (px_Q0 LAY Q) 2 [(2, 127), (0, c), (0, e + 1), (9, 0)] [] LAY M 0 0) (h1 : rlsd (M 128) c → Q (some (0, 1)) M) (k : Int) (hk_k : k ≤ rE (M 128) e 17) : 0 ≤ k → (∀ j, 0 ≤ j → j < k → ¬ rcf (M 128) e j = c) → px_WP 210 0 0 (px_Q0 LAY Q) 14 [(2, 127), (0, c), (0, e), (0, k)] [] LAY M 0 0 := by
  refine up_ind (P := fun k => 0 ≤ k → (∀ j, 0 ≤ j → j < k → ¬ rcf (M 128) e j = c) → px_WP 210 0 0 (px_Q0 LAY Q) 14 [(2, 127), (0, c), (0, e), (0, k)] [] LAY M 0 0) (rE (M 128) e 17) (fun k hk_k ih => ?_) k hk_k
  intro k0 hj
  have e17 : M 128 (1294 + 186 * e + 17) = rE (M 128) e 17 := rfl
  have h1' := hl.1
  have h2 := hl.2 e he.1 he.2
  refine px_go_ok (inl := [204,205,206,207]) 60 ?_
  simp only [px_go, px_Q0_at, px_sx_0, px_sx_s, px_cl, px_step, ↓px_ll, px_lg, f4_, ↓px_r1, ↓px_r2, ↓px_r4, ↓px_r5, ↓px_p1, ↓px_p2, ↓px_p3, ↓px_pop, px_k_0, px_k_s, px_k3_0, px_stk_, px_cats, px_ent, px_st1, px_st2, px_mask, ↓px_tsw, ↓px_lsw, ct_, mls_0, mls_1, mls_2, mls_3, mls_4, mls_5, kd_0, kd_1, kd_2, kd_3, ln_0, ln_1, ln_2, ln_3, gf_0, gf_1, gf_2, gf_3, gf_4, gf_7, gf_21, gf_63, dy_0, dy_1, dy_2, dy_3, dy_7, dy_21, px_brT, px_brF, true_and, and_true, and_false, false_and, and_self, true_implies, false_implies, or_true, true_or, or_false, false_or, eq_self, ne_eq, not_false_eq_true, not_true_eq_false, if_true, if_false, List.mem_cons, List.not_mem_nil, List.length_cons, List.length_nil, Nat.reduceEqDiff, Nat.reduceAdd, Nat.reduceSub, Nat.reduceLeDiff, Nat.reduceLT, Int.reduceEq, Int.reduceLT, Int.reduceLE, Int.reduceNeg, Int.reduceAdd, Int.reduceSub, Int.reduceToNat, ↓reduceIte, one_ne_zero_, zero_ne_one_, px_in32L, cd_210, cd_204, cd_205, cd_206, cd_207, e17]
  repeat' (first | (with_reducible apply And.intro) | (with_reducible refine px_br_intro (fun _ => ?_) (fun _ => ?_)))
  all_goals (try (first | (unfold px_in32; omega) | omega))
  · rename_i c1
    exact hx (fun j j0 j1 => hj j j0 (by omega))
  · rename_i c1 c2
    exact h1 ⟨e, k, he.1, he.2, k0, by omega, c2⟩
  · rename_i c1 c2
    refine ih (by omega) (by omega) (fun j j0 j1 => ?_)
    by_cases q : j = k
    · rw [q]; exact c2
    · exact hj j j0 (by omega)
set_option maxHeartbeats 600000 in
set_option maxRecDepth 100000 in
theorem lp_isListed {dd : Int → Int} {c : Int} (hl : rls (M 128) dd) (h1 : rlsd (M 128) c → Q (some (0, 1)) M) (h0 : ¬ rlsd (M 128) c → Q (some (0, 0)) M) (e : Int) (hk_e : e ≤ M 128 5) : 0 ≤ e → (∀ i j, 0 ≤ i → i < e → 0 ≤ j → j < rE (M 128) i 17 → ¬ rcf (M 128) i j = c) → px_WP 210 0 0 (px_Q0 LAY Q) 2 [(2, 127), (0, c), (0, e), (9, 0)] [] LAY M 0 0 := by
  refine up_ind (P := fun e => 0 ≤ e → (∀ i j, 0 ≤ i → i < e → 0 ≤ j → j < rE (M 128) i 17 → ¬ rcf (M 128) i j = c) → px_WP 210 0 0 (px_Q0 LAY Q) 2 [(2, 127), (0, c), (0, e), (9, 0)] [] LAY M 0 0) (M 128 5) (fun e hk_e ih => ?_) e hk_e
  intro k0 hj
  have h1' := hl.1
  refine px_go_ok (inl := []) 60 ?_
  simp only [px_go, px_Q0_at, px_sx_0, px_sx_s, px_cl, px_step, ↓px_ll, px_lg, f4_, ↓px_r1, ↓px_r2, ↓px_r4, ↓px_r5, ↓px_p1, ↓px_p2, ↓px_p3, ↓px_pop, px_k_0, px_k_s, px_k3_0, px_stk_, px_cats, px_ent, px_st1, px_st2, px_mask, ↓px_tsw, ↓px_lsw, ct_, mls_0, mls_1, mls_2, mls_3, mls_4, mls_5, kd_0, kd_1, kd_2, kd_3, ln_0, ln_1, ln_2, ln_3, gf_0, gf_1, gf_2, gf_3, gf_4, gf_7, gf_21, gf_63, dy_0, dy_1, dy_2, dy_3, dy_7, dy_21, px_brT, px_brF, true_and, and_true, and_false, false_and, and_self, true_implies, false_implies, or_true, true_or, or_false, false_or, eq_self, ne_eq, not_false_eq_true, not_true_eq_false, if_true, if_false, List.mem_cons, List.not_mem_nil, List.length_cons, List.length_nil, Nat.reduceEqDiff, Nat.reduceAdd, Nat.reduceSub, Nat.reduceLeDiff, Nat.reduceLT, Int.reduceEq, Int.reduceLT, Int.reduceLE, Int.reduceNeg, Int.reduceAdd, Int.reduceSub, Int.reduceToNat, ↓reduceIte, one_ne_zero_, zero_ne_one_, px_in32L, cd_210]
  repeat' (first | (with_reducible apply And.intro) | (with_reducible refine px_br_intro (fun _ => ?_) (fun _ => ?_)))
  all_goals (try (first | (unfold px_in32; omega) | omega))
  · rename_i c1
    exact h0 (fun ⟨i, j, i0, i1, j0, j1, z⟩ => hj i j i0 (by omega) j0 j1 z)
  · rename_i c1
    have h2 := hl.2 e k0 (by omega)
    refine lp_isListed2 hl ⟨k0, by omega⟩ (fun z => ih (by omega) (by omega) (fun i j i0 i1 j0 j1 => ?_)) h1 0 h2.1 (Int.le_refl 0) (fun j j0 j1 => by omega)
    by_cases q : i = e
    · rw [q] at j1 ⊢; exact z j j0 j1
    · exact hj i j i0 (by omega) j0 j1
set_option maxHeartbeats 600000 in
set_option maxRecDepth 100000 in
theorem sp_isListed {dd : Int → Int} {c : Int} (hl : rls (M 128) dd) (h1 : rlsd (M 128) c → Q (some (0, 1)) M) (h0 : ¬ rlsd (M 128) c → Q (some (0, 0)) M) : px_Ok 210 [(2, 127), (0, c)] LAY M Q := by
  refine px_ok_go (inl := []) (ls0 := [(2, 127), (0, c), (9, 0), (9, 0)]) 60 (by decide) (Nat.le_of_ble_eq_true rfl) rfl ?_
  simp only [px_go, px_Q0_at, px_sx_0, px_sx_s, px_cl, px_step, ↓px_ll, px_lg, f4_, ↓px_r1, ↓px_r2, ↓px_r4, ↓px_r5, ↓px_p1, ↓px_p2, ↓px_p3, ↓px_pop, px_k_0, px_k_s, px_k3_0, px_stk_, px_cats, px_ent, px_st1, px_st2, px_mask, ↓px_tsw, ↓px_lsw, ct_, mls_0, mls_1, mls_2, mls_3, mls_4, mls_5, kd_0, kd_1, kd_2, kd_3, ln_0, ln_1, ln_2, ln_3, gf_0, gf_1, gf_2, gf_3, gf_4, gf_7, gf_21, gf_63, dy_0, dy_1, dy_2, dy_3, dy_7, dy_21, px_brT, px_brF, true_and, and_true, and_false, false_and, and_self, true_implies, false_implies, or_true, true_or, or_false, false_or, eq_self, ne_eq, not_false_eq_true, not_true_eq_false, if_true, if_false, List.mem_cons, List.not_mem_nil, List.length_cons, List.length_nil, Nat.reduceEqDiff, Nat.reduceAdd, Nat.reduceSub, Nat.reduceLeDiff, Nat.reduceLT, Int.reduceEq, Int.reduceLT, Int.reduceLE, Int.reduceNeg, Int.reduceAdd, Int.reduceSub, Int.reduceToNat, ↓reduceIte, one_ne_zero_, zero_ne_one_, px_in32L, cd_210]
  repeat' (first | (with_reducible apply And.intro) | (with_reducible refine px_br_intro (fun _ => ?_) (fun _ => ?_)))
  all_goals (try (first | (unfold px_in32; omega) | omega))
  exact lp_isListed hl h1 h0 0 hl.1.1 (Int.le_refl 0) (fun i j i0 i1 => by omega)
set_option maxHeartbeats 600000 in
set_option maxRecDepth 100000 in
theorem lp_basedOn {c : Int} (h : Q (some (0, sm 40 (fun d => b1 (rC (M 128) d 0 = 1 ∧ rC (M 128) d 5 = c)))) M) (d : Int) (hk_d : d ≤ 40) : 0 ≤ d → px_WP 211 0 0 (px_Q0 LAY Q) 4 [(2, 127), (0, c), (0, sm d (fun d => b1 (rC (M 128) d 0 = 1 ∧ rC (M 128) d 5 = c))), (0, d)] [] LAY M 0 0 := by
  refine up_ind (P := fun d => 0 ≤ d → px_WP 211 0 0 (px_Q0 LAY Q) 4 [(2, 127), (0, c), (0, sm d (fun d => b1 (rC (M 128) d 0 = 1 ∧ rC (M 128) d 5 = c))), (0, d)] [] LAY M 0 0) (40) (fun d hk_d ih => ?_) d hk_d
  intro d0
  have hr := sm_bnd (n := d) (c := 1) (f := fun d => b1 (rC (M 128) d 0 = 1 ∧ rC (M 128) d 5 = c))
  have hs := @sm_w d
  refine px_go_ok (inl := [187]) 60 ?_
  simp only [px_go, px_Q0_at, px_sx_0, px_sx_s, px_cl, px_step, ↓px_ll, px_lg, f4_, ↓px_r1, ↓px_r2, ↓px_r4, ↓px_r5, ↓px_p1, ↓px_p2, ↓px_p3, ↓px_pop, px_k_0, px_k_s, px_k3_0, px_stk_, px_cats, px_ent, px_st1, px_st2, px_mask, ↓px_tsw, ↓px_lsw, ct_, mls_0, mls_1, mls_2, mls_3, mls_4, mls_5, kd_0, kd_1, kd_2, kd_3, ln_0, ln_1, ln_2, ln_3, gf_0, gf_1, gf_2, gf_3, gf_4, gf_7, gf_21, gf_63, dy_0, dy_1, dy_2, dy_3, dy_7, dy_21, px_brT, px_brF, true_and, and_true, and_false, false_and, and_self, true_implies, false_implies, or_true, true_or, or_false, false_or, eq_self, ne_eq, not_false_eq_true, not_true_eq_false, if_true, if_false, List.mem_cons, List.not_mem_nil, List.length_cons, List.length_nil, Nat.reduceEqDiff, Nat.reduceAdd, Nat.reduceSub, Nat.reduceLeDiff, Nat.reduceLT, Int.reduceEq, Int.reduceLT, Int.reduceLE, Int.reduceNeg, Int.reduceAdd, Int.reduceSub, Int.reduceToNat, ↓reduceIte, one_ne_zero_, zero_ne_one_, px_in32L, cd_211, cd_187]
  repeat' (first | (with_reducible apply And.intro) | (with_reducible refine px_br_intro (fun _ => ?_) (fun _ => ?_)))
  all_goals (try (first | (unfold px_in32; omega) | omega))
  · rename_i c1
    rw [show d = 40 by omega]; exact h
  · have := hr d0 (fun _ _ _ => b1_rng _); unfold px_in32; omega
  · rename_i c1 c2 c3
    have e := hs d0 (fun d => b1 (rC (M 128) d 0 = 1 ∧ rC (M 128) d 5 = c)) (b1_t ⟨c2, c3⟩)
    rw [← e]
    exact ih (by omega) (by omega)
  · rename_i c1 c2 c3
    have e := hs d0 (fun d => b1 (rC (M 128) d 0 = 1 ∧ rC (M 128) d 5 = c)) (b1_f (fun z => c3 z.2))
    rw [Int.add_zero] at e
    rw [← e]
    exact ih (by omega) (by omega)
  · rename_i c1 c2
    have e := hs d0 (fun d => b1 (rC (M 128) d 0 = 1 ∧ rC (M 128) d 5 = c)) (b1_f (fun z => c2 z.1))
    rw [Int.add_zero] at e
    rw [← e]
    exact ih (by omega) (by omega)
set_option maxHeartbeats 600000 in
set_option maxRecDepth 100000 in
theorem sp_basedOn {c : Int} (h : Q (some (0, sm 40 (fun d => b1 (rC (M 128) d 0 = 1 ∧ rC (M 128) d 5 = c)))) M) : px_Ok 211 [(2, 127), (0, c)] LAY M Q := by
  refine px_ok_go (inl := []) (ls0 := [(2, 127), (0, c), (9, 0), (9, 0)]) 60 (by decide) (Nat.le_of_ble_eq_true rfl) rfl ?_
  simp only [px_go, px_Q0_at, px_sx_0, px_sx_s, px_cl, px_step, ↓px_ll, px_lg, f4_, ↓px_r1, ↓px_r2, ↓px_r4, ↓px_r5, ↓px_p1, ↓px_p2, ↓px_p3, ↓px_pop, px_k_0, px_k_s, px_k3_0, px_stk_, px_cats, px_ent, px_st1, px_st2, px_mask, ↓px_tsw, ↓px_lsw, ct_, mls_0, mls_1, mls_2, mls_3, mls_4, mls_5, kd_0, kd_1, kd_2, kd_3, ln_0, ln_1, ln_2, ln_3, gf_0, gf_1, gf_2, gf_3, gf_4, gf_7, gf_21, gf_63, dy_0, dy_1, dy_2, dy_3, dy_7, dy_21, px_brT, px_brF, true_and, and_true, and_false, false_and, and_self, true_implies, false_implies, or_true, true_or, or_false, false_or, eq_self, ne_eq, not_false_eq_true, not_true_eq_false, if_true, if_false, List.mem_cons, List.not_mem_nil, List.length_cons, List.length_nil, Nat.reduceEqDiff, Nat.reduceAdd, Nat.reduceSub, Nat.reduceLeDiff, Nat.reduceLT, Int.reduceEq, Int.reduceLT, Int.reduceLE, Int.reduceNeg, Int.reduceAdd, Int.reduceSub, Int.reduceToNat, ↓reduceIte, one_ne_zero_, zero_ne_one_, px_in32L, cd_211]
  repeat' (first | (with_reducible apply And.intro) | (with_reducible refine px_br_intro (fun _ => ?_) (fun _ => ?_)))
  all_goals (try (first | (unfold px_in32; omega) | omega))
  exact lp_basedOn h 0 (by decide) (Int.le_refl 0)
noncomputable def rkp (F : Int → Int) (c : Int) : Int := if rC F c 0 = 1 then rC F c 4 else 0
set_option maxHeartbeats 600000 in
set_option maxRecDepth 100000 in
theorem lp_rkept (hk : ∀ c, 0 ≤ c → c < 40 → rC (M 128) c 0 = 1 → 0 ≤ rC (M 128) c 4 ∧ rC (M 128) c 4 ≤ 40) (h : Q (some (0, sm 40 (rkp (M 128)))) M) (d : Int) (hk_d : d ≤ 40) : 0 ≤ d → px_WP 213 0 0 (px_Q0 LAY Q) 4 [(2, 127), (0, sm d (rkp (M 128))), (0, d)] [] LAY M 0 0 := by
  refine up_ind (P := fun d => 0 ≤ d → px_WP 213 0 0 (px_Q0 LAY Q) 4 [(2, 127), (0, sm d (rkp (M 128))), (0, d)] [] LAY M 0 0) (40) (fun d hk_d ih => ?_) d hk_d
  intro d0
  have hr := sm_bnd (n := d) (c := 40) (f := rkp (M 128)) 
  have hs := @sm_w d
  have hkd := hk d d0
  refine px_go_ok (inl := [187]) 60 ?_
  simp only [px_go, px_Q0_at, px_sx_0, px_sx_s, px_cl, px_step, ↓px_ll, px_lg, f4_, ↓px_r1, ↓px_r2, ↓px_r4, ↓px_r5, ↓px_p1, ↓px_p2, ↓px_p3, ↓px_pop, px_k_0, px_k_s, px_k3_0, px_stk_, px_cats, px_ent, px_st1, px_st2, px_mask, ↓px_tsw, ↓px_lsw, ct_, mls_0, mls_1, mls_2, mls_3, mls_4, mls_5, kd_0, kd_1, kd_2, kd_3, ln_0, ln_1, ln_2, ln_3, gf_0, gf_1, gf_2, gf_3, gf_4, gf_7, gf_21, gf_63, dy_0, dy_1, dy_2, dy_3, dy_7, dy_21, px_brT, px_brF, true_and, and_true, and_false, false_and, and_self, true_implies, false_implies, or_true, true_or, or_false, false_or, eq_self, ne_eq, not_false_eq_true, not_true_eq_false, if_true, if_false, List.mem_cons, List.not_mem_nil, List.length_cons, List.length_nil, Nat.reduceEqDiff, Nat.reduceAdd, Nat.reduceSub, Nat.reduceLeDiff, Nat.reduceLT, Int.reduceEq, Int.reduceLT, Int.reduceLE, Int.reduceNeg, Int.reduceAdd, Int.reduceSub, Int.reduceToNat, ↓reduceIte, one_ne_zero_, zero_ne_one_, px_in32L, cd_213, cd_187]
  repeat' (first | (with_reducible apply And.intro) | (with_reducible refine px_br_intro (fun _ => ?_) (fun _ => ?_)))
  all_goals (try (first | (unfold px_in32; omega) | omega))
  · rename_i c1
    rw [show d = 40 by omega]; exact h
  · rename_i c1 c2
    have h3 : M 128 (654 + 6 * d + 4) = rC (M 128) d 4 := rfl
    have := hkd (by omega) c2
    have := hr d0 (fun j j0 j1 => by
      unfold rkp
      split
      · exact hk j j0 (by omega) (by assumption)
      · decide)
    unfold px_in32
    omega
  · rename_i c1 c2
    have e := hs d0 (rkp (M 128)) (if_pos c2)
    have := ih (by omega) (by omega)
    rw [e] at this
    exact this
  · rename_i c1 c2
    have e := hs d0 (rkp (M 128)) (if_neg c2)
    rw [Int.add_zero] at e
    rw [← e]
    exact ih (by omega) (by omega)
set_option maxHeartbeats 600000 in
set_option maxRecDepth 100000 in
theorem sp_rkept (hk : ∀ c, 0 ≤ c → c < 40 → rC (M 128) c 0 = 1 → 0 ≤ rC (M 128) c 4 ∧ rC (M 128) c 4 ≤ 40) (h : Q (some (0, sm 40 (rkp (M 128)))) M) : px_Ok 213 [(2, 127)] LAY M Q := by
  refine px_ok_go (inl := []) (ls0 := [(2, 127), (9, 0), (9, 0)]) 60 (by decide) (Nat.le_of_ble_eq_true rfl) rfl ?_
  simp only [px_go, px_Q0_at, px_sx_0, px_sx_s, px_cl, px_step, ↓px_ll, px_lg, f4_, ↓px_r1, ↓px_r2, ↓px_r4, ↓px_r5, ↓px_p1, ↓px_p2, ↓px_p3, ↓px_pop, px_k_0, px_k_s, px_k3_0, px_stk_, px_cats, px_ent, px_st1, px_st2, px_mask, ↓px_tsw, ↓px_lsw, ct_, mls_0, mls_1, mls_2, mls_3, mls_4, mls_5, kd_0, kd_1, kd_2, kd_3, ln_0, ln_1, ln_2, ln_3, gf_0, gf_1, gf_2, gf_3, gf_4, gf_7, gf_21, gf_63, dy_0, dy_1, dy_2, dy_3, dy_7, dy_21, px_brT, px_brF, true_and, and_true, and_false, false_and, and_self, true_implies, false_implies, or_true, true_or, or_false, false_or, eq_self, ne_eq, not_false_eq_true, not_true_eq_false, if_true, if_false, List.mem_cons, List.not_mem_nil, List.length_cons, List.length_nil, Nat.reduceEqDiff, Nat.reduceAdd, Nat.reduceSub, Nat.reduceLeDiff, Nat.reduceLT, Int.reduceEq, Int.reduceLT, Int.reduceLE, Int.reduceNeg, Int.reduceAdd, Int.reduceSub, Int.reduceToNat, ↓reduceIte, one_ne_zero_, zero_ne_one_, px_in32L, cd_213]
  repeat' (first | (with_reducible apply And.intro) | (with_reducible refine px_br_intro (fun _ => ?_) (fun _ => ?_)))
  all_goals (try (first | (unfold px_in32; omega) | omega))
  exact lp_rkept hk h 0 (by decide) (Int.le_refl 0)
end PS
