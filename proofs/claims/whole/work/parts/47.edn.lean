/-! EditionVault.Editions -/
set_option maxRecDepth 100000 in
/-- X3_placed -/
theorem cd_45 : px_at 45 0 = some (1, [], .iload_n 1, []) ∧ px_at 45 1 = some (4, [], .ifCond .lt 20, [21]) ∧ px_at 45 4 = some (5, [], .iload_n 1, []) ∧ px_at 45 5 = some (6, [], .aload_n 0, []) ∧ px_at 45 6 = some (9, [], .getfield 18, [3, 1, 0, 0, 48]) ∧ px_at 45 9 = some (12, [], .if_icmp .ge 12, [21]) ∧ px_at 45 12 = some (13, [], .aload_n 0, []) ∧ px_at 45 13 = some (16, [], .getfield 11, [3, 0, 2, 1, 47]) ∧ px_at 45 16 = some (17, [], .iload_n 1, []) ∧ px_at 45 17 = some (18, [], .aaload, []) ∧ px_at 45 18 = some (21, [], .goto 4, [22]) ∧ px_at 45 21 = some (22, [], .aconst_null, []) ∧ px_at 45 22 = some (23, [], .areturn, []) := ⟨rfl, rfl, rfl, rfl, rfl, rfl, rfl, rfl, rfl, rfl, rfl, rfl, rfl⟩
set_option maxRecDepth 100000 in
/-- X3_placeOf -/
theorem cd_46 : px_at 46 0 = some (1, [], .iconst 0, []) ∧ px_at 46 1 = some (2, [], .istore_n 2, []) ∧ px_at 46 2 = some (3, [1, 1, 1], .iload_n 2, []) ∧ px_at 46 3 = some (4, [], .aload_n 0, []) ∧ px_at 46 4 = some (7, [], .getfield 18, [3, 1, 0, 0, 48]) ∧ px_at 46 7 = some (10, [], .if_icmp .ge 24, [31]) ∧ px_at 46 10 = some (11, [], .aload_n 0, []) ∧ px_at 46 11 = some (14, [], .getfield 11, [3, 0, 2, 1, 47]) ∧ px_at 46 14 = some (15, [], .iload_n 2, []) ∧ px_at 46 15 = some (16, [], .aaload, []) ∧ px_at 46 16 = some (19, [], .getfield 22, [2, 3, 0, 0, 34]) ∧ px_at 46 19 = some (20, [], .iload_n 1, []) ∧ px_at 46 20 = some (23, [], .if_icmp .ne 5, [25]) ∧ px_at 46 23 = some (24, [], .iload_n 2, []) ∧ px_at 46 24 = some (25, [], .ireturn, [0]) ∧ px_at 46 25 = some (28, [], .iinc 2 1, []) ∧ px_at 46 28 = some (31, [], .goto (-26), [2]) ∧ px_at 46 31 = some (32, [], .iconst (-1), []) ∧ px_at 46 32 = some (33, [], .ireturn, [0]) := ⟨rfl, rfl, rfl, rfl, rfl, rfl, rfl, rfl, rfl, rfl, rfl, rfl, rfl, rfl, rfl, rfl, rfl, rfl, rfl⟩
set_option maxRecDepth 100000 in
/-- X3_numbered -/
theorem cd_47 : px_at 47 0 = some (1, [], .aload_n 0, []) ∧ px_at 47 1 = some (2, [], .aload_n 0, []) ∧ px_at 47 2 = some (3, [], .iload_n 1, []) ∧ px_at 47 3 = some (6, [], .invokevirtual 25, [46, 1, 3, 62]) ∧ px_at 47 6 = some (9, [], .invokevirtual 29, [45, 1, 3, 63]) ∧ px_at 47 9 = some (10, [], .areturn, []) := ⟨rfl, rfl, rfl, rfl, rfl, rfl⟩
set_option maxRecDepth 100000 in
/-- X3_bearing -/
theorem cd_48 : px_at 48 0 = some (1, [], .iconst 0, []) ∧ px_at 48 1 = some (2, [], .istore_n 3, []) ∧ px_at 48 2 = some (3, [1, 1, 0, 1], .iload_n 3, []) ∧ px_at 48 3 = some (4, [], .aload_n 0, []) ∧ px_at 48 4 = some (7, [], .getfield 18, [3, 1, 0, 0, 48]) ∧ px_at 48 7 = some (10, [], .if_icmp .ge 36, [43]) ∧ px_at 48 10 = some (11, [], .lload_n 1, []) ∧ px_at 48 11 = some (12, [], .lconst 0, []) ∧ px_at 48 12 = some (13, [], .lcmp, []) ∧ px_at 48 13 = some (16, [], .ifCond .eq 30, [43]) ∧ px_at 48 16 = some (17, [], .aload_n 0, []) ∧ px_at 48 17 = some (20, [], .getfield 11, [3, 0, 2, 1, 47]) ∧ px_at 48 20 = some (21, [], .iload_n 3, []) ∧ px_at 48 21 = some (22, [], .aaload, []) ∧ px_at 48 22 = some (25, [], .getfield 33, [2, 7, 1, 0, 45]) ∧ px_at 48 25 = some (26, [], .lload_n 1, []) ∧ px_at 48 26 = some (27, [], .lcmp, []) ∧ px_at 48 27 = some (30, [], .ifCond .ne 10, [37]) ∧ px_at 48 30 = some (31, [], .aload_n 0, []) ∧ px_at 48 31 = some (34, [], .getfield 11, [3, 0, 2, 1, 47]) ∧ px_at 48 34 = some (35, [], .iload_n 3, []) ∧ px_at 48 35 = some (36, [], .aaload, []) ∧ px_at 48 36 = some (37, [], .areturn, []) ∧ px_at 48 37 = some (40, [], .iinc 3 1, []) ∧ px_at 48 40 = some (43, [], .goto (-38), [2]) ∧ px_at 48 43 = some (44, [], .aconst_null, []) ∧ px_at 48 44 = some (45, [], .areturn, []) := ⟨rfl, rfl, rfl, rfl, rfl, rfl, rfl, rfl, rfl, rfl, rfl, rfl, rfl, rfl, rfl, rfl, rfl, rfl, rfl, rfl, rfl, rfl, rfl, rfl, rfl, rfl, rfl⟩
set_option maxRecDepth 100000 in
/-- X3_setOf -/
theorem cd_51 : px_at 51 0 = some (1, [], .aload_n 0, []) ∧ px_at 51 1 = some (2, [], .iload_n 1, []) ∧ px_at 51 2 = some (5, [], .invokevirtual 25, [46, 1, 3, 62]) ∧ px_at 51 5 = some (6, [], .istore_n 2, []) ∧ px_at 51 6 = some (7, [], .iload_n 2, []) ∧ px_at 51 7 = some (10, [], .ifCond .ge 7, [14]) ∧ px_at 51 10 = some (11, [], .iconst 0, []) ∧ px_at 51 11 = some (14, [], .goto 6, [17]) ∧ px_at 51 14 = some (15, [], .iconst 1, []) ∧ px_at 51 15 = some (16, [], .iload_n 2, []) ∧ px_at 51 16 = some (17, [], .ishl, []) ∧ px_at 51 17 = some (18, [], .ireturn, [0]) := ⟨rfl, rfl, rfl, rfl, rfl, rfl, rfl, rfl, rfl, rfl, rfl, rfl⟩
set_option maxRecDepth 100000 in
/-- X3_ancestorSet -/
theorem cd_52 : px_at 52 0 = some (1, [], .aload_n 0, []) ∧ px_at 52 1 = some (2, [], .iload_n 1, []) ∧ px_at 52 2 = some (5, [], .invokevirtual 67, [51, 1, 3, 96]) ∧ px_at 52 5 = some (6, [], .istore_n 2, []) ∧ px_at 52 6 = some (7, [], .aload_n 0, []) ∧ px_at 52 7 = some (10, [], .getfield 18, [3, 1, 0, 0, 48]) ∧ px_at 52 10 = some (11, [], .iconst 1, []) ∧ px_at 52 11 = some (12, [], .isub, []) ∧ px_at 52 12 = some (13, [], .istore_n 3, []) ∧ px_at 52 13 = some (14, [1, 0, 1, 1], .iload_n 3, []) ∧ px_at 52 14 = some (17, [], .ifCond .lt 47, [61]) ∧ px_at 52 17 = some (18, [], .iload_n 2, []) ∧ px_at 52 18 = some (19, [], .iload_n 3, []) ∧ px_at 52 19 = some (20, [], .iushr, []) ∧ px_at 52 20 = some (21, [], .iconst 1, []) ∧ px_at 52 21 = some (22, [], .iand, []) ∧ px_at 52 22 = some (25, [], .ifCond .eq 33, [55]) ∧ px_at 52 25 = some (26, [], .iload_n 2, []) ∧ px_at 52 26 = some (27, [], .aload_n 0, []) ∧ px_at 52 27 = some (28, [], .aload_n 0, []) ∧ px_at 52 28 = some (31, [], .getfield 11, [3, 0, 2, 1, 47]) ∧ px_at 52 31 = some (32, [], .iload_n 3, []) ∧ px_at 52 32 = some (33, [], .aaload, []) ∧ px_at 52 33 = some (36, [], .getfield 58, [2, 4, 0, 0, 37]) ∧ px_at 52 36 = some (39, [], .invokevirtual 67, [51, 1, 3, 96]) ∧ px_at 52 39 = some (40, [], .aload_n 0, []) ∧ px_at 52 40 = some (41, [], .aload_n 0, []) ∧ px_at 52 41 = some (44, [], .getfield 11, [3, 0, 2, 1, 47]) ∧ px_at 52 44 = some (45, [], .iload_n 3, []) ∧ px_at 52 45 = some (46, [], .aaload, []) ∧ px_at 52 46 = some (49, [], .getfield 62, [2, 5, 0, 0, 40]) ∧ px_at 52 49 = some (52, [], .invokevirtual 67, [51, 1, 3, 96]) ∧ px_at 52 52 = some (53, [], .ior, []) ∧ px_at 52 53 = some (54, [], .ior, []) ∧ px_at 52 54 = some (55, [], .istore_n 2, []) ∧ px_at 52 55 = some (58, [], .iinc 3 (-1), []) ∧ px_at 52 58 = some (61, [], .goto (-45), [13]) ∧ px_at 52 61 = some (62, [], .iload_n 2, []) ∧ px_at 52 62 = some (63, [], .ireturn, [0]) := ⟨rfl, rfl, rfl, rfl, rfl, rfl, rfl, rfl, rfl, rfl, rfl, rfl, rfl, rfl, rfl, rfl, rfl, rfl, rfl, rfl, rfl, rfl, rfl, rfl, rfl, rfl, rfl, rfl, rfl, rfl, rfl, rfl, rfl, rfl, rfl, rfl, rfl, rfl, rfl⟩
set_option maxRecDepth 100000 in
/-- X3_commonOf -/
theorem cd_53 : px_at 53 0 = some (1, [], .aload_n 0, []) ∧ px_at 53 1 = some (2, [], .iload_n 1, []) ∧ px_at 53 2 = some (5, [], .invokevirtual 70, [52, 1, 3, 95]) ∧ px_at 53 5 = some (6, [], .aload_n 0, []) ∧ px_at 53 6 = some (7, [], .iload_n 2, []) ∧ px_at 53 7 = some (10, [], .invokevirtual 70, [52, 1, 3, 95]) ∧ px_at 53 10 = some (11, [], .iand, []) ∧ px_at 53 11 = some (12, [], .istore_n 3, []) ∧ px_at 53 12 = some (13, [], .aload_n 0, []) ∧ px_at 53 13 = some (16, [], .getfield 18, [3, 1, 0, 0, 48]) ∧ px_at 53 16 = some (17, [], .iconst 1, []) ∧ px_at 53 17 = some (18, [], .isub, []) ∧ px_at 53 18 = some (20, [], .istore 4, []) ∧ px_at 53 20 = some (22, [1, 0, 0, 1, 1], .iload 4, []) ∧ px_at 53 22 = some (25, [], .ifCond .lt 29, [51]) ∧ px_at 53 25 = some (26, [], .iload_n 3, []) ∧ px_at 53 26 = some (28, [], .iload 4, []) ∧ px_at 53 28 = some (29, [], .iushr, []) ∧ px_at 53 29 = some (30, [], .iconst 1, []) ∧ px_at 53 30 = some (31, [], .iand, []) ∧ px_at 53 31 = some (34, [], .ifCond .eq 14, [45]) ∧ px_at 53 34 = some (35, [], .aload_n 0, []) ∧ px_at 53 35 = some (38, [], .getfield 11, [3, 0, 2, 1, 47]) ∧ px_at 53 38 = some (40, [], .iload 4, []) ∧ px_at 53 40 = some (41, [], .aaload, []) ∧ px_at 53 41 = some (44, [], .getfield 22, [2, 3, 0, 0, 34]) ∧ px_at 53 44 = some (45, [], .ireturn, [0]) ∧ px_at 53 45 = some (48, [], .iinc 4 (-1), []) ∧ px_at 53 48 = some (51, [], .goto (-28), [20]) ∧ px_at 53 51 = some (53, [], .bipush (-2), []) ∧ px_at 53 53 = some (54, [], .ireturn, [0]) := ⟨rfl, rfl, rfl, rfl, rfl, rfl, rfl, rfl, rfl, rfl, rfl, rfl, rfl, rfl, rfl, rfl, rfl, rfl, rfl, rfl, rfl, rfl, rfl, rfl, rfl, rfl, rfl, rfl, rfl, rfl, rfl⟩
set_option maxRecDepth 100000 in
/-- X3_sealedSet -/
theorem cd_54 : px_at 54 0 = some (1, [], .iconst 0, []) ∧ px_at 54 1 = some (2, [], .istore_n 1, []) ∧ px_at 54 2 = some (3, [], .iconst 0, []) ∧ px_at 54 3 = some (4, [], .istore_n 2, []) ∧ px_at 54 4 = some (5, [1, 1, 1], .iload_n 2, []) ∧ px_at 54 5 = some (6, [], .aload_n 0, []) ∧ px_at 54 6 = some (9, [], .getfield 18, [3, 1, 0, 0, 48]) ∧ px_at 54 9 = some (12, [], .if_icmp .ge 27, [36]) ∧ px_at 54 12 = some (13, [], .aload_n 0, []) ∧ px_at 54 13 = some (16, [], .getfield 11, [3, 0, 2, 1, 47]) ∧ px_at 54 16 = some (17, [], .iload_n 2, []) ∧ px_at 54 17 = some (18, [], .aaload, []) ∧ px_at 54 18 = some (21, [], .getfield 63, [2, 6, 4, 0, 42]) ∧ px_at 54 21 = some (24, [], .ifCond .eq 9, [30]) ∧ px_at 54 24 = some (25, [], .iload_n 1, []) ∧ px_at 54 25 = some (26, [], .iconst 1, []) ∧ px_at 54 26 = some (27, [], .iload_n 2, []) ∧ px_at 54 27 = some (28, [], .ishl, []) ∧ px_at 54 28 = some (29, [], .ior, []) ∧ px_at 54 29 = some (30, [], .istore_n 1, []) ∧ px_at 54 30 = some (33, [], .iinc 2 1, []) ∧ px_at 54 33 = some (36, [], .goto (-29), [4]) ∧ px_at 54 36 = some (37, [], .iload_n 1, []) ∧ px_at 54 37 = some (38, [], .ireturn, [0]) := ⟨rfl, rfl, rfl, rfl, rfl, rfl, rfl, rfl, rfl, rfl, rfl, rfl, rfl, rfl, rfl, rfl, rfl, rfl, rfl, rfl, rfl, rfl, rfl, rfl⟩
theorem isE_m {v : Int} (h : isE v) : v % 3 = 1 ∧ 22 ≤ v ∧ (v < 52 ∨ v = 118) := by unfold isE at h; omega
/-- the class's editions: each has a cell of its own -/
def edW (M : px_mem) : Prop := (∀ i, 0 ≤ i → i < 10 → isE (M 21 i) ∧ M 21 i < 52) ∧ (∀ i j, 0 ≤ i → i < 10 → 0 ≤ j → j < 10 → M 21 i = M 21 j → i = j) ∧ 0 ≤ M 20 1 ∧ M 20 1 ≤ 10
noncomputable def slot (M : px_mem) (num : Int) : Int := fnd (M 20 1) (fun i => M (M 21 i) 3 = num)
noncomputable def edR (M : px_mem) (num : Int) : Int := if slot M num < 0 then 0 else M 21 (slot M num)
theorem slot_rng {M : px_mem} (num : Int) : (slot M num = -1 ∧ ∀ j, 0 ≤ j → j < M 20 1 → M (M 21 j) 3 ≠ num) ∨ (0 ≤ slot M num ∧ slot M num < M 20 1 ∧ M (M 21 (slot M num)) 3 = num ∧ ∀ j, 0 ≤ j → j < slot M num → M (M 21 j) 3 ≠ num) := fnd_spec _ _
section PS
variable {M : px_mem} {Q : Option pv → px_mem → Prop}
set_option maxHeartbeats 600000 in
set_option maxRecDepth 100000 in
theorem lp_edPlaceOf {num : Int} (hw : edW M) (h : Q (some (0, slot M num)) M) (k : Int) (hk_k : k ≤ M 20 1) : 0 ≤ k → (∀ j, 0 ≤ j → j < k → M (M 21 j) 3 ≠ num) → px_WP 46 0 0 (px_Q0 LAY Q) 2 [(2, 20), (0, num), (0, k)] [] LAY M 0 0 := by
  refine up_ind (P := fun k => 0 ≤ k → (∀ j, 0 ≤ j → j < k → M (M 21 j) 3 ≠ num) → px_WP 46 0 0 (px_Q0 LAY Q) 2 [(2, 20), (0, num), (0, k)] [] LAY M 0 0) (M 20 1) (fun k hk_k ih => ?_) k hk_k
  intro k0 hl
  have hn := hw.2.2
  have hE := fun i i0 i1 => (hw.1 i i0 i1).1
  refine px_go_ok (inl := []) 60 ?_
  simp only [px_go, px_Q0_at, px_sx_0, px_sx_s, px_cl, px_step, ↓px_ll, px_lg, f4_, ↓px_r1, ↓px_r2, ↓px_r4, ↓px_r5, ↓px_p1, ↓px_p2, ↓px_p3, ↓px_pop, px_k_0, px_k_s, px_k3_0, px_stk_, px_cats, px_ent, px_st1, px_st2, px_mask, ↓px_tsw, ↓px_lsw, ct_, mls_0, mls_1, mls_2, mls_3, mls_4, mls_5, kd_0, kd_1, kd_2, kd_3, ln_0, ln_1, ln_2, ln_3, gf_0, gf_1, gf_2, gf_3, gf_4, gf_7, gf_21, gf_63, dy_0, dy_1, dy_2, dy_3, dy_7, dy_21, px_brT, px_brF, true_and, and_true, and_false, false_and, and_self, true_implies, false_implies, or_true, true_or, or_false, false_or, eq_self, ne_eq, not_false_eq_true, not_true_eq_false, if_true, if_false, List.mem_cons, List.not_mem_nil, List.length_cons, List.length_nil, Nat.reduceEqDiff, Nat.reduceAdd, Nat.reduceSub, Nat.reduceLeDiff, Nat.reduceLT, Int.reduceEq, Int.reduceLT, Int.reduceLE, Int.reduceNeg, Int.reduceAdd, Int.reduceSub, Int.reduceToNat, ↓reduceIte, one_ne_zero_, zero_ne_one_, px_in32L, cd_46]
  repeat' (first | (with_reducible apply And.intro) | (with_reducible refine px_br_intro (fun _ => ?_) (fun _ => ?_)))
  all_goals (try (first | (unfold px_in32; omega) | omega))
  · rename_i c1
    have e : slot M num = -1 := fnd_miss (fun j j0 j1 => hl j j0 (by omega))
    rw [e] at h; exact h
  · exact (isE_lay (hE _ (by omega) (by omega))).1
  · rename_i c1 c2
    rw [(isE_gf (hE k k0 (by omega)) M).2.2.2.1] at c2
    have e : slot M num = k := fnd_hit k0 (by omega) c2 hl
    rw [e] at h; exact h
  · rename_i c1 c2
    rw [(isE_gf (hE k k0 (by omega)) M).2.2.2.1] at c2
    exact ih (by omega) (by omega) (fun j j0 j1 => by
      by_cases e : j = k
      · rw [e]; exact c2
      · exact hl j j0 (by omega))
set_option maxHeartbeats 600000 in
set_option maxRecDepth 100000 in
theorem sp_edPlaceOf {num : Int} (hw : edW M) (h : Q (some (0, slot M num)) M) : px_Ok 46 [(2, 20), (0, num)] LAY M Q := by
  refine px_ok_go (inl := []) (ls0 := [(2, 20), (0, num), (9, 0)]) 60 (by decide) (Nat.le_of_ble_eq_true rfl) rfl ?_
  simp only [px_go, px_Q0_at, px_sx_0, px_sx_s, px_cl, px_step, ↓px_ll, px_lg, f4_, ↓px_r1, ↓px_r2, ↓px_r4, ↓px_r5, ↓px_p1, ↓px_p2, ↓px_p3, ↓px_pop, px_k_0, px_k_s, px_k3_0, px_stk_, px_cats, px_ent, px_st1, px_st2, px_mask, ↓px_tsw, ↓px_lsw, ct_, mls_0, mls_1, mls_2, mls_3, mls_4, mls_5, kd_0, kd_1, kd_2, kd_3, ln_0, ln_1, ln_2, ln_3, gf_0, gf_1, gf_2, gf_3, gf_4, gf_7, gf_21, gf_63, dy_0, dy_1, dy_2, dy_3, dy_7, dy_21, px_brT, px_brF, true_and, and_true, and_false, false_and, and_self, true_implies, false_implies, or_true, true_or, or_false, false_or, eq_self, ne_eq, not_false_eq_true, not_true_eq_false, if_true, if_false, List.mem_cons, List.not_mem_nil, List.length_cons, List.length_nil, Nat.reduceEqDiff, Nat.reduceAdd, Nat.reduceSub, Nat.reduceLeDiff, Nat.reduceLT, Int.reduceEq, Int.reduceLT, Int.reduceLE, Int.reduceNeg, Int.reduceAdd, Int.reduceSub, Int.reduceToNat, ↓reduceIte, one_ne_zero_, zero_ne_one_, px_in32L, cd_46]
  repeat' (first | (with_reducible apply And.intro) | (with_reducible refine px_br_intro (fun _ => ?_) (fun _ => ?_)))
  all_goals (try (first | (unfold px_in32; omega) | omega))
  exact lp_edPlaceOf hw h 0 hw.2.2.1 (Int.le_refl 0) (fun j j0 j1 => by omega)
set_option maxHeartbeats 600000 in
set_option maxRecDepth 100000 in
theorem sp_placed {i : Int} (hw : edW M) (h : Q (some (2, if 0 ≤ i ∧ i < M 20 1 then M 21 i else 0)) M) : px_Ok 45 [(2, 20), (0, i)] LAY M Q := by
  have hn := hw.2.2
  refine px_ok_go (inl := []) (ls0 := [(2, 20), (0, i)]) 60 (by decide) (Nat.le_of_ble_eq_true rfl) rfl ?_
  simp only [px_go, px_Q0_at, px_sx_0, px_sx_s, px_cl, px_step, ↓px_ll, px_lg, f4_, ↓px_r1, ↓px_r2, ↓px_r4, ↓px_r5, ↓px_p1, ↓px_p2, ↓px_p3, ↓px_pop, px_k_0, px_k_s, px_k3_0, px_stk_, px_cats, px_ent, px_st1, px_st2, px_mask, ↓px_tsw, ↓px_lsw, ct_, mls_0, mls_1, mls_2, mls_3, mls_4, mls_5, kd_0, kd_1, kd_2, kd_3, ln_0, ln_1, ln_2, ln_3, gf_0, gf_1, gf_2, gf_3, gf_4, gf_7, gf_21, gf_63, dy_0, dy_1, dy_2, dy_3, dy_7, dy_21, px_brT, px_brF, true_and, and_true, and_false, false_and, and_self, true_implies, false_implies, or_true, true_or, or_false, false_or, eq_self, ne_eq, not_false_eq_true, not_true_eq_false, if_true, if_false, List.mem_cons, List.not_mem_nil, List.length_cons, List.length_nil, Nat.reduceEqDiff, Nat.reduceAdd, Nat.reduceSub, Nat.reduceLeDiff, Nat.reduceLT, Int.reduceEq, Int.reduceLT, Int.reduceLE, Int.reduceNeg, Int.reduceAdd, Int.reduceSub, Int.reduceToNat, ↓reduceIte, one_ne_zero_, zero_ne_one_, px_in32L, cd_45]
  repeat' (first | (with_reducible apply And.intro) | (with_reducible refine px_br_intro (fun _ => ?_) (fun _ => ?_)))
  all_goals (try (first | (unfold px_in32; omega) | omega))
  · rw [if_neg (by omega)] at h; exact h
  · rw [if_neg (by omega)] at h; exact h
  · rw [if_pos (by omega)] at h; exact h
set_option maxHeartbeats 600000 in
set_option maxRecDepth 100000 in
theorem sp_numbered {num : Int} (hw : edW M) (h : Q (some (2, edR M num)) M) : px_Ok 47 [(2, 20), (0, num)] LAY M Q := by
  refine px_ok_go (inl := []) (ls0 := [(2, 20), (0, num)]) 60 (by decide) (Nat.le_of_ble_eq_true rfl) rfl ?_
  simp only [px_go, px_Q0_at, px_sx_0, px_sx_s, px_cl, px_step, ↓px_ll, px_lg, f4_, ↓px_r1, ↓px_r2, ↓px_r4, ↓px_r5, ↓px_p1, ↓px_p2, ↓px_p3, ↓px_pop, px_k_0, px_k_s, px_k3_0, px_stk_, px_cats, px_ent, px_st1, px_st2, px_mask, ↓px_tsw, ↓px_lsw, ct_, mls_0, mls_1, mls_2, mls_3, mls_4, mls_5, kd_0, kd_1, kd_2, kd_3, ln_0, ln_1, ln_2, ln_3, gf_0, gf_1, gf_2, gf_3, gf_4, gf_7, gf_21, gf_63, dy_0, dy_1, dy_2, dy_3, dy_7, dy_21, px_brT, px_brF, true_and, and_true, and_false, false_and, and_self, true_implies, false_implies, or_true, true_or, or_false, false_or, eq_self, ne_eq, not_false_eq_true, not_true_eq_false, if_true, if_false, List.mem_cons, List.not_mem_nil, List.length_cons, List.length_nil, Nat.reduceEqDiff, Nat.reduceAdd, Nat.reduceSub, Nat.reduceLeDiff, Nat.reduceLT, Int.reduceEq, Int.reduceLT, Int.reduceLE, Int.reduceNeg, Int.reduceAdd, Int.reduceSub, Int.reduceToNat, ↓reduceIte, one_ne_zero_, zero_ne_one_, px_in32L, cd_47]
  repeat' (first | (with_reducible apply And.intro) | (with_reducible refine px_br_intro (fun _ => ?_) (fun _ => ?_)))
  all_goals (try (first | (unfold px_in32; omega) | omega))
  refine sp_edPlaceOf hw ?_
  simp only [px_go, px_Q0_at, px_sx_0, px_sx_s, px_cl, px_step, ↓px_ll, px_lg, f4_, ↓px_r1, ↓px_r2, ↓px_r4, ↓px_r5, ↓px_p1, ↓px_p2, ↓px_p3, ↓px_pop, px_k_0, px_k_s, px_k3_0, px_stk_, px_cats, px_ent, px_st1, px_st2, px_mask, ↓px_tsw, ↓px_lsw, ct_, mls_0, mls_1, mls_2, mls_3, mls_4, mls_5, kd_0, kd_1, kd_2, kd_3, ln_0, ln_1, ln_2, ln_3, gf_0, gf_1, gf_2, gf_3, gf_4, gf_7, gf_21, gf_63, dy_0, dy_1, dy_2, dy_3, dy_7, dy_21, px_brT, px_brF, true_and, and_true, and_false, false_and, and_self, true_implies, false_implies, or_true, true_or, or_false, false_or, eq_self, ne_eq, not_false_eq_true, not_true_eq_false, if_true, if_false, List.mem_cons, List.not_mem_nil, List.length_cons, List.length_nil, Nat.reduceEqDiff, Nat.reduceAdd, Nat.reduceSub, Nat.reduceLeDiff, Nat.reduceLT, Int.reduceEq, Int.reduceLT, Int.reduceLE, Int.reduceNeg, Int.reduceAdd, Int.reduceSub, Int.reduceToNat, ↓reduceIte, one_ne_zero_, zero_ne_one_, px_in32L, cd_47]
  refine sp_placed hw ?_
  simp only [px_go, px_Q0_at, px_sx_0, px_sx_s, px_cl, px_step, ↓px_ll, px_lg, f4_, ↓px_r1, ↓px_r2, ↓px_r4, ↓px_r5, ↓px_p1, ↓px_p2, ↓px_p3, ↓px_pop, px_k_0, px_k_s, px_k3_0, px_stk_, px_cats, px_ent, px_st1, px_st2, px_mask, ↓px_tsw, ↓px_lsw, ct_, mls_0, mls_1, mls_2, mls_3, mls_4, mls_5, kd_0, kd_1, kd_2, kd_3, ln_0, ln_1, ln_2, ln_3, gf_0, gf_1, gf_2, gf_3, gf_4, gf_7, gf_21, gf_63, dy_0, dy_1, dy_2, dy_3, dy_7, dy_21, px_brT, px_brF, true_and, and_true, and_false, false_and, and_self, true_implies, false_implies, or_true, true_or, or_false, false_or, eq_self, ne_eq, not_false_eq_true, not_true_eq_false, if_true, if_false, List.mem_cons, List.not_mem_nil, List.length_cons, List.length_nil, Nat.reduceEqDiff, Nat.reduceAdd, Nat.reduceSub, Nat.reduceLeDiff, Nat.reduceLT, Int.reduceEq, Int.reduceLT, Int.reduceLE, Int.reduceNeg, Int.reduceAdd, Int.reduceSub, Int.reduceToNat, ↓reduceIte, one_ne_zero_, zero_ne_one_, px_in32L, cd_47]
  have e : (if 0 ≤ slot M num ∧ slot M num < M 20 1 then M 21 (slot M num) else 0) = edR M num := by
    unfold edR
    rcases slot_rng (M := M) num with a | a
    · rw [if_neg (by omega), if_pos (by omega)]
    · rw [if_pos (by omega), if_neg (by omega)]
  rw [e]; exact h
noncomputable def bearer (M : px_mem) (c : Int) : Int := if c = 0 then -1 else fnd (M 20 1) (fun i => M (M 21 i) 7 = c)
set_option maxHeartbeats 600000 in
set_option maxRecDepth 100000 in
theorem lp_bearing {c : Int} (hw : edW M) (h : Q (some (2, if bearer M c < 0 then 0 else M 21 (bearer M c))) M) (k : Int) (hk_k : k ≤ M 20 1) : 0 ≤ k → (∀ j, 0 ≤ j → j < k → M (M 21 j) 7 ≠ c) → px_WP 48 0 0 (px_Q0 LAY Q) 2 [(2, 20), (1, c), (9, 0), (0, k)] [] LAY M 0 0 := by
  refine up_ind (P := fun k => 0 ≤ k → (∀ j, 0 ≤ j → j < k → M (M 21 j) 7 ≠ c) → px_WP 48 0 0 (px_Q0 LAY Q) 2 [(2, 20), (1, c), (9, 0), (0, k)] [] LAY M 0 0) (M 20 1) (fun k hk_k ih => ?_) k hk_k
  intro k0 hl
  have hn := hw.2.2
  have hE := fun i i0 i1 => (hw.1 i i0 i1).1
  have hlc := (lcmp_lt c 0).2.1
  have hlc2 := (lcmp_lt (px_gf LAY M (M 21 k) 7) c).2.1
  refine px_go_ok (inl := []) 60 ?_
  simp only [px_go, px_Q0_at, px_sx_0, px_sx_s, px_cl, px_step, ↓px_ll, px_lg, f4_, ↓px_r1, ↓px_r2, ↓px_r4, ↓px_r5, ↓px_p1, ↓px_p2, ↓px_p3, ↓px_pop, px_k_0, px_k_s, px_k3_0, px_stk_, px_cats, px_ent, px_st1, px_st2, px_mask, ↓px_tsw, ↓px_lsw, ct_, mls_0, mls_1, mls_2, mls_3, mls_4, mls_5, kd_0, kd_1, kd_2, kd_3, ln_0, ln_1, ln_2, ln_3, gf_0, gf_1, gf_2, gf_3, gf_4, gf_7, gf_21, gf_63, dy_0, dy_1, dy_2, dy_3, dy_7, dy_21, px_brT, px_brF, true_and, and_true, and_false, false_and, and_self, true_implies, false_implies, or_true, true_or, or_false, false_or, eq_self, ne_eq, not_false_eq_true, not_true_eq_false, if_true, if_false, List.mem_cons, List.not_mem_nil, List.length_cons, List.length_nil, Nat.reduceEqDiff, Nat.reduceAdd, Nat.reduceSub, Nat.reduceLeDiff, Nat.reduceLT, Int.reduceEq, Int.reduceLT, Int.reduceLE, Int.reduceNeg, Int.reduceAdd, Int.reduceSub, Int.reduceToNat, ↓reduceIte, one_ne_zero_, zero_ne_one_, px_in32L, cd_48]
  repeat' (first | (with_reducible apply And.intro) | (with_reducible refine px_br_intro (fun _ => ?_) (fun _ => ?_)))
  all_goals (try (first | (unfold px_in32; omega) | omega))
  · rename_i c1
    have e : bearer M c = -1 := by
      unfold bearer
      split
      · rfl
      · exact fnd_miss (fun j j0 j1 => hl j j0 (by omega))
    rw [e] at h; exact h
  · rename_i c1 c2
    have e : bearer M c = -1 := by unfold bearer; rw [if_pos (hlc.mp c2)]
    rw [e] at h; exact h
  · exact (isE_lay (hE _ (by omega) (by omega))).1
  · rename_i c1 c2 c3
    have c4 := hlc2.mp c3
    rw [(isE_gf (hE k k0 (by omega)) M).2.2.2.2.2.2.2] at c4
    have e : bearer M c = k := by
      unfold bearer
      rw [if_neg (fun q => c2 (hlc.mpr q))]
      exact fnd_hit k0 (by omega) c4 hl
    rw [e, if_neg (by omega)] at h; exact h
  · rename_i c1 c2 c3
    have c4 : M (M 21 k) 7 ≠ c := fun q => c3 (hlc2.mpr (by rw [(isE_gf (hE k k0 (by omega)) M).2.2.2.2.2.2.2]; exact q))
    exact ih (by omega) (by omega) (fun j j0 j1 => by
      by_cases e : j = k
      · rw [e]; exact c4
      · exact hl j j0 (by omega))
set_option maxHeartbeats 600000 in
set_option maxRecDepth 100000 in
theorem sp_bearing {c : Int} (hw : edW M) (h : Q (some (2, if bearer M c < 0 then 0 else M 21 (bearer M c))) M) : px_Ok 48 [(2, 20), (1, c)] LAY M Q := by
  refine px_ok_go (inl := []) (ls0 := [(2, 20), (1, c), (9, 0), (9, 0)]) 60 (by decide) (Nat.le_of_ble_eq_true rfl) rfl ?_
  simp only [px_go, px_Q0_at, px_sx_0, px_sx_s, px_cl, px_step, ↓px_ll, px_lg, f4_, ↓px_r1, ↓px_r2, ↓px_r4, ↓px_r5, ↓px_p1, ↓px_p2, ↓px_p3, ↓px_pop, px_k_0, px_k_s, px_k3_0, px_stk_, px_cats, px_ent, px_st1, px_st2, px_mask, ↓px_tsw, ↓px_lsw, ct_, mls_0, mls_1, mls_2, mls_3, mls_4, mls_5, kd_0, kd_1, kd_2, kd_3, ln_0, ln_1, ln_2, ln_3, gf_0, gf_1, gf_2, gf_3, gf_4, gf_7, gf_21, gf_63, dy_0, dy_1, dy_2, dy_3, dy_7, dy_21, px_brT, px_brF, true_and, and_true, and_false, false_and, and_self, true_implies, false_implies, or_true, true_or, or_false, false_or, eq_self, ne_eq, not_false_eq_true, not_true_eq_false, if_true, if_false, List.mem_cons, List.not_mem_nil, List.length_cons, List.length_nil, Nat.reduceEqDiff, Nat.reduceAdd, Nat.reduceSub, Nat.reduceLeDiff, Nat.reduceLT, Int.reduceEq, Int.reduceLT, Int.reduceLE, Int.reduceNeg, Int.reduceAdd, Int.reduceSub, Int.reduceToNat, ↓reduceIte, one_ne_zero_, zero_ne_one_, px_in32L, cd_48]
  repeat' (first | (with_reducible apply And.intro) | (with_reducible refine px_br_intro (fun _ => ?_) (fun _ => ?_)))
  all_goals (try (first | (unfold px_in32; omega) | omega))
  exact lp_bearing hw h 0 hw.2.2.1 (Int.le_refl 0) (fun j j0 j1 => by omega)
noncomputable def setv (M : px_mem) (num : Int) : Int := if slot M num < 0 then 0 else px_ishl 1 (slot M num)
theorem setv_in {M : px_mem} (hw : edW M) (num : Int) : (0 ≤ setv M num ∧ setv M num < 2 ^ 10) ∧ ∀ i, 0 ≤ i → (inS (setv M num) i ↔ slot M num = i) := by
  unfold setv
  have hn := hw.2.2
  rcases slot_rng (M := M) num with a | a
  · rw [if_pos (by omega)]
    exact ⟨⟨by decide, by decide⟩, fun i i0 => ⟨fun q => absurd q (zero_in i), fun q => by omega⟩⟩
  · rw [if_neg (by omega)]
    refine ⟨ishl_lt a.1 (by omega) (by decide), fun i i0 => ?_⟩
    rw [ishl_in a.1 (by omega) i0]
    exact ⟨fun q => q.symm, fun q => q.symm⟩
set_option maxHeartbeats 600000 in
set_option maxRecDepth 100000 in
theorem sp_setOf {num : Int} (hw : edW M) (h : Q (some (0, setv M num)) M) : px_Ok 51 [(2, 20), (0, num)] LAY M Q := by
  refine px_ok_go (inl := []) (ls0 := [(2, 20), (0, num), (9, 0)]) 60 (by decide) (Nat.le_of_ble_eq_true rfl) rfl ?_
  simp only [px_go, px_Q0_at, px_sx_0, px_sx_s, px_cl, px_step, ↓px_ll, px_lg, f4_, ↓px_r1, ↓px_r2, ↓px_r4, ↓px_r5, ↓px_p1, ↓px_p2, ↓px_p3, ↓px_pop, px_k_0, px_k_s, px_k3_0, px_stk_, px_cats, px_ent, px_st1, px_st2, px_mask, ↓px_tsw, ↓px_lsw, ct_, mls_0, mls_1, mls_2, mls_3, mls_4, mls_5, kd_0, kd_1, kd_2, kd_3, ln_0, ln_1, ln_2, ln_3, gf_0, gf_1, gf_2, gf_3, gf_4, gf_7, gf_21, gf_63, dy_0, dy_1, dy_2, dy_3, dy_7, dy_21, px_brT, px_brF, true_and, and_true, and_false, false_and, and_self, true_implies, false_implies, or_true, true_or, or_false, false_or, eq_self, ne_eq, not_false_eq_true, not_true_eq_false, if_true, if_false, List.mem_cons, List.not_mem_nil, List.length_cons, List.length_nil, Nat.reduceEqDiff, Nat.reduceAdd, Nat.reduceSub, Nat.reduceLeDiff, Nat.reduceLT, Int.reduceEq, Int.reduceLT, Int.reduceLE, Int.reduceNeg, Int.reduceAdd, Int.reduceSub, Int.reduceToNat, ↓reduceIte, one_ne_zero_, zero_ne_one_, px_in32L, cd_51]
  repeat' (first | (with_reducible apply And.intro) | (with_reducible refine px_br_intro (fun _ => ?_) (fun _ => ?_)))
  all_goals (try (first | (unfold px_in32; omega) | omega))
  refine sp_edPlaceOf hw ?_
  simp only [px_go, px_Q0_at, px_sx_0, px_sx_s, px_cl, px_step, ↓px_ll, px_lg, f4_, ↓px_r1, ↓px_r2, ↓px_r4, ↓px_r5, ↓px_p1, ↓px_p2, ↓px_p3, ↓px_pop, px_k_0, px_k_s, px_k3_0, px_stk_, px_cats, px_ent, px_st1, px_st2, px_mask, ↓px_tsw, ↓px_lsw, ct_, mls_0, mls_1, mls_2, mls_3, mls_4, mls_5, kd_0, kd_1, kd_2, kd_3, ln_0, ln_1, ln_2, ln_3, gf_0, gf_1, gf_2, gf_3, gf_4, gf_7, gf_21, gf_63, dy_0, dy_1, dy_2, dy_3, dy_7, dy_21, px_brT, px_brF, true_and, and_true, and_false, false_and, and_self, true_implies, false_implies, or_true, true_or, or_false, false_or, eq_self, ne_eq, not_false_eq_true, not_true_eq_false, if_true, if_false, List.mem_cons, List.not_mem_nil, List.length_cons, List.length_nil, Nat.reduceEqDiff, Nat.reduceAdd, Nat.reduceSub, Nat.reduceLeDiff, Nat.reduceLT, Int.reduceEq, Int.reduceLT, Int.reduceLE, Int.reduceNeg, Int.reduceAdd, Int.reduceSub, Int.reduceToNat, ↓reduceIte, one_ne_zero_, zero_ne_one_, px_in32L, cd_51]
  repeat' (first | (with_reducible apply And.intro) | (with_reducible refine px_br_intro (fun _ => ?_) (fun _ => ?_)))
  all_goals (try (first | (unfold px_in32; omega) | omega))
  · rename_i c1
    unfold setv at h; rw [if_neg (by omega)] at h; exact h
  · rename_i c1
    unfold setv at h; rw [if_pos (by omega)] at h; exact h
/-- the editions that one is of, and so on -/
def par (M : px_mem) (i j : Int) : Prop := slot M (M (M 21 i) 4) = j ∨ slot M (M (M 21 i) 5) = j
def ancC (M : px_mem) (s a : Int) : Prop := (0 ≤ s ∧ s < 2 ^ 10) ∧ (∀ i, 0 ≤ i → inS s i → i < M 20 1) ∧ (0 ≤ slot M a → inS s (slot M a)) ∧ (∀ i j, 0 ≤ i → inS s i → 0 ≤ j → par M i j → inS s j) ∧ ∀ p : Int → Prop, (0 ≤ slot M a → p (slot M a)) → (∀ i j, 0 ≤ i → i < M 20 1 → p i → 0 ≤ j → par M i j → p j) → ∀ i, 0 ≤ i → inS s i → p i
/-- those that an edition is of came ahead of it -/
def acy (M : px_mem) : Prop := ∀ i j, 0 ≤ i → i < M 20 1 → par M i j → j < i
theorem ancC_uniq {M : px_mem} {s t a : Int} (h : ancC M s a) (h' : ancC M t a) : s = t := by
  refine inS_ext h.1.1 h'.1.1 (fun i i0 => ⟨fun q => ?_, fun q => ?_⟩)
  · exact h.2.2.2.2 (fun i => inS t i) h'.2.2.1 (fun i j i0 i1 pi j0 hp => h'.2.2.2.1 i j i0 pi j0 hp) i i0 q
  · exact h'.2.2.2.2 (fun i => inS s i) h.2.2.1 (fun i j i0 i1 pi j0 hp => h.2.2.2.1 i j i0 pi j0 hp) i i0 q
set_option maxHeartbeats 600000 in
set_option maxRecDepth 100000 in
theorem lp_anc {a : Int} (hw : edW M) (ha : acy M) (h : ∀ s, ancC M s a → Q (some (0, s)) M) (k : Int) (hk_k : -1 ≤ k) : ∀ s, k < M 20 1 → (0 ≤ s ∧ s < 2 ^ 10) → (∀ i, 0 ≤ i → inS s i → i < M 20 1) → (0 ≤ slot M a → inS s (slot M a)) → (∀ i j, 0 ≤ i → k < i → inS s i → 0 ≤ j → par M i j → inS s j) → (∀ p : Int → Prop, (0 ≤ slot M a → p (slot M a)) → (∀ i j, 0 ≤ i → i < M 20 1 → p i → 0 ≤ j → par M i j → p j) → ∀ i, 0 ≤ i → inS s i → p i) → px_WP 52 0 0 (px_Q0 LAY Q) 13 [(2, 20), (9, 0), (0, s), (0, k)] [] LAY M 0 0 := by
  refine dn_ind (P := fun k => ∀ s, k < M 20 1 → (0 ≤ s ∧ s < 2 ^ 10) → (∀ i, 0 ≤ i → inS s i → i < M 20 1) → (0 ≤ slot M a → inS s (slot M a)) → (∀ i j, 0 ≤ i → k < i → inS s i → 0 ≤ j → par M i j → inS s j) → (∀ p : Int → Prop, (0 ≤ slot M a → p (slot M a)) → (∀ i j, 0 ≤ i → i < M 20 1 → p i → 0 ≤ j → par M i j → p j) → ∀ i, 0 ≤ i → inS s i → p i) → px_WP 52 0 0 (px_Q0 LAY Q) 13 [(2, 20), (9, 0), (0, s), (0, k)] [] LAY M 0 0) (-1) (fun k hk_k ih => ?_) k hk_k
  intro s k1 hs hb hst hcl hmin
  have hn := hw.2.2
  have hE := fun i i0 i1 => (hw.1 i i0 i1).1
  have e10 : (2 : Int) ^ 10 = 1024 := rfl
  have hbit := fun q0 q1 => bit_u0 (a := s) (b := k) q0 q1 ⟨by omega, by omega⟩
  refine px_go_ok (inl := []) 60 ?_
  simp only [px_go, px_Q0_at, px_sx_0, px_sx_s, px_cl, px_step, ↓px_ll, px_lg, f4_, ↓px_r1, ↓px_r2, ↓px_r4, ↓px_r5, ↓px_p1, ↓px_p2, ↓px_p3, ↓px_pop, px_k_0, px_k_s, px_k3_0, px_stk_, px_cats, px_ent, px_st1, px_st2, px_mask, ↓px_tsw, ↓px_lsw, ct_, mls_0, mls_1, mls_2, mls_3, mls_4, mls_5, kd_0, kd_1, kd_2, kd_3, ln_0, ln_1, ln_2, ln_3, gf_0, gf_1, gf_2, gf_3, gf_4, gf_7, gf_21, gf_63, dy_0, dy_1, dy_2, dy_3, dy_7, dy_21, px_brT, px_brF, true_and, and_true, and_false, false_and, and_self, true_implies, false_implies, or_true, true_or, or_false, false_or, eq_self, ne_eq, not_false_eq_true, not_true_eq_false, if_true, if_false, List.mem_cons, List.not_mem_nil, List.length_cons, List.length_nil, Nat.reduceEqDiff, Nat.reduceAdd, Nat.reduceSub, Nat.reduceLeDiff, Nat.reduceLT, Int.reduceEq, Int.reduceLT, Int.reduceLE, Int.reduceNeg, Int.reduceAdd, Int.reduceSub, Int.reduceToNat, ↓reduceIte, one_ne_zero_, zero_ne_one_, px_in32L, cd_52]
  repeat' (first | (with_reducible apply And.intro) | (with_reducible refine px_br_intro (fun _ => ?_) (fun _ => ?_)))
  all_goals (try (first | (unfold px_in32; omega) | omega))
  · rename_i c1
    exact h s ⟨hs, hb, hst, fun i j i0 hi j0 hp => hcl i j i0 (by omega) hi j0 hp, hmin⟩
  · rename_i c1 c2
    have c3 := (hbit (by omega) (by omega)).mp c2
    refine ih (by omega) s (by omega) hs hb hst (fun i j i0 i1 hi j0 hp => ?_) hmin
    by_cases e : i = k
    · rw [e] at hi; exact absurd hi c3
    · exact hcl i j i0 (by omega) hi j0 hp
  · exact (isE_lay (hE _ (by omega) (by omega))).1
  · rename_i c1 c2
    have c3 : inS s k := by
      by_cases q : inS s k
      · exact q
      · exact absurd ((hbit (by omega) (by omega)).mpr q) c2
    rw [(isE_gf (hE k (by omega) (by omega)) M).2.2.2.2.1]
    refine sp_setOf hw ?_
    simp only [px_go, px_Q0_at, px_sx_0, px_sx_s, px_cl, px_step, ↓px_ll, px_lg, f4_, ↓px_r1, ↓px_r2, ↓px_r4, ↓px_r5, ↓px_p1, ↓px_p2, ↓px_p3, ↓px_pop, px_k_0, px_k_s, px_k3_0, px_stk_, px_cats, px_ent, px_st1, px_st2, px_mask, ↓px_tsw, ↓px_lsw, ct_, mls_0, mls_1, mls_2, mls_3, mls_4, mls_5, kd_0, kd_1, kd_2, kd_3, ln_0, ln_1, ln_2, ln_3, gf_0, gf_1, gf_2, gf_3, gf_4, gf_7, gf_21, gf_63, dy_0, dy_1, dy_2, dy_3, dy_7, dy_21, px_brT, px_brF, true_and, and_true, and_false, false_and, and_self, true_implies, false_implies, or_true, true_or, or_false, false_or, eq_self, ne_eq, not_false_eq_true, not_true_eq_false, if_true, if_false, List.mem_cons, List.not_mem_nil, List.length_cons, List.length_nil, Nat.reduceEqDiff, Nat.reduceAdd, Nat.reduceSub, Nat.reduceLeDiff, Nat.reduceLT, Int.reduceEq, Int.reduceLT, Int.reduceLE, Int.reduceNeg, Int.reduceAdd, Int.reduceSub, Int.reduceToNat, ↓reduceIte, one_ne_zero_, zero_ne_one_, px_in32L, cd_52]
    repeat' (first | (with_reducible apply And.intro) | (with_reducible refine px_br_intro (fun _ => ?_) (fun _ => ?_)))
    all_goals (try (first | (unfold px_in32; omega) | omega))
    · exact (isE_lay (hE _ (by omega) (by omega))).1
    · rw [(isE_gf (hE k (by omega) (by omega)) M).2.2.2.2.2.1]
      refine sp_setOf hw ?_
      simp only [px_go, px_Q0_at, px_sx_0, px_sx_s, px_cl, px_step, ↓px_ll, px_lg, f4_, ↓px_r1, ↓px_r2, ↓px_r4, ↓px_r5, ↓px_p1, ↓px_p2, ↓px_p3, ↓px_pop, px_k_0, px_k_s, px_k3_0, px_stk_, px_cats, px_ent, px_st1, px_st2, px_mask, ↓px_tsw, ↓px_lsw, ct_, mls_0, mls_1, mls_2, mls_3, mls_4, mls_5, kd_0, kd_1, kd_2, kd_3, ln_0, ln_1, ln_2, ln_3, gf_0, gf_1, gf_2, gf_3, gf_4, gf_7, gf_21, gf_63, dy_0, dy_1, dy_2, dy_3, dy_7, dy_21, px_brT, px_brF, true_and, and_true, and_false, false_and, and_self, true_implies, false_implies, or_true, true_or, or_false, false_or, eq_self, ne_eq, not_false_eq_true, not_true_eq_false, if_true, if_false, List.mem_cons, List.not_mem_nil, List.length_cons, List.length_nil, Nat.reduceEqDiff, Nat.reduceAdd, Nat.reduceSub, Nat.reduceLeDiff, Nat.reduceLT, Int.reduceEq, Int.reduceLT, Int.reduceLE, Int.reduceNeg, Int.reduceAdd, Int.reduceSub, Int.reduceToNat, ↓reduceIte, one_ne_zero_, zero_ne_one_, px_in32L, cd_52]
      repeat' (first | (with_reducible apply And.intro) | (with_reducible refine px_br_intro (fun _ => ?_) (fun _ => ?_)))
      all_goals (try (first | (unfold px_in32; omega) | omega))
      have s1 := setv_in hw (M (M 21 k) 4)
      have s2 := setv_in hw (M (M 21 k) 5)
      have o1 := ior_lt (n := 10) (by decide) s1.1 s2.1
      have o2 := ior_lt (n := 10) (by decide) hs o1
      have hin : ∀ i, 0 ≤ i → (inS (px_ior s (px_ior (setv M (M (M 21 k) 4)) (setv M (M (M 21 k) 5)))) i ↔ inS s i ∨ par M k i) := fun i i0 => by
        rw [ior_in ⟨by omega, by omega⟩ ⟨by omega, by omega⟩, ior_in ⟨by omega, by omega⟩ ⟨by omega, by omega⟩, s1.2 i i0, s2.2 i i0]
        exact Iff.rfl
      have hpar : ∀ i, par M k i → i < M 20 1 := fun i hp => by have := ha k i (by omega) (by omega) hp; omega
      generalize px_ior s (px_ior (setv M (M (M 21 k) 4)) (setv M (M (M 21 k) 5))) = t at *
      rw [show k + -1 = k - 1 by omega]
      refine ih (by omega) t (by omega) o2 (fun i i0 hi => ?_) (fun q => (hin _ q).mpr (Or.inl (hst q))) (fun i j i0 i1 hi j0 hp => ?_) (fun p p1 p2 i i0 hi => ?_)
      · rcases (hin i i0).mp hi with q | q
        · exact hb i i0 q
        · exact hpar i q
      · rw [hin j j0]
        rcases (hin i i0).mp hi with q | q
        · by_cases e : i = k
          · rw [e] at hp; exact Or.inr hp
          · exact Or.inl (hcl i j i0 (by omega) q j0 hp)
        · have := ha k i (by omega) (by omega) q; omega
      · rcases (hin i i0).mp hi with q | q
        · exact hmin p p1 p2 i i0 q
        · exact p2 k i (by omega) (by omega) (hmin p p1 p2 k (by omega) c3) i0 q
set_option maxHeartbeats 600000 in
set_option maxRecDepth 100000 in
theorem sp_ancestorSet {a : Int} (hw : edW M) (ha : acy M) (h : ∀ s, ancC M s a → Q (some (0, s)) M) : px_Ok 52 [(2, 20), (0, a)] LAY M Q := by
  have hn := hw.2.2
  refine px_ok_go (inl := []) (ls0 := [(2, 20), (0, a), (9, 0), (9, 0)]) 60 (by decide) (Nat.le_of_ble_eq_true rfl) rfl ?_
  simp only [px_go, px_Q0_at, px_sx_0, px_sx_s, px_cl, px_step, ↓px_ll, px_lg, f4_, ↓px_r1, ↓px_r2, ↓px_r4, ↓px_r5, ↓px_p1, ↓px_p2, ↓px_p3, ↓px_pop, px_k_0, px_k_s, px_k3_0, px_stk_, px_cats, px_ent, px_st1, px_st2, px_mask, ↓px_tsw, ↓px_lsw, ct_, mls_0, mls_1, mls_2, mls_3, mls_4, mls_5, kd_0, kd_1, kd_2, kd_3, ln_0, ln_1, ln_2, ln_3, gf_0, gf_1, gf_2, gf_3, gf_4, gf_7, gf_21, gf_63, dy_0, dy_1, dy_2, dy_3, dy_7, dy_21, px_brT, px_brF, true_and, and_true, and_false, false_and, and_self, true_implies, false_implies, or_true, true_or, or_false, false_or, eq_self, ne_eq, not_false_eq_true, not_true_eq_false, if_true, if_false, List.mem_cons, List.not_mem_nil, List.length_cons, List.length_nil, Nat.reduceEqDiff, Nat.reduceAdd, Nat.reduceSub, Nat.reduceLeDiff, Nat.reduceLT, Int.reduceEq, Int.reduceLT, Int.reduceLE, Int.reduceNeg, Int.reduceAdd, Int.reduceSub, Int.reduceToNat, ↓reduceIte, one_ne_zero_, zero_ne_one_, px_in32L, cd_52]
  repeat' (first | (with_reducible apply And.intro) | (with_reducible refine px_br_intro (fun _ => ?_) (fun _ => ?_)))
  all_goals (try (first | (unfold px_in32; omega) | omega))
  refine sp_setOf hw ?_
  have s1 := setv_in hw a
  simp only [px_go, px_Q0_at, px_sx_0, px_sx_s, px_cl, px_step, ↓px_ll, px_lg, f4_, ↓px_r1, ↓px_r2, ↓px_r4, ↓px_r5, ↓px_p1, ↓px_p2, ↓px_p3, ↓px_pop, px_k_0, px_k_s, px_k3_0, px_stk_, px_cats, px_ent, px_st1, px_st2, px_mask, ↓px_tsw, ↓px_lsw, ct_, mls_0, mls_1, mls_2, mls_3, mls_4, mls_5, kd_0, kd_1, kd_2, kd_3, ln_0, ln_1, ln_2, ln_3, gf_0, gf_1, gf_2, gf_3, gf_4, gf_7, gf_21, gf_63, dy_0, dy_1, dy_2, dy_3, dy_7, dy_21, px_brT, px_brF, true_and, and_true, and_false, false_and, and_self, true_implies, false_implies, or_true, true_or, or_false, false_or, eq_self, ne_eq, not_false_eq_true, not_true_eq_false, if_true, if_false, List.mem_cons, List.not_mem_nil, List.length_cons, List.length_nil, Nat.reduceEqDiff, Nat.reduceAdd, Nat.reduceSub, Nat.reduceLeDiff, Nat.reduceLT, Int.reduceEq, Int.reduceLT, Int.reduceLE, Int.reduceNeg, Int.reduceAdd, Int.reduceSub, Int.reduceToNat, ↓reduceIte, one_ne_zero_, zero_ne_one_, px_in32L, cd_52]
  repeat' (first | (with_reducible apply And.intro) | (with_reducible refine px_br_intro (fun _ => ?_) (fun _ => ?_)))
  all_goals (try (first | (unfold px_in32; omega) | omega))
  refine lp_anc hw ha h (M 20 1 - 1) (by omega) (setv M a) (by omega) s1.1 (fun i i0 hi => ?_) (fun q => (s1.2 _ q).mpr rfl) (fun i j i0 i1 hi _ _ => ?_) (fun p p1 p2 i i0 hi => ?_)
  · have := (s1.2 i i0).mp hi
    rcases slot_rng (M := M) a with b | b <;> omega
  · have := (s1.2 i i0).mp hi
    rcases slot_rng (M := M) a with b | b <;> omega
  · have := (s1.2 i i0).mp hi
    rw [← this]; exact p1 (by omega)
/-- the latest that both come of -/
def comC (M : px_mem) (a b r : Int) : Prop := ∃ s t, ancC M s a ∧ ancC M t b ∧ ((r = -2 ∧ ∀ i, 0 ≤ i → i < M 20 1 → ¬ (inS s i ∧ inS t i)) ∨ ∃ i, 0 ≤ i ∧ i < M 20 1 ∧ inS s i ∧ inS t i ∧ r = M (M 21 i) 3 ∧ ∀ j, i < j → j < M 20 1 → ¬ (inS s j ∧ inS t j))
set_option maxHeartbeats 600000 in
set_option maxRecDepth 100000 in
theorem lp_common {a b s t : Int} (hw : edW M) (hs : ancC M s a) (ht : ancC M t b) (h : ∀ r, comC M a b r → Q (some (0, r)) M) (k : Int) (hk_k : -1 ≤ k) : k < M 20 1 → (∀ j, k < j → j < M 20 1 → ¬ (inS s j ∧ inS t j)) → px_WP 53 0 0 (px_Q0 LAY Q) 20 [(2, 20), (9, 0), (9, 0), (0, px_iand s t), (0, k)] [] LAY M 0 0 := by
  refine dn_ind (P := fun k => k < M 20 1 → (∀ j, k < j → j < M 20 1 → ¬ (inS s j ∧ inS t j)) → px_WP 53 0 0 (px_Q0 LAY Q) 20 [(2, 20), (9, 0), (9, 0), (0, px_iand s t), (0, k)] [] LAY M 0 0) (-1) (fun k hk_k ih => ?_) k hk_k
  intro k1 hl
  have hn := hw.2.2
  have hE := fun i i0 i1 => (hw.1 i i0 i1).1
  have e10 : (2 : Int) ^ 10 = 1024 := rfl
  have hs1 := hs.1
  have ht1 := ht.1
  have hal := iand_lt (n := 10) (by decide) hs.1 ht.1
  have hbit := fun q0 q1 => bit_u0 (a := px_iand s t) (b := k) q0 q1 ⟨by omega, by omega⟩
  have hai := iand_in (a := s) (b := t) ⟨by omega, by omega⟩ ⟨by omega, by omega⟩ k
  refine px_go_ok (inl := []) 60 ?_
  simp only [px_go, px_Q0_at, px_sx_0, px_sx_s, px_cl, px_step, ↓px_ll, px_lg, f4_, ↓px_r1, ↓px_r2, ↓px_r4, ↓px_r5, ↓px_p1, ↓px_p2, ↓px_p3, ↓px_pop, px_k_0, px_k_s, px_k3_0, px_stk_, px_cats, px_ent, px_st1, px_st2, px_mask, ↓px_tsw, ↓px_lsw, ct_, mls_0, mls_1, mls_2, mls_3, mls_4, mls_5, kd_0, kd_1, kd_2, kd_3, ln_0, ln_1, ln_2, ln_3, gf_0, gf_1, gf_2, gf_3, gf_4, gf_7, gf_21, gf_63, dy_0, dy_1, dy_2, dy_3, dy_7, dy_21, px_brT, px_brF, true_and, and_true, and_false, false_and, and_self, true_implies, false_implies, or_true, true_or, or_false, false_or, eq_self, ne_eq, not_false_eq_true, not_true_eq_false, if_true, if_false, List.mem_cons, List.not_mem_nil, List.length_cons, List.length_nil, Nat.reduceEqDiff, Nat.reduceAdd, Nat.reduceSub, Nat.reduceLeDiff, Nat.reduceLT, Int.reduceEq, Int.reduceLT, Int.reduceLE, Int.reduceNeg, Int.reduceAdd, Int.reduceSub, Int.reduceToNat, ↓reduceIte, one_ne_zero_, zero_ne_one_, px_in32L, cd_53]
  repeat' (first | (with_reducible apply And.intro) | (with_reducible refine px_br_intro (fun _ => ?_) (fun _ => ?_)))
  all_goals (try (first | (unfold px_in32; omega) | omega))
  · rename_i c1
    exact h (-2) ⟨s, t, hs, ht, Or.inl ⟨rfl, fun i i0 i1 => hl i (by omega) i1⟩⟩
  · rename_i c1 c2
    have c3 := (hbit (by omega) (by omega)).mp c2
    rw [hai] at c3
    exact ih (by omega) (by omega) (fun j j0 j1 => by
      by_cases e : j = k
      · rw [e]; exact c3
      · exact hl j (by omega) j1)
  · exact (isE_lay (hE _ (by omega) (by omega))).1
  · rename_i c1 c2
    have c3 : inS (px_iand s t) k := by
      by_cases q : inS (px_iand s t) k
      · exact q
      · exact absurd ((hbit (by omega) (by omega)).mpr q) c2
    rw [hai] at c3
    rw [(isE_gf (hE k (by omega) (by omega)) M).2.2.2.1]
    exact h _ ⟨s, t, hs, ht, Or.inr ⟨k, by omega, by omega, c3.1, c3.2, rfl, hl⟩⟩
set_option maxHeartbeats 600000 in
set_option maxRecDepth 100000 in
theorem sp_commonOf {a b : Int} (hw : edW M) (ha : acy M) (h : ∀ r, comC M a b r → Q (some (0, r)) M) : px_Ok 53 [(2, 20), (0, a), (0, b)] LAY M Q := by
  have hn := hw.2.2
  refine px_ok_go (inl := []) (ls0 := [(2, 20), (0, a), (0, b), (9, 0), (9, 0)]) 60 (by decide) (Nat.le_of_ble_eq_true rfl) rfl ?_
  simp only [px_go, px_Q0_at, px_sx_0, px_sx_s, px_cl, px_step, ↓px_ll, px_lg, f4_, ↓px_r1, ↓px_r2, ↓px_r4, ↓px_r5, ↓px_p1, ↓px_p2, ↓px_p3, ↓px_pop, px_k_0, px_k_s, px_k3_0, px_stk_, px_cats, px_ent, px_st1, px_st2, px_mask, ↓px_tsw, ↓px_lsw, ct_, mls_0, mls_1, mls_2, mls_3, mls_4, mls_5, kd_0, kd_1, kd_2, kd_3, ln_0, ln_1, ln_2, ln_3, gf_0, gf_1, gf_2, gf_3, gf_4, gf_7, gf_21, gf_63, dy_0, dy_1, dy_2, dy_3, dy_7, dy_21, px_brT, px_brF, true_and, and_true, and_false, false_and, and_self, true_implies, false_implies, or_true, true_or, or_false, false_or, eq_self, ne_eq, not_false_eq_true, not_true_eq_false, if_true, if_false, List.mem_cons, List.not_mem_nil, List.length_cons, List.length_nil, Nat.reduceEqDiff, Nat.reduceAdd, Nat.reduceSub, Nat.reduceLeDiff, Nat.reduceLT, Int.reduceEq, Int.reduceLT, Int.reduceLE, Int.reduceNeg, Int.reduceAdd, Int.reduceSub, Int.reduceToNat, ↓reduceIte, one_ne_zero_, zero_ne_one_, px_in32L, cd_53]
  repeat' (first | (with_reducible apply And.intro) | (with_reducible refine px_br_intro (fun _ => ?_) (fun _ => ?_)))
  all_goals (try (first | (unfold px_in32; omega) | omega))
  refine sp_ancestorSet hw ha (fun s hs => ?_)
  simp only [px_go, px_Q0_at, px_sx_0, px_sx_s, px_cl, px_step, ↓px_ll, px_lg, f4_, ↓px_r1, ↓px_r2, ↓px_r4, ↓px_r5, ↓px_p1, ↓px_p2, ↓px_p3, ↓px_pop, px_k_0, px_k_s, px_k3_0, px_stk_, px_cats, px_ent, px_st1, px_st2, px_mask, ↓px_tsw, ↓px_lsw, ct_, mls_0, mls_1, mls_2, mls_3, mls_4, mls_5, kd_0, kd_1, kd_2, kd_3, ln_0, ln_1, ln_2, ln_3, gf_0, gf_1, gf_2, gf_3, gf_4, gf_7, gf_21, gf_63, dy_0, dy_1, dy_2, dy_3, dy_7, dy_21, px_brT, px_brF, true_and, and_true, and_false, false_and, and_self, true_implies, false_implies, or_true, true_or, or_false, false_or, eq_self, ne_eq, not_false_eq_true, not_true_eq_false, if_true, if_false, List.mem_cons, List.not_mem_nil, List.length_cons, List.length_nil, Nat.reduceEqDiff, Nat.reduceAdd, Nat.reduceSub, Nat.reduceLeDiff, Nat.reduceLT, Int.reduceEq, Int.reduceLT, Int.reduceLE, Int.reduceNeg, Int.reduceAdd, Int.reduceSub, Int.reduceToNat, ↓reduceIte, one_ne_zero_, zero_ne_one_, px_in32L, cd_53]
  refine sp_ancestorSet hw ha (fun t ht => ?_)
  simp only [px_go, px_Q0_at, px_sx_0, px_sx_s, px_cl, px_step, ↓px_ll, px_lg, f4_, ↓px_r1, ↓px_r2, ↓px_r4, ↓px_r5, ↓px_p1, ↓px_p2, ↓px_p3, ↓px_pop, px_k_0, px_k_s, px_k3_0, px_stk_, px_cats, px_ent, px_st1, px_st2, px_mask, ↓px_tsw, ↓px_lsw, ct_, mls_0, mls_1, mls_2, mls_3, mls_4, mls_5, kd_0, kd_1, kd_2, kd_3, ln_0, ln_1, ln_2, ln_3, gf_0, gf_1, gf_2, gf_3, gf_4, gf_7, gf_21, gf_63, dy_0, dy_1, dy_2, dy_3, dy_7, dy_21, px_brT, px_brF, true_and, and_true, and_false, false_and, and_self, true_implies, false_implies, or_true, true_or, or_false, false_or, eq_self, ne_eq, not_false_eq_true, not_true_eq_false, if_true, if_false, List.mem_cons, List.not_mem_nil, List.length_cons, List.length_nil, Nat.reduceEqDiff, Nat.reduceAdd, Nat.reduceSub, Nat.reduceLeDiff, Nat.reduceLT, Int.reduceEq, Int.reduceLT, Int.reduceLE, Int.reduceNeg, Int.reduceAdd, Int.reduceSub, Int.reduceToNat, ↓reduceIte, one_ne_zero_, zero_ne_one_, px_in32L, cd_53]
  repeat' (first | (with_reducible apply And.intro) | (with_reducible refine px_br_intro (fun _ => ?_) (fun _ => ?_)))
  all_goals (try (first | (unfold px_in32; omega) | omega))
  exact lp_common hw hs ht h (M 20 1 - 1) (by omega) (by omega) (fun j j0 j1 => by omega)
def seaC (M : px_mem) (s : Int) : Prop := (0 ≤ s ∧ s < 2 ^ 10) ∧ ∀ i, 0 ≤ i → (inS s i ↔ i < M 20 1 ∧ M (M 21 i) 6 ≠ 0)
set_option maxHeartbeats 600000 in
set_option maxRecDepth 100000 in
theorem lp_sealed (hw : edW M) (h : ∀ s, seaC M s → Q (some (0, s)) M) (k : Int) (hk_k : k ≤ M 20 1) : ∀ s, 0 ≤ k → (0 ≤ s ∧ s < 2 ^ 10) → (∀ i, 0 ≤ i → (inS s i ↔ i < k ∧ M (M 21 i) 6 ≠ 0)) → px_WP 54 0 0 (px_Q0 LAY Q) 4 [(2, 20), (0, s), (0, k)] [] LAY M 0 0 := by
  refine up_ind (P := fun k => ∀ s, 0 ≤ k → (0 ≤ s ∧ s < 2 ^ 10) → (∀ i, 0 ≤ i → (inS s i ↔ i < k ∧ M (M 21 i) 6 ≠ 0)) → px_WP 54 0 0 (px_Q0 LAY Q) 4 [(2, 20), (0, s), (0, k)] [] LAY M 0 0) (M 20 1) (fun k hk_k ih => ?_) k hk_k
  intro s k0 hs hi
  have hn := hw.2.2
  have hE := fun i i0 i1 => (hw.1 i i0 i1).1
  have e10 : (2 : Int) ^ 10 = 1024 := rfl
  refine px_go_ok (inl := []) 60 ?_
  simp only [px_go, px_Q0_at, px_sx_0, px_sx_s, px_cl, px_step, ↓px_ll, px_lg, f4_, ↓px_r1, ↓px_r2, ↓px_r4, ↓px_r5, ↓px_p1, ↓px_p2, ↓px_p3, ↓px_pop, px_k_0, px_k_s, px_k3_0, px_stk_, px_cats, px_ent, px_st1, px_st2, px_mask, ↓px_tsw, ↓px_lsw, ct_, mls_0, mls_1, mls_2, mls_3, mls_4, mls_5, kd_0, kd_1, kd_2, kd_3, ln_0, ln_1, ln_2, ln_3, gf_0, gf_1, gf_2, gf_3, gf_4, gf_7, gf_21, gf_63, dy_0, dy_1, dy_2, dy_3, dy_7, dy_21, px_brT, px_brF, true_and, and_true, and_false, false_and, and_self, true_implies, false_implies, or_true, true_or, or_false, false_or, eq_self, ne_eq, not_false_eq_true, not_true_eq_false, if_true, if_false, List.mem_cons, List.not_mem_nil, List.length_cons, List.length_nil, Nat.reduceEqDiff, Nat.reduceAdd, Nat.reduceSub, Nat.reduceLeDiff, Nat.reduceLT, Int.reduceEq, Int.reduceLT, Int.reduceLE, Int.reduceNeg, Int.reduceAdd, Int.reduceSub, Int.reduceToNat, ↓reduceIte, one_ne_zero_, zero_ne_one_, px_in32L, cd_54]
  repeat' (first | (with_reducible apply And.intro) | (with_reducible refine px_br_intro (fun _ => ?_) (fun _ => ?_)))
  all_goals (try (first | (unfold px_in32; omega) | omega))
  · rename_i c1
    exact h s ⟨hs, fun i i0 => by rw [hi i i0, show k = M 20 1 by omega]⟩
  · exact (isE_lay (hE _ (by omega) (by omega))).1
  · rename_i c1 c2
    rw [(isE_gf (hE k (by omega) (by omega)) M).2.2.2.2.2.2.1] at c2
    refine ih (by omega) s (by omega) hs (fun i i0 => ?_)
    rw [hi i i0]
    by_cases e : i = k
    · rw [e]; exact ⟨fun q => ⟨by omega, q.2⟩, fun q => absurd c2 q.2⟩
    · exact ⟨fun q => ⟨by omega, q.2⟩, fun q => ⟨by omega, q.2⟩⟩
  · rename_i c1 c2
    rw [(isE_gf (hE k (by omega) (by omega)) M).2.2.2.2.2.2.1] at c2
    have hsl := ishl_lt (k := k) (n := 10) k0 (by omega) (by decide)
    refine ih (by omega) _ (by omega) (ior_lt (n := 10) (by decide) hs hsl) (fun i i0 => ?_)
    rw [ior_in ⟨by omega, by omega⟩ ⟨by omega, by omega⟩, hi i i0, ishl_in k0 (by omega) i0]
    by_cases e : i = k
    · rw [e]; exact ⟨fun _ => ⟨by omega, c2⟩, fun _ => Or.inr rfl⟩
    · exact ⟨fun q => ⟨by omega, by rcases q with q | q; exact q.2; exact absurd q e⟩, fun q => Or.inl ⟨by omega, q.2⟩⟩
set_option maxHeartbeats 600000 in
set_option maxRecDepth 100000 in
theorem sp_sealedSet (hw : edW M) (h : ∀ s, seaC M s → Q (some (0, s)) M) : px_Ok 54 [(2, 20)] LAY M Q := by
  refine px_ok_go (inl := []) (ls0 := [(2, 20), (9, 0), (9, 0)]) 60 (by decide) (Nat.le_of_ble_eq_true rfl) rfl ?_
  simp only [px_go, px_Q0_at, px_sx_0, px_sx_s, px_cl, px_step, ↓px_ll, px_lg, f4_, ↓px_r1, ↓px_r2, ↓px_r4, ↓px_r5, ↓px_p1, ↓px_p2, ↓px_p3, ↓px_pop, px_k_0, px_k_s, px_k3_0, px_stk_, px_cats, px_ent, px_st1, px_st2, px_mask, ↓px_tsw, ↓px_lsw, ct_, mls_0, mls_1, mls_2, mls_3, mls_4, mls_5, kd_0, kd_1, kd_2, kd_3, ln_0, ln_1, ln_2, ln_3, gf_0, gf_1, gf_2, gf_3, gf_4, gf_7, gf_21, gf_63, dy_0, dy_1, dy_2, dy_3, dy_7, dy_21, px_brT, px_brF, true_and, and_true, and_false, false_and, and_self, true_implies, false_implies, or_true, true_or, or_false, false_or, eq_self, ne_eq, not_false_eq_true, not_true_eq_false, if_true, if_false, List.mem_cons, List.not_mem_nil, List.length_cons, List.length_nil, Nat.reduceEqDiff, Nat.reduceAdd, Nat.reduceSub, Nat.reduceLeDiff, Nat.reduceLT, Int.reduceEq, Int.reduceLT, Int.reduceLE, Int.reduceNeg, Int.reduceAdd, Int.reduceSub, Int.reduceToNat, ↓reduceIte, one_ne_zero_, zero_ne_one_, px_in32L, cd_54]
  repeat' (first | (with_reducible apply And.intro) | (with_reducible refine px_br_intro (fun _ => ?_) (fun _ => ?_)))
  all_goals (try (first | (unfold px_in32; omega) | omega))
  exact lp_sealed hw h 0 hw.2.2.1 0 (Int.le_refl 0) ⟨by decide, by decide⟩ (fun i i0 => ⟨fun q => absurd q (zero_in i), fun q => by omega⟩)
end PS
