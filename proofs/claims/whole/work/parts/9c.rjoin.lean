set_option maxRecDepth 100000 in
/-- X12_nextEntry -/
theorem cd_241 : px_at 241 0 = some (1, [], .iconst (-1), []) ∧ px_at 241 1 = some (2, [], .istore_n 1, []) ∧ px_at 241 2 = some (3, [], .iconst 0, []) ∧ px_at 241 3 = some (4, [], .istore_n 2, []) ∧ px_at 241 4 = some (5, [1, 1, 1, 0], .iload_n 2, []) ∧ px_at 241 5 = some (6, [], .iconst 3, []) ∧ px_at 241 6 = some (9, [], .if_icmp .ge 81, [87]) ∧ px_at 241 9 = some (10, [], .aload_n 0, []) ∧ px_at 241 10 = some (13, [], .getfield 63, [11, 24, 2, 1, 149]) ∧ px_at 241 13 = some (14, [], .iload_n 2, []) ∧ px_at 241 14 = some (15, [], .iaload, []) ∧ px_at 241 15 = some (16, [], .iconst (-1), []) ∧ px_at 241 16 = some (19, [], .if_icmp .eq 65, [81]) ∧ px_at 241 19 = some (20, [], .aload_n 0, []) ∧ px_at 241 20 = some (23, [], .getfield 60, [11, 23, 2, 1, 148]) ∧ px_at 241 23 = some (24, [], .iload_n 2, []) ∧ px_at 241 24 = some (25, [], .iaload, []) ∧ px_at 241 25 = some (26, [], .aload_n 0, []) ∧ px_at 241 26 = some (27, [], .aload_n 0, []) ∧ px_at 241 27 = some (30, [], .getfield 63, [11, 24, 2, 1, 149]) ∧ px_at 241 30 = some (31, [], .iload_n 2, []) ∧ px_at 241 31 = some (32, [], .iaload, []) ∧ px_at 241 32 = some (35, [], .invokevirtual 180, [206, 1, 11, 253]) ∧ px_at 241 35 = some (38, [], .if_icmp .lt 6, [41]) ∧ px_at 241 38 = some (41, [], .goto 43, [81]) ∧ px_at 241 41 = some (42, [], .aload_n 0, []) ∧ px_at 241 42 = some (43, [], .aload_n 0, []) ∧ px_at 241 43 = some (46, [], .getfield 63, [11, 24, 2, 1, 149]) ∧ px_at 241 46 = some (47, [], .iload_n 2, []) ∧ px_at 241 47 = some (48, [], .iaload, []) ∧ px_at 241 48 = some (49, [], .aload_n 0, []) ∧ px_at 241 49 = some (52, [], .getfield 60, [11, 23, 2, 1, 148]) ∧ px_at 241 52 = some (53, [], .iload_n 2, []) ∧ px_at 241 53 = some (54, [], .iaload, []) ∧ px_at 241 54 = some (57, [], .invokevirtual 177, [205, 2, 11, 254]) ∧ px_at 241 57 = some (58, [], .istore_n 3, []) ∧ px_at 241 58 = some (59, [], .iload_n 1, []) ∧ px_at 241 59 = some (60, [], .iconst (-1), []) ∧ px_at 241 60 = some (63, [], .if_icmp .eq 19, [79]) ∧ px_at 241 63 = some (64, [], .aload_n 0, []) ∧ px_at 241 64 = some (67, [], .getfield 7, [11, 0, 2, 1, 125]) ∧ px_at 241 67 = some (68, [], .iload_n 3, []) ∧ px_at 241 68 = some (69, [], .aload_n 0, []) ∧ px_at 241 69 = some (72, [], .getfield 7, [11, 0, 2, 1, 125]) ∧ px_at 241 72 = some (73, [], .iload_n 1, []) ∧ px_at 241 73 = some (76, [], .invokestatic 183, [182, 4, 11, 230]) ∧ px_at 241 76 = some (79, [], .ifCond .ge 5, [81]) ∧ px_at 241 79 = some (80, [], .iload_n 3, []) ∧ px_at 241 80 = some (81, [], .istore_n 1, []) ∧ px_at 241 81 = some (84, [], .iinc 2 1, []) ∧ px_at 241 84 = some (87, [], .goto (-80), [4]) ∧ px_at 241 87 = some (88, [], .iload_n 1, []) ∧ px_at 241 88 = some (89, [], .ireturn, [0]) := ⟨rfl, rfl, rfl, rfl, rfl, rfl, rfl, rfl, rfl, rfl, rfl, rfl, rfl, rfl, rfl, rfl, rfl, rfl, rfl, rfl, rfl, rfl, rfl, rfl, rfl, rfl, rfl, rfl, rfl, rfl, rfl, rfl, rfl, rfl, rfl, rfl, rfl, rfl, rfl, rfl, rfl, rfl, rfl, rfl, rfl, rfl, rfl, rfl, rfl, rfl, rfl, rfl, rfl⟩
set_option maxRecDepth 100000 in
/-- X12_takesEntry -/
theorem cd_242 : px_at 242 0 = some (1, [], .iconst 0, []) ∧ px_at 242 1 = some (2, [], .istore_n 2, []) ∧ px_at 242 2 = some (3, [1, 1, 1], .iload_n 2, []) ∧ px_at 242 3 = some (4, [], .iconst 3, []) ∧ px_at 242 4 = some (7, [], .if_icmp .ge 116, [120]) ∧ px_at 242 7 = some (8, [], .aload_n 0, []) ∧ px_at 242 8 = some (11, [], .getfield 66, [11, 25, 2, 1, 150]) ∧ px_at 242 11 = some (12, [], .iload_n 2, []) ∧ px_at 242 12 = some (14, [], .bipush (-2), []) ∧ px_at 242 14 = some (15, [], .iastore, []) ∧ px_at 242 15 = some (16, [], .aload_n 0, []) ∧ px_at 242 16 = some (19, [], .getfield 63, [11, 24, 2, 1, 149]) ∧ px_at 242 19 = some (20, [], .iload_n 2, []) ∧ px_at 242 20 = some (21, [], .iaload, []) ∧ px_at 242 21 = some (22, [], .iconst (-1), []) ∧ px_at 242 22 = some (25, [], .if_icmp .eq 92, [114]) ∧ px_at 242 25 = some (26, [], .aload_n 0, []) ∧ px_at 242 26 = some (29, [], .getfield 60, [11, 23, 2, 1, 148]) ∧ px_at 242 29 = some (30, [], .iload_n 2, []) ∧ px_at 242 30 = some (31, [], .iaload, []) ∧ px_at 242 31 = some (32, [], .aload_n 0, []) ∧ px_at 242 32 = some (33, [], .aload_n 0, []) ∧ px_at 242 33 = some (36, [], .getfield 63, [11, 24, 2, 1, 149]) ∧ px_at 242 36 = some (37, [], .iload_n 2, []) ∧ px_at 242 37 = some (38, [], .iaload, []) ∧ px_at 242 38 = some (41, [], .invokevirtual 180, [206, 1, 11, 253]) ∧ px_at 242 41 = some (44, [], .if_icmp .ge 73, [114]) ∧ px_at 242 44 = some (45, [], .aload_n 0, []) ∧ px_at 242 45 = some (48, [], .getfield 7, [11, 0, 2, 1, 125]) ∧ px_at 242 48 = some (49, [], .aload_n 0, []) ∧ px_at 242 49 = some (50, [], .aload_n 0, []) ∧ px_at 242 50 = some (53, [], .getfield 63, [11, 24, 2, 1, 149]) ∧ px_at 242 53 = some (54, [], .iload_n 2, []) ∧ px_at 242 54 = some (55, [], .iaload, []) ∧ px_at 242 55 = some (56, [], .aload_n 0, []) ∧ px_at 242 56 = some (59, [], .getfield 60, [11, 23, 2, 1, 148]) ∧ px_at 242 59 = some (60, [], .iload_n 2, []) ∧ px_at 242 60 = some (61, [], .iaload, []) ∧ px_at 242 61 = some (64, [], .invokevirtual 177, [205, 2, 11, 254]) ∧ px_at 242 64 = some (65, [], .aload_n 0, []) ∧ px_at 242 65 = some (68, [], .getfield 7, [11, 0, 2, 1, 125]) ∧ px_at 242 68 = some (69, [], .iload_n 1, []) ∧ px_at 242 69 = some (72, [], .invokestatic 183, [182, 4, 11, 230]) ∧ px_at 242 72 = some (75, [], .ifCond .eq 6, [78]) ∧ px_at 242 75 = some (78, [], .goto 39, [114]) ∧ px_at 242 78 = some (79, [], .aload_n 0, []) ∧ px_at 242 79 = some (82, [], .getfield 66, [11, 25, 2, 1, 150]) ∧ px_at 242 82 = some (83, [], .iload_n 2, []) ∧ px_at 242 83 = some (84, [], .aload_n 0, []) ∧ px_at 242 84 = some (85, [], .aload_n 0, []) ∧ px_at 242 85 = some (88, [], .getfield 63, [11, 24, 2, 1, 149]) ∧ px_at 242 88 = some (89, [], .iload_n 2, []) ∧ px_at 242 89 = some (90, [], .iaload, []) ∧ px_at 242 90 = some (91, [], .aload_n 0, []) ∧ px_at 242 91 = some (94, [], .getfield 60, [11, 23, 2, 1, 148]) ∧ px_at 242 94 = some (95, [], .iload_n 2, []) ∧ px_at 242 95 = some (96, [], .iaload, []) ∧ px_at 242 96 = some (99, [], .invokevirtual 187, [207, 2, 11, 256]) ∧ px_at 242 99 = some (100, [], .iastore, []) ∧ px_at 242 100 = some (101, [], .aload_n 0, []) ∧ px_at 242 101 = some (104, [], .getfield 60, [11, 23, 2, 1, 148]) ∧ px_at 242 104 = some (105, [], .iload_n 2, []) ∧ px_at 242 105 = some (106, [], .aload_n 0, []) ∧ px_at 242 106 = some (109, [], .getfield 60, [11, 23, 2, 1, 148]) ∧ px_at 242 109 = some (110, [], .iload_n 2, []) ∧ px_at 242 110 = some (111, [], .iaload, []) ∧ px_at 242 111 = some (112, [], .iconst 1, []) ∧ px_at 242 112 = some (113, [], .iadd, []) ∧ px_at 242 113 = some (114, [], .iastore, []) ∧ px_at 242 114 = some (117, [], .iinc 2 1, []) ∧ px_at 242 117 = some (120, [], .goto (-115), [2]) ∧ px_at 242 120 = some (121, [], .return_, []) := ⟨rfl, rfl, rfl, rfl, rfl, rfl, rfl, rfl, rfl, rfl, rfl, rfl, rfl, rfl, rfl, rfl, rfl, rfl, rfl, rfl, rfl, rfl, rfl, rfl, rfl, rfl, rfl, rfl, rfl, rfl, rfl, rfl, rfl, rfl, rfl, rfl, rfl, rfl, rfl, rfl, rfl, rfl, rfl, rfl, rfl, rfl, rfl, rfl, rfl, rfl, rfl, rfl, rfl, rfl, rfl, rfl, rfl, rfl, rfl, rfl, rfl, rfl, rfl, rfl, rfl, rfl, rfl, rfl, rfl, rfl, rfl, rfl⟩
/-! the reference: three lists side by side -/
def nK (Mc : px_mem) (s : Int) : Int := if s < 0 then 0 else Mc (Mc 21 s) 2
def sOk (Mc : px_mem) (s : Int) : Prop := s = -1 ∨ (0 ≤ s ∧ s < Mc 20 1)
theorem nK_at {Mc : px_mem} {s : Int} (h : 0 ≤ s) : nK Mc s = Mc (Mc 21 s) 2 := by unfold nK; rw [if_neg (by omega)]
theorem nK_no {Mc : px_mem} {s : Int} (h : s < 0) : nK Mc s = 0 := by unfold nK; rw [if_pos h]
theorem nK_rng {Mc : px_mem} {pl : Int → Int → List Int} {nm : Int → List Int} {F : Int → Int} (hT : TE Mc pl nm F) {s : Int} (h : sOk Mc s) : 0 ≤ nK Mc s ∧ nK Mc s ≤ 12 := by
  rcases h with z | z
  · rw [nK_no (by omega)]; exact ⟨by decide, by decide⟩
  · rw [nK_at z.1]; exact (TE_e hT z.1 z.2).2.2.2.2.2
section PS
variable {M : px_mem} {Q : Option pv → px_mem → Prop}
set_option maxHeartbeats 600000 in
set_option maxRecDepth 100000 in
theorem lp_nextEntry {Mc : px_mem} {pl : Int → Int → List Int} {nm : Int → List Int} (hT : TE Mc pl nm (M 128)) (hs : ∀ k, 0 ≤ k → k < 3 → sOk Mc (M 145 k)) (ha : ∀ k, 0 ≤ k → k < 3 → 0 ≤ M 144 k ∧ M 144 k ≤ 12) (h0 : (∀ k, 0 ≤ k → k < 3 → nK Mc (M 145 k) ≤ M 144 k) → Q (some (0, -1)) M) (h1 : ∀ k, 0 ≤ k → k < 3 → M 144 k < nK Mc (M 145 k) → (∀ j, 0 ≤ j → j < 3 → M 144 j < nK Mc (M 145 j) → enc (pl (M 145 k) (M 144 k)) ≤ enc (pl (M 145 j) (M 144 j))) → Q (some (0, 1294 + 186 * M 145 k + 18 + 14 * M 144 k)) M) (k : Int) (hk_k : k ≤ 3) : ∀ l, 0 ≤ k → ((l = -1 ∧ ∀ j, 0 ≤ j → j < k → nK Mc (M 145 j) ≤ M 144 j) ∨ ∃ i, 0 ≤ i ∧ i < k ∧ M 144 i < nK Mc (M 145 i) ∧ l = 1294 + 186 * M 145 i + 18 + 14 * M 144 i ∧ ∀ j, 0 ≤ j → j < k → M 144 j < nK Mc (M 145 j) → enc (pl (M 145 i) (M 144 i)) ≤ enc (pl (M 145 j) (M 144 j))) → px_WP 241 0 0 (px_Q0 LAY Q) 4 [(2, 127), (0, l), (0, k), (9, 0)] [] LAY M 0 0 := by
  refine up_ind (P := fun k => ∀ l, 0 ≤ k → ((l = -1 ∧ ∀ j, 0 ≤ j → j < k → nK Mc (M 145 j) ≤ M 144 j) ∨ ∃ i, 0 ≤ i ∧ i < k ∧ M 144 i < nK Mc (M 145 i) ∧ l = 1294 + 186 * M 145 i + 18 + 14 * M 144 i ∧ ∀ j, 0 ≤ j → j < k → M 144 j < nK Mc (M 145 j) → enc (pl (M 145 i) (M 144 i)) ≤ enc (pl (M 145 j) (M 144 j))) → px_WP 241 0 0 (px_Q0 LAY Q) 4 [(2, 127), (0, l), (0, k), (9, 0)] [] LAY M 0 0) (3) (fun k hk_k ih => ?_) k hk_k
  intro l k0 hl
  have hTn := TE_n hT
  have hsk := hs k k0
  have hak := ha k k0
  have hs2 : k < 3 → M 145 k ≠ -1 → 0 ≤ M 145 k ∧ M 145 k < Mc 20 1 := fun q z => (hsk q).elim (fun y => absurd y z) id
  have hw : ∃ w, M 128 (1294 + 186 * M 145 k + 17) = w ∧ (k < 3 → M 145 k ≠ -1 → w = nK Mc (M 145 k) ∧ nK Mc (M 145 k) ≤ 12 ∧ nK Mc (M 145 k) = Mc (Mc 21 (M 145 k)) 2) := ⟨_, rfl, fun q z => by
    have h2 := hs2 q z
    exact ⟨by rw [nK_at h2.1]; exact (TE_e hT h2.1 h2.2).2.2.2.2.1, (nK_rng hT (Or.inr h2)).2, nK_at h2.1⟩⟩
  obtain ⟨w, hw, hw2⟩ := hw
  have hskip : k < 3 → nK Mc (M 145 k) ≤ M 144 k → px_WP 241 0 0 (px_Q0 LAY Q) 4 [(2, 127), (0, l), (0, k + 1), (9, 0)] [] LAY M 0 0 := fun q z => ih q l (by omega) (by
    rcases hl with y | ⟨i, i0, i1, i2, i3, i4⟩
    · refine Or.inl ⟨y.1, fun j j0 j1 => ?_⟩
      by_cases e : j = k
      · rw [e]; exact z
      · exact y.2 j j0 (by omega)
    · refine Or.inr ⟨i, i0, by omega, i2, i3, fun j j0 j1 j2 => ?_⟩
      by_cases e : j = k
      · rw [e] at j2; omega
      · exact i4 j j0 (by omega) j2)
  have htake : k < 3 → M 144 k < nK Mc (M 145 k) → (∀ j, 0 ≤ j → j < k → M 144 j < nK Mc (M 145 j) → enc (pl (M 145 k) (M 144 k)) ≤ enc (pl (M 145 j) (M 144 j))) → px_WP 241 0 0 (px_Q0 LAY Q) 4 [(2, 127), (0, 1294 + 186 * M 145 k + 18 + 14 * M 144 k), (0, k + 1), (9, 0)] [] LAY M 0 0 := fun q z y => ih q _ (by omega) (Or.inr ⟨k, k0, by omega, z, rfl, fun j j0 j1 j2 => by
    by_cases e : j = k
    · rw [e]; exact Int.le_refl _
    · exact y j j0 (by omega) j2⟩)
  refine px_go_ok (inl := [204,205,206]) 60 ?_
  simp only [px_go, px_Q0_at, px_sx_0, px_sx_s, px_cl, px_step, ↓px_ll, px_lg, f4_, ↓px_r1, ↓px_r2, ↓px_r4, ↓px_r5, ↓px_p1, ↓px_p2, ↓px_p3, ↓px_pop, px_k_0, px_k_s, px_k3_0, px_stk_, px_cats, px_ent, px_st1, px_st2, px_mask, ↓px_tsw, ↓px_lsw, ct_, mls_0, mls_1, mls_2, mls_3, mls_4, mls_5, kd_0, kd_1, kd_2, kd_3, ln_0, ln_1, ln_2, ln_3, gf_0, gf_1, gf_2, gf_3, gf_4, gf_7, gf_21, gf_63, dy_0, dy_1, dy_2, dy_3, dy_7, dy_21, px_brT, px_brF, true_and, and_true, and_false, false_and, and_self, true_implies, false_implies, or_true, true_or, or_false, false_or, eq_self, ne_eq, not_false_eq_true, not_true_eq_false, if_true, if_false, List.mem_cons, List.not_mem_nil, List.length_cons, List.length_nil, Nat.reduceEqDiff, Nat.reduceAdd, Nat.reduceSub, Nat.reduceLeDiff, Nat.reduceLT, Int.reduceEq, Int.reduceLT, Int.reduceLE, Int.reduceNeg, Int.reduceAdd, Int.reduceSub, Int.reduceToNat, ↓reduceIte, one_ne_zero_, zero_ne_one_, px_in32L, cd_241, cd_204, cd_205, cd_206, hw]
  repeat' (first | (with_reducible apply And.intro) | (with_reducible refine px_br_intro (fun _ => ?_) (fun _ => ?_)))
  all_goals (try (first | (unfold px_in32; omega) | omega))
  · rename_i c1
    rcases hl with y | ⟨i, i0, i1, i2, i3, i4⟩
    · rw [y.1]; exact h0 (fun j j0 j1 => y.2 j j0 (by omega))
    · rw [i3]; exact h1 i i0 (by omega) i2 (fun j j0 j1 => i4 j j0 (by omega))
  · rename_i c1 c2
    refine hskip (by omega) ?_
    rw [c2, nK_no (by decide)]
    exact (hak (by omega)).1
  all_goals
    have hk3 : k < 3 := by omega
    have hs2 := hs2 hk3 (by omega)
    have ew := hw2 hk3 (by omega)
    have hak := hak hk3
    try (unfold px_in32)
    try omega
  · rename_i c1 c2 c3 c4
    refine htake hk3 (by omega) (fun j j0 j1 j2 => ?_)
    rcases hl with y | ⟨i, i0, i1, i2, i3, i4⟩
    · have := y.2 j j0 j1; omega
    · have hsi : sOk Mc (M 145 i) := hs i i0 (by omega)
      have hai := ha i i0 (by omega)
      exfalso
      rcases hsi with z | z
      · rw [z, nK_no (by decide)] at i2; omega
      · omega
  · rename_i c1 c2 c3 c4
    rcases hl with y | ⟨i, i0, i1, i2, i3, i4⟩
    · exact absurd y.1 c4
    · have hai := ha i i0 (by omega)
      have hsi : 0 ≤ M 145 i ∧ M 145 i < Mc 20 1 := by
        rcases hs i i0 (by omega) with z | z
        · rw [z, nK_no (by decide)] at i2; omega
        · exact z
      have i2' := i2
      rw [nK_at hsi.1] at i2'
      have en := TE_ent hT hs2.1 hs2.2 hak.1 (by omega)
      have eni := TE_ent hT hsi.1 hsi.2 hai.1 i2'
      refine sp_against rfl rfl en.1.1 (by rw [i3]; exact eni.1.1) ⟨by decide, by decide⟩ (fun r r1 r2 => ?_)
      rw [i3, en.1.2.1, eni.1.2.1] at r1 r2
      have tri := enc_tri en.2.1 eni.2.1 r1 r2
      simp only [px_go, px_Q0_at, px_sx_0, px_sx_s, px_cl, px_step, ↓px_ll, px_lg, f4_, ↓px_r1, ↓px_r2, ↓px_r4, ↓px_r5, ↓px_p1, ↓px_p2, ↓px_p3, ↓px_pop, px_k_0, px_k_s, px_k3_0, px_stk_, px_cats, px_ent, px_st1, px_st2, px_mask, ↓px_tsw, ↓px_lsw, ct_, mls_0, mls_1, mls_2, mls_3, mls_4, mls_5, kd_0, kd_1, kd_2, kd_3, ln_0, ln_1, ln_2, ln_3, gf_0, gf_1, gf_2, gf_3, gf_4, gf_7, gf_21, gf_63, dy_0, dy_1, dy_2, dy_3, dy_7, dy_21, px_brT, px_brF, true_and, and_true, and_false, false_and, and_self, true_implies, false_implies, or_true, true_or, or_false, false_or, eq_self, ne_eq, not_false_eq_true, not_true_eq_false, if_true, if_false, List.mem_cons, List.not_mem_nil, List.length_cons, List.length_nil, Nat.reduceEqDiff, Nat.reduceAdd, Nat.reduceSub, Nat.reduceLeDiff, Nat.reduceLT, Int.reduceEq, Int.reduceLT, Int.reduceLE, Int.reduceNeg, Int.reduceAdd, Int.reduceSub, Int.reduceToNat, ↓reduceIte, one_ne_zero_, zero_ne_one_, px_in32L, cd_241, cd_204, cd_205, cd_206]
      repeat' (first | (with_reducible apply And.intro) | (with_reducible refine px_br_intro (fun _ => ?_) (fun _ => ?_)))
      all_goals (try (first | (unfold px_in32; omega) | omega))
      · rename_i c5
        refine ih hk3 l (by omega) (Or.inr ⟨i, i0, by omega, i2, i3, fun j j0 j1 j2 => ?_⟩)
        by_cases e : j = k
        · rw [e]; omega
        · exact i4 j j0 (by omega) j2
      · rename_i c5
        refine htake hk3 (by omega) (fun j j0 j1 j2 => ?_)
        have := i4 j j0 j1 j2
        omega
  · rename_i c1 c2 c3
    exact hskip hk3 (by omega)
set_option maxHeartbeats 600000 in
set_option maxRecDepth 100000 in
theorem sp_nextEntry {Mc : px_mem} {pl : Int → Int → List Int} {nm : Int → List Int} (hT : TE Mc pl nm (M 128)) (hs : ∀ k, 0 ≤ k → k < 3 → sOk Mc (M 145 k)) (ha : ∀ k, 0 ≤ k → k < 3 → 0 ≤ M 144 k ∧ M 144 k ≤ 12) (h0 : (∀ k, 0 ≤ k → k < 3 → nK Mc (M 145 k) ≤ M 144 k) → Q (some (0, -1)) M) (h1 : ∀ k, 0 ≤ k → k < 3 → M 144 k < nK Mc (M 145 k) → (∀ j, 0 ≤ j → j < 3 → M 144 j < nK Mc (M 145 j) → enc (pl (M 145 k) (M 144 k)) ≤ enc (pl (M 145 j) (M 144 j))) → Q (some (0, 1294 + 186 * M 145 k + 18 + 14 * M 144 k)) M) : px_Ok 241 [(2, 127)] LAY M Q := by
  refine px_ok_go (inl := []) (ls0 := [(2, 127), (9, 0), (9, 0), (9, 0)]) 60 (by decide) (Nat.le_of_ble_eq_true rfl) rfl ?_
  simp only [px_go, px_Q0_at, px_sx_0, px_sx_s, px_cl, px_step, ↓px_ll, px_lg, f4_, ↓px_r1, ↓px_r2, ↓px_r4, ↓px_r5, ↓px_p1, ↓px_p2, ↓px_p3, ↓px_pop, px_k_0, px_k_s, px_k3_0, px_stk_, px_cats, px_ent, px_st1, px_st2, px_mask, ↓px_tsw, ↓px_lsw, ct_, mls_0, mls_1, mls_2, mls_3, mls_4, mls_5, kd_0, kd_1, kd_2, kd_3, ln_0, ln_1, ln_2, ln_3, gf_0, gf_1, gf_2, gf_3, gf_4, gf_7, gf_21, gf_63, dy_0, dy_1, dy_2, dy_3, dy_7, dy_21, px_brT, px_brF, true_and, and_true, and_false, false_and, and_self, true_implies, false_implies, or_true, true_or, or_false, false_or, eq_self, ne_eq, not_false_eq_true, not_true_eq_false, if_true, if_false, List.mem_cons, List.not_mem_nil, List.length_cons, List.length_nil, Nat.reduceEqDiff, Nat.reduceAdd, Nat.reduceSub, Nat.reduceLeDiff, Nat.reduceLT, Int.reduceEq, Int.reduceLT, Int.reduceLE, Int.reduceNeg, Int.reduceAdd, Int.reduceSub, Int.reduceToNat, ↓reduceIte, one_ne_zero_, zero_ne_one_, px_in32L, cd_241]
  repeat' (first | (with_reducible apply And.intro) | (with_reducible refine px_br_intro (fun _ => ?_) (fun _ => ?_)))
  all_goals (try (first | (unfold px_in32; omega) | omega))
  exact lp_nextEntry hT hs ha h0 h1 0 (by decide) (-1) (Int.le_refl 0) (Or.inl ⟨rfl, fun j j0 j1 => by omega⟩)
/-- a list has a path next -/
def tkN (Mc : px_mem) (pl : Int → Int → List Int) (s a : Int) (P : List Int) : Prop := a < nK Mc s ∧ pl s a = P
noncomputable def tkC (Mc : px_mem) (pl : Int → Int → List Int) (s a : Int) (P : List Int) : Int := by
  classical
  exact if tkN Mc pl s a P then Mc (Mc 21 s + 2) a else -2
theorem tkC_t {Mc : px_mem} {pl : Int → Int → List Int} {s a : Int} {P : List Int} (h : tkN Mc pl s a P) : tkC Mc pl s a P = Mc (Mc 21 s + 2) a := by unfold tkC; rw [if_pos h]
theorem tkC_f {Mc : px_mem} {pl : Int → Int → List Int} {s a : Int} {P : List Int} (h : ¬ tkN Mc pl s a P) : tkC Mc pl s a P = -2 := by unfold tkC; rw [if_neg h]
set_option maxHeartbeats 600000 in
set_option maxRecDepth 100000 in
theorem lp_takesEntry {M0 Mc : px_mem} {e : Int} {P : List Int} {pl : Int → Int → List Int} {nm : Int → List Int} (hT : TE Mc pl nm (M0 128)) (hs : ∀ k, 0 ≤ k → k < 3 → sOk Mc (M0 145 k)) (ha : ∀ k, 0 ≤ k → k < 3 → 0 ≤ M0 144 k ∧ M0 144 k ≤ 12) (he : pok (M0 128) e 3154) (hP : fp (M0 128) e = P) (hok : okp P) (h : ∀ M', (∀ j, 0 ≤ j → j < 3 → M' 146 j = tkC Mc pl (M0 145 j) (M0 144 j) P) → (∀ j, 0 ≤ j → j < 3 → M' 144 j = M0 144 j + b1 (tkN Mc pl (M0 145 j) (M0 144 j) P)) → (∀ b, b ≠ 144 → b ≠ 146 → M' b = M0 b) → Q none M') (k : Int) (hk_k : k ≤ 3) : ∀ (M : px_mem), 0 ≤ k → (∀ j, 0 ≤ j → j < k → M 146 j = tkC Mc pl (M0 145 j) (M0 144 j) P) → (∀ j, 0 ≤ j → j < k → M 144 j = M0 144 j + b1 (tkN Mc pl (M0 145 j) (M0 144 j) P)) → (∀ j, k ≤ j → j < 3 → M 144 j = M0 144 j) → (∀ b, b ≠ 144 → b ≠ 146 → M b = M0 b) → px_WP 242 0 0 (px_Q0 LAY Q) 2 [(2, 127), (0, e), (0, k)] [] LAY M 0 0 := by
  refine up_ind (P := fun k => ∀ (M : px_mem), 0 ≤ k → (∀ j, 0 ≤ j → j < k → M 146 j = tkC Mc pl (M0 145 j) (M0 144 j) P) → (∀ j, 0 ≤ j → j < k → M 144 j = M0 144 j + b1 (tkN Mc pl (M0 145 j) (M0 144 j) P)) → (∀ j, k ≤ j → j < 3 → M 144 j = M0 144 j) → (∀ b, b ≠ 144 → b ≠ 146 → M b = M0 b) → px_WP 242 0 0 (px_Q0 LAY Q) 2 [(2, 127), (0, e), (0, k)] [] LAY M 0 0) (3) (fun k hk_k ih => ?_) k hk_k
  intro M k0 hc hp hq hfr
  have e128 := hfr 128 (by decide) (by decide)
  have e145 := hfr 145 (by decide) (by decide)
  have hTn := TE_n hT
  have hsk := hs k k0
  have hak := ha k k0
  have e144 := hq k (Int.le_refl k)
  have hs2 : k < 3 → M0 145 k ≠ -1 → 0 ≤ M0 145 k ∧ M0 145 k < Mc 20 1 := fun q z => (hsk q).elim (fun y => absurd y z) id
  have hw : ∃ w, M0 128 (1294 + 186 * M0 145 k + 17) = w ∧ (k < 3 → M0 145 k ≠ -1 → w = nK Mc (M0 145 k) ∧ nK Mc (M0 145 k) ≤ 12 ∧ nK Mc (M0 145 k) = Mc (Mc 21 (M0 145 k)) 2) := ⟨_, rfl, fun q z => by
    have h2 := hs2 q z
    exact ⟨by rw [nK_at h2.1]; exact (TE_e hT h2.1 h2.2).2.2.2.2.1, (nK_rng hT (Or.inr h2)).2, nK_at h2.1⟩⟩
  obtain ⟨w, hw, hw2⟩ := hw
  obtain ⟨a, ea, ea2⟩ : ∃ a, M 144 k = a ∧ (k < 3 → a = M0 144 k) := ⟨_, rfl, e144⟩
  have hnx : k < 3 → ∀ M', M' 146 k = tkC Mc pl (M0 145 k) (M0 144 k) P → M' 144 k = M0 144 k + b1 (tkN Mc pl (M0 145 k) (M0 144 k) P) → (∀ j, j ≠ k → M' 146 j = M 146 j ∧ M' 144 j = M 144 j) → (∀ b, b ≠ 144 → b ≠ 146 → M' b = M b) → px_WP 242 0 0 (px_Q0 LAY Q) 2 [(2, 127), (0, e), (0, k + 1)] [] LAY M' 0 0 := fun q M' z1 z2 z3 z4 => ih q M' (by omega) (fun j j0 j1 => by
    by_cases y : j = k
    · rw [y]; exact z1
    · rw [(z3 j y).1]; exact hc j j0 (by omega)) (fun j j0 j1 => by
    by_cases y : j = k
    · rw [y]; exact z2
    · rw [(z3 j y).2]; exact hp j j0 (by omega)) (fun j j0 j1 => by rw [(z3 j (by omega)).2]; exact hq j (by omega) j1) (fun b b0 b1' => by rw [z4 b b0 b1']; exact hfr b b0 b1')
  have f144 : ∀ y, px_up M 146 k y 144 = M 144 := fun y => row_ne (by decide)
  have f145 : ∀ y, px_up M 146 k y 145 = M0 145 := fun y => by rw [row_ne (by decide), e145]
  have f128 : ∀ y, px_up M 146 k y 128 = M0 128 := fun y => by rw [row_ne (by decide), e128]
  refine px_go_ok (inl := [204,205,206,207]) 140 ?_
  simp only [px_go, px_Q0_at, px_sx_0, px_sx_s, px_cl, px_step, ↓px_ll, px_lg, f4_, ↓px_r1, ↓px_r2, ↓px_r4, ↓px_r5, ↓px_p1, ↓px_p2, ↓px_p3, ↓px_pop, px_k_0, px_k_s, px_k3_0, px_stk_, px_cats, px_ent, px_st1, px_st2, px_mask, ↓px_tsw, ↓px_lsw, ct_, mls_0, mls_1, mls_2, mls_3, mls_4, mls_5, kd_0, kd_1, kd_2, kd_3, ln_0, ln_1, ln_2, ln_3, gf_0, gf_1, gf_2, gf_3, gf_4, gf_7, gf_21, gf_63, dy_0, dy_1, dy_2, dy_3, dy_7, dy_21, px_brT, px_brF, true_and, and_true, and_false, false_and, and_self, true_implies, false_implies, or_true, true_or, or_false, false_or, eq_self, ne_eq, not_false_eq_true, not_true_eq_false, if_true, if_false, List.mem_cons, List.not_mem_nil, List.length_cons, List.length_nil, Nat.reduceEqDiff, Nat.reduceAdd, Nat.reduceSub, Nat.reduceLeDiff, Nat.reduceLT, Int.reduceEq, Int.reduceLT, Int.reduceLE, Int.reduceNeg, Int.reduceAdd, Int.reduceSub, Int.reduceToNat, ↓reduceIte, one_ne_zero_, zero_ne_one_, px_in32L, cd_242, cd_204, cd_205, cd_206, cd_207, f144, f145, f128, ea, hw]
  repeat' (first | (with_reducible apply And.intro) | (with_reducible refine px_br_intro (fun _ => ?_) (fun _ => ?_)))
  all_goals (try (first | (unfold px_in32; omega) | omega))
  · rename_i c1
    exact h M (fun j j0 j1 => hc j j0 (by omega)) (fun j j0 j1 => hp j j0 (by omega)) hfr
  · rename_i c1 c2
    have hn : ¬ tkN Mc pl (M0 145 k) (M0 144 k) P := fun z => by
      have := z.1
      have h9 := hak (by omega)
      rw [c2, nK_no (by decide)] at this
      omega
    refine hnx (by omega) _ ?_ ?_ (fun j j0 => ⟨?_, ?_⟩) (fun b b0 b1' => row_ne b1')
    · rw [px_up_at, if_pos ⟨rfl, rfl⟩, tkC_f hn]
    · rw [row_ne (by decide), e144 (by omega), b1_f hn, Int.add_zero]
    · rw [px_up_at, if_neg (fun z => j0 z.2)]
    · rw [row_ne (by decide)]
  all_goals
    have hk3 : k < 3 := by omega
    have hs2 := hs2 hk3 (by omega)
    have ew := hw2 hk3 (by omega)
    have ea3 := ea2 hk3
    have hak := hak hk3
    have e144 := e144 hk3
    try (unfold px_in32)
    try omega
  · rename_i c1 c2 c3
    have hn : ¬ tkN Mc pl (M0 145 k) (M0 144 k) P := fun z => by have := z.1; omega
    refine hnx (by omega) _ ?_ ?_ (fun j j0 => ⟨?_, ?_⟩) (fun b b0 b1' => row_ne b1')
    · rw [px_up_at, if_pos ⟨rfl, rfl⟩, tkC_f hn]
    · rw [row_ne (by decide), e144, b1_f hn, Int.add_zero]
    · rw [px_up_at, if_neg (fun z => j0 z.2)]
    · rw [row_ne (by decide)]
  · rename_i c1 c2 c3
    have c4 : M0 144 k < Mc (Mc 21 (M0 145 k)) 2 := by omega
    rw [ea3]
    have en := TE_ent hT hs2.1 hs2.2 hak.1 c4
    refine sp_against rfl rfl (by rw [f128]; exact en.1.1) (by rw [f128]; exact he) ⟨by decide, by decide⟩ (fun r r1 r2 => ?_)
    rw [f128, hP, en.1.2.1] at r2
    have f2 : ∀ x y, px_up (px_up M 146 k x) 146 k y 144 = M 144 := fun x y => by rw [row_ne (by decide), row_ne (by decide)]
    simp only [px_go, px_Q0_at, px_sx_0, px_sx_s, px_cl, px_step, ↓px_ll, px_lg, f4_, ↓px_r1, ↓px_r2, ↓px_r4, ↓px_r5, ↓px_p1, ↓px_p2, ↓px_p3, ↓px_pop, px_k_0, px_k_s, px_k3_0, px_stk_, px_cats, px_ent, px_st1, px_st2, px_mask, ↓px_tsw, ↓px_lsw, ct_, mls_0, mls_1, mls_2, mls_3, mls_4, mls_5, kd_0, kd_1, kd_2, kd_3, ln_0, ln_1, ln_2, ln_3, gf_0, gf_1, gf_2, gf_3, gf_4, gf_7, gf_21, gf_63, dy_0, dy_1, dy_2, dy_3, dy_7, dy_21, px_brT, px_brF, true_and, and_true, and_false, false_and, and_self, true_implies, false_implies, or_true, true_or, or_false, false_or, eq_self, ne_eq, not_false_eq_true, not_true_eq_false, if_true, if_false, List.mem_cons, List.not_mem_nil, List.length_cons, List.length_nil, Nat.reduceEqDiff, Nat.reduceAdd, Nat.reduceSub, Nat.reduceLeDiff, Nat.reduceLT, Int.reduceEq, Int.reduceLT, Int.reduceLE, Int.reduceNeg, Int.reduceAdd, Int.reduceSub, Int.reduceToNat, ↓reduceIte, one_ne_zero_, zero_ne_one_, px_in32L, cd_242, cd_204, cd_205, cd_206, cd_207, f128, f145, f144, f2, ea, ea3]
    repeat' (first | (with_reducible apply And.intro) | (with_reducible refine px_br_intro (fun _ => ?_) (fun _ => ?_)))
    all_goals (try (first | (unfold px_in32; omega) | omega))
    · rename_i c5
      have ht : tkN Mc pl (M0 145 k) (M0 144 k) P := ⟨by omega, r2.mp c5⟩
      rw [en.1.2.2]
      refine hnx hk3 _ ?_ ?_ (fun j j0 => ⟨?_, ?_⟩) (fun b b0 b1' => by rw [row_ne b0, row_ne b1', row_ne b1'])
      · rw [row_ne (by decide), px_up_at, if_pos ⟨rfl, rfl⟩, tkC_t ht]
      · rw [px_up_at, if_pos ⟨rfl, rfl⟩, b1_t ht]
      · rw [row_ne (by decide), px_up_at, if_neg (fun z => j0 z.2), px_up_at, if_neg (fun z => j0 z.2)]
      · rw [px_up_at, if_neg (fun z => j0 z.2), row_ne (by decide), row_ne (by decide)]
    · rename_i c5
      have hn : ¬ tkN Mc pl (M0 145 k) (M0 144 k) P := fun z => c5 (r2.mpr z.2)
      refine hnx hk3 _ ?_ ?_ (fun j j0 => ⟨?_, ?_⟩) (fun b b0 b1' => row_ne b1')
      · rw [px_up_at, if_pos ⟨rfl, rfl⟩, tkC_f hn]
      · rw [row_ne (by decide), e144, b1_f hn, Int.add_zero]
      · rw [px_up_at, if_neg (fun z => j0 z.2)]
      · rw [row_ne (by decide)]
set_option maxHeartbeats 600000 in
set_option maxRecDepth 100000 in
theorem sp_takesEntry {Mc : px_mem} {e : Int} {P : List Int} {pl : Int → Int → List Int} {nm : Int → List Int} (hT : TE Mc pl nm (M 128)) (hs : ∀ k, 0 ≤ k → k < 3 → sOk Mc (M 145 k)) (ha : ∀ k, 0 ≤ k → k < 3 → 0 ≤ M 144 k ∧ M 144 k ≤ 12) (he : pok (M 128) e 3154) (hP : fp (M 128) e = P) (hok : okp P) (h : ∀ M', (∀ j, 0 ≤ j → j < 3 → M' 146 j = tkC Mc pl (M 145 j) (M 144 j) P) → (∀ j, 0 ≤ j → j < 3 → M' 144 j = M 144 j + b1 (tkN Mc pl (M 145 j) (M 144 j) P)) → (∀ b, b ≠ 144 → b ≠ 146 → M' b = M b) → Q none M') : px_Ok 242 [(2, 127), (0, e)] LAY M Q := by
  refine px_ok_go (inl := []) (ls0 := [(2, 127), (0, e), (9, 0)]) 60 (by decide) (Nat.le_of_ble_eq_true rfl) rfl ?_
  simp only [px_go, px_Q0_at, px_sx_0, px_sx_s, px_cl, px_step, ↓px_ll, px_lg, f4_, ↓px_r1, ↓px_r2, ↓px_r4, ↓px_r5, ↓px_p1, ↓px_p2, ↓px_p3, ↓px_pop, px_k_0, px_k_s, px_k3_0, px_stk_, px_cats, px_ent, px_st1, px_st2, px_mask, ↓px_tsw, ↓px_lsw, ct_, mls_0, mls_1, mls_2, mls_3, mls_4, mls_5, kd_0, kd_1, kd_2, kd_3, ln_0, ln_1, ln_2, ln_3, gf_0, gf_1, gf_2, gf_3, gf_4, gf_7, gf_21, gf_63, dy_0, dy_1, dy_2, dy_3, dy_7, dy_21, px_brT, px_brF, true_and, and_true, and_false, false_and, and_self, true_implies, false_implies, or_true, true_or, or_false, false_or, eq_self, ne_eq, not_false_eq_true, not_true_eq_false, if_true, if_false, List.mem_cons, List.not_mem_nil, List.length_cons, List.length_nil, Nat.reduceEqDiff, Nat.reduceAdd, Nat.reduceSub, Nat.reduceLeDiff, Nat.reduceLT, Int.reduceEq, Int.reduceLT, Int.reduceLE, Int.reduceNeg, Int.reduceAdd, Int.reduceSub, Int.reduceToNat, ↓reduceIte, one_ne_zero_, zero_ne_one_, px_in32L, cd_242]
  repeat' (first | (with_reducible apply And.intro) | (with_reducible refine px_br_intro (fun _ => ?_) (fun _ => ?_)))
  all_goals (try (first | (unfold px_in32; omega) | omega))
  exact lp_takesEntry (M0 := M) hT hs ha he hP hok h 0 (by decide) M (Int.le_refl 0) (fun j j0 j1 => by omega) (fun j j0 j1 => by omega) (fun _ _ _ => rfl) (fun _ _ _ => rfl)
end PS
