set_option maxRecDepth 100000 in
/-- X12_lessBy -/
theorem cd_264 : px_at 264 0 = some (1, [], .iconst 0, []) ∧ px_at 264 1 = some (2, [], .istore_n 2, []) ∧ px_at 264 2 = some (3, [1, 1, 1, 0, 0], .iload_n 2, []) ∧ px_at 264 3 = some (5, [], .bipush 40, []) ∧ px_at 264 5 = some (8, [], .if_icmp .ge 16, [21]) ∧ px_at 264 8 = some (9, [], .aload_n 0, []) ∧ px_at 264 9 = some (12, [], .getfield 72, [11, 29, 2, 1, 154]) ∧ px_at 264 12 = some (13, [], .iload_n 2, []) ∧ px_at 264 13 = some (14, [], .iconst 0, []) ∧ px_at 264 14 = some (15, [], .bastore, []) ∧ px_at 264 15 = some (18, [], .iinc 2 1, []) ∧ px_at 264 18 = some (21, [], .goto (-16), [2]) ∧ px_at 264 21 = some (22, [], .iconst 0, []) ∧ px_at 264 22 = some (23, [], .istore_n 2, []) ∧ px_at 264 23 = some (24, [1, 1, 1, 0, 0], .iload_n 2, []) ∧ px_at 264 24 = some (25, [], .aload_n 0, []) ∧ px_at 264 25 = some (28, [], .getfield 7, [11, 0, 2, 1, 125]) ∧ px_at 264 28 = some (29, [], .iconst 5, []) ∧ px_at 264 29 = some (30, [], .iaload, []) ∧ px_at 264 30 = some (33, [], .if_icmp .ge 72, [102]) ∧ px_at 264 33 = some (34, [], .iload_n 1, []) ∧ px_at 264 34 = some (35, [], .iload_n 2, []) ∧ px_at 264 35 = some (38, [], .invokestatic 289, [173, 2, 11, 281]) ∧ px_at 264 38 = some (41, [], .ifCond .eq 6, [44]) ∧ px_at 264 41 = some (44, [], .goto 55, [96]) ∧ px_at 264 44 = some (45, [], .iconst 0, []) ∧ px_at 264 45 = some (46, [], .istore_n 3, []) ∧ px_at 264 46 = some (47, [1, 1, 1, 1, 0], .iload_n 3, []) ∧ px_at 264 47 = some (48, [], .aload_n 0, []) ∧ px_at 264 48 = some (49, [], .iload_n 2, []) ∧ px_at 264 49 = some (52, [], .invokevirtual 180, [206, 1, 11, 253]) ∧ px_at 264 52 = some (55, [], .if_icmp .ge 44, [96]) ∧ px_at 264 55 = some (56, [], .aload_n 0, []) ∧ px_at 264 56 = some (57, [], .iload_n 2, []) ∧ px_at 264 57 = some (58, [], .iload_n 3, []) ∧ px_at 264 58 = some (61, [], .invokevirtual 187, [207, 2, 11, 256]) ∧ px_at 264 61 = some (63, [], .istore 4, []) ∧ px_at 264 63 = some (65, [1, 1, 1, 1, 1], .iload 4, []) ∧ px_at 264 65 = some (67, [], .bipush (-2), []) ∧ px_at 264 67 = some (70, [], .if_icmp .eq 23, [90]) ∧ px_at 264 70 = some (71, [], .aload_n 0, []) ∧ px_at 264 71 = some (74, [], .getfield 72, [11, 29, 2, 1, 154]) ∧ px_at 264 74 = some (76, [], .iload 4, []) ∧ px_at 264 76 = some (77, [], .iconst 1, []) ∧ px_at 264 77 = some (78, [], .bastore, []) ∧ px_at 264 78 = some (79, [], .aload_n 0, []) ∧ px_at 264 79 = some (81, [], .iload 4, []) ∧ px_at 264 81 = some (82, [], .iconst 5, []) ∧ px_at 264 82 = some (85, [], .invokevirtual 109, [187, 2, 11, 259]) ∧ px_at 264 85 = some (87, [], .istore 4, []) ∧ px_at 264 87 = some (90, [], .goto (-24), [63]) ∧ px_at 264 90 = some (93, [], .iinc 3 1, []) ∧ px_at 264 93 = some (96, [], .goto (-47), [46]) ∧ px_at 264 96 = some (99, [], .iinc 2 1, []) ∧ px_at 264 99 = some (102, [], .goto (-76), [23]) ∧ px_at 264 102 = some (103, [], .iconst 0, []) ∧ px_at 264 103 = some (104, [], .istore_n 2, []) ∧ px_at 264 104 = some (105, [], .iconst 0, []) ∧ px_at 264 105 = some (106, [], .istore_n 3, []) ∧ px_at 264 106 = some (107, [1, 0, 1, 1, 0], .iload_n 3, []) ∧ px_at 264 107 = some (109, [], .bipush 40, []) ∧ px_at 264 109 = some (112, [], .if_icmp .ge 37, [146]) ∧ px_at 264 112 = some (113, [], .aload_n 0, []) ∧ px_at 264 113 = some (114, [], .iload_n 3, []) ∧ px_at 264 114 = some (115, [], .iconst 0, []) ∧ px_at 264 115 = some (118, [], .invokevirtual 109, [187, 2, 11, 259]) ∧ px_at 264 118 = some (119, [], .iconst 1, []) ∧ px_at 264 119 = some (122, [], .if_icmp .ne 21, [140]) ∧ px_at 264 122 = some (123, [], .aload_n 0, []) ∧ px_at 264 123 = some (126, [], .getfield 72, [11, 29, 2, 1, 154]) ∧ px_at 264 126 = some (127, [], .iload_n 3, []) ∧ px_at 264 127 = some (128, [], .baload, []) ∧ px_at 264 128 = some (131, [], .ifCond .ne 12, [140]) ∧ px_at 264 131 = some (132, [], .iload_n 2, []) ∧ px_at 264 132 = some (133, [], .aload_n 0, []) ∧ px_at 264 133 = some (134, [], .iload_n 3, []) ∧ px_at 264 134 = some (135, [], .iconst 4, []) ∧ px_at 264 135 = some (138, [], .invokevirtual 109, [187, 2, 11, 259]) ∧ px_at 264 138 = some (139, [], .iadd, []) ∧ px_at 264 139 = some (140, [], .istore_n 2, []) ∧ px_at 264 140 = some (143, [], .iinc 3 1, []) ∧ px_at 264 143 = some (146, [], .goto (-37), [106]) ∧ px_at 264 146 = some (147, [], .iload_n 2, []) ∧ px_at 264 147 = some (148, [], .ireturn, [0]) := ⟨rfl, rfl, rfl, rfl, rfl, rfl, rfl, rfl, rfl, rfl, rfl, rfl, rfl, rfl, rfl, rfl, rfl, rfl, rfl, rfl, rfl, rfl, rfl, rfl, rfl, rfl, rfl, rfl, rfl, rfl, rfl, rfl, rfl, rfl, rfl, rfl, rfl, rfl, rfl, rfl, rfl, rfl, rfl, rfl, rfl, rfl, rfl, rfl, rfl, rfl, rfl, rfl, rfl, rfl, rfl, rfl, rfl, rfl, rfl, rfl, rfl, rfl, rfl, rfl, rfl, rfl, rfl, rfl, rfl, rfl, rfl, rfl, rfl, rfl, rfl, rfl, rfl, rfl, rfl, rfl, rfl, rfl, rfl, rfl⟩
set_option maxRecDepth 100000 in
/-- X12_sealed -/
theorem cd_265 : px_at 265 0 = some (1, [], .iconst 0, []) ∧ px_at 265 1 = some (2, [], .istore_n 1, []) ∧ px_at 265 2 = some (3, [], .iconst 0, []) ∧ px_at 265 3 = some (4, [], .istore_n 2, []) ∧ px_at 265 4 = some (5, [1, 1, 1], .iload_n 2, []) ∧ px_at 265 5 = some (6, [], .aload_n 0, []) ∧ px_at 265 6 = some (9, [], .getfield 7, [11, 0, 2, 1, 125]) ∧ px_at 265 9 = some (10, [], .iconst 5, []) ∧ px_at 265 10 = some (11, [], .iaload, []) ∧ px_at 265 11 = some (14, [], .if_icmp .ge 31, [42]) ∧ px_at 265 14 = some (15, [], .aload_n 0, []) ∧ px_at 265 15 = some (18, [], .getfield 7, [11, 0, 2, 1, 125]) ∧ px_at 265 18 = some (19, [], .aload_n 0, []) ∧ px_at 265 19 = some (20, [], .iload_n 2, []) ∧ px_at 265 20 = some (23, [], .invokevirtual 174, [204, 1, 11, 251]) ∧ px_at 265 23 = some (24, [], .iconst 3, []) ∧ px_at 265 24 = some (25, [], .iadd, []) ∧ px_at 265 25 = some (26, [], .iaload, []) ∧ px_at 265 26 = some (27, [], .iconst 1, []) ∧ px_at 265 27 = some (30, [], .if_icmp .ne 9, [36]) ∧ px_at 265 30 = some (31, [], .iload_n 1, []) ∧ px_at 265 31 = some (32, [], .iconst 1, []) ∧ px_at 265 32 = some (33, [], .iload_n 2, []) ∧ px_at 265 33 = some (34, [], .ishl, []) ∧ px_at 265 34 = some (35, [], .ior, []) ∧ px_at 265 35 = some (36, [], .istore_n 1, []) ∧ px_at 265 36 = some (39, [], .iinc 2 1, []) ∧ px_at 265 39 = some (42, [], .goto (-35), [4]) ∧ px_at 265 42 = some (43, [], .iload_n 1, []) ∧ px_at 265 43 = some (44, [], .ireturn, [0]) := ⟨rfl, rfl, rfl, rfl, rfl, rfl, rfl, rfl, rfl, rfl, rfl, rfl, rfl, rfl, rfl, rfl, rfl, rfl, rfl, rfl, rfl, rfl, rfl, rfl, rfl, rfl, rfl, rfl, rfl, rfl⟩
/-! the reference: what goes with a set of editions -/
def mkS (M : px_mem) (A : Int → Prop) : Prop := ∀ o, 0 ≤ o → o < 40 → M 148 o = b1 (A o)
def frb (M' M : px_mem) : Prop := ∀ b, b ≠ 148 → M' b = M b
theorem b1_congr {p q : Prop} (h : p ↔ q) : b1 p = b1 q := by rw [propext h]
theorem mkS_congr {M : px_mem} {A B : Int → Prop} (h : mkS M A) (e : ∀ o, 0 ≤ o → o < 40 → (A o ↔ B o)) : mkS M B := fun o o0 o1 => by rw [h o o0 o1]; exact b1_congr (e o o0 o1)
theorem mkS_set {M : px_mem} {A : Int → Prop} {x : Int} (h : mkS M A) : mkS (px_up M 148 x 1) (fun o => A o ∨ o = x) := fun o o0 o1 => by
  by_cases q : o = x
  · rw [q, upe, b1_t (Or.inr rfl)]
  · rw [upn q, h o o0 o1]
    exact b1_congr ⟨Or.inl, fun z => z.elim id (fun y => absurd y q)⟩
theorem upr9 {M : px_mem} {a j x b : Int} (h : b ≠ a) : px_up M a j x b = M b := funext (fun i => by rw [px_up_at, if_neg (fun z => h z.1)])
theorem frb_refl (M : px_mem) : frb M M := fun _ _ => rfl
theorem frb_up {A B : px_mem} {j x : Int} (h : frb A B) : frb (px_up A 148 j x) B := fun b b0 => by rw [upr9 b0]; exact h b b0
theorem frb_128 {A B : px_mem} (h : frb A B) : A 128 = B 128 := h 128 (by decide)
theorem frb_trans {A B C : px_mem} (h : frb A B) (g : frb B C) : frb A C := fun b b0 => (h b b0).trans (g b b0)
/-- all on whose bytes an edition out of a set hangs -/
def lbK (Mc : px_mem) (s e o : Int) : Prop := ∃ e', 0 ≤ e' ∧ e' < e ∧ ¬ inS s e' ∧ ∃ j, 0 ≤ j ∧ j < nfC Mc e' ∧ HG Mc (cfC Mc e' j) o
noncomputable def lbF (Mc : px_mem) (s c : Int) : Int := ifP (0 ≤ Mc 62 c ∧ ∀ i, 0 ≤ i → fullS (Mc 62) (Mc 61) (fun c => i < Mc 20 1 ∧ lsE (nfC Mc) (cfC Mc) i c) 3 c → inS s i) (Mc 60 c)
noncomputable def bolC (Mc : px_mem) (s : Int) : Int := sm 40 (lbF Mc s)
theorem lbK_iff {Mc : px_mem} {pl : Int → Int → List Int} {nm : Int → List Int} {F : Int → Int} (hT : TE Mc pl nm F) {s c : Int} (c0 : 0 ≤ c) (c1 : c < 40) (c2 : 0 ≤ Mc 62 c) : (∀ i, 0 ≤ i → fullS (Mc 62) (Mc 61) (fun c => i < Mc 20 1 ∧ lsE (nfC Mc) (cfC Mc) i c) 3 c → inS s i) ↔ ¬ lbK Mc s (Mc 20 1) c := by
  have hci := hT.1.1
  have hdp := dpt_ci hci c c0 c1 c2
  constructor
  · rintro h ⟨e, e0, e1, e2, j, j0, j1, j2⟩
    have hj := TE_ent hT e0 e1 j0 j1
    exact e2 (h e e0 ((HG_set hci _ 3 c c0 c1 c2 (by omega)).mpr ⟨cfC Mc e j, hj.2.2.2.1, hj.2.2.2.2.1, hj.2.2.2.2.2, j2, e1, j, j0, j1, rfl⟩))
  · intro h i i0 hf
    obtain ⟨d, d0, d1, d2, d3, d4, j, j0, j1, j2⟩ := (HG_set hci _ 3 c c0 c1 c2 (by omega)).mp hf
    exact Classical.byContradiction (fun z => h ⟨i, i0, d4, z, j, j0, j1, by rw [j2]; exact d3⟩)
section PS
variable {M : px_mem} {Q : Option pv → px_mem → Prop}
set_option maxHeartbeats 600000 in
set_option maxRecDepth 100000 in
theorem lp_lb0 {M0 : px_mem} {s : Int} (hx : ∀ M, frb M M0 → mkS M (fun _ => False) → px_WP 264 0 0 (px_Q0 LAY Q) 23 [(2, 127), (0, s), (0, 0), (9, 0), (9, 0)] [] LAY M 0 0) (c : Int) (hk_c : c ≤ 40) : ∀ M, 0 ≤ c → frb M M0 → (∀ o, 0 ≤ o → o < c → M 148 o = 0) → px_WP 264 0 0 (px_Q0 LAY Q) 2 [(2, 127), (0, s), (0, c), (9, 0), (9, 0)] [] LAY M 0 0 := by
  refine up_ind (P := fun c => ∀ M, 0 ≤ c → frb M M0 → (∀ o, 0 ≤ o → o < c → M 148 o = 0) → px_WP 264 0 0 (px_Q0 LAY Q) 2 [(2, 127), (0, s), (0, c), (9, 0), (9, 0)] [] LAY M 0 0) (40) (fun c hk_c ih => ?_) c hk_c
  intro M c0 hf hz
  refine px_go_ok (inl := []) 60 ?_
  simp only [px_go, px_Q0_at, px_sx_0, px_sx_s, px_cl, px_step, ↓px_ll, px_lg, f4_, ↓px_r1, ↓px_r2, ↓px_r4, ↓px_r5, ↓px_p1, ↓px_p2, ↓px_p3, ↓px_pop, px_k_0, px_k_s, px_k3_0, px_stk_, px_cats, px_ent, px_st1, px_st2, px_mask, ↓px_tsw, ↓px_lsw, ct_, mls_0, mls_1, mls_2, mls_3, mls_4, mls_5, kd_0, kd_1, kd_2, kd_3, ln_0, ln_1, ln_2, ln_3, gf_0, gf_1, gf_2, gf_3, gf_4, gf_7, gf_21, gf_63, dy_0, dy_1, dy_2, dy_3, dy_7, dy_21, px_brT, px_brF, true_and, and_true, and_false, false_and, and_self, true_implies, false_implies, or_true, true_or, or_false, false_or, eq_self, ne_eq, not_false_eq_true, not_true_eq_false, if_true, if_false, List.mem_cons, List.not_mem_nil, List.length_cons, List.length_nil, Nat.reduceEqDiff, Nat.reduceAdd, Nat.reduceSub, Nat.reduceLeDiff, Nat.reduceLT, Int.reduceEq, Int.reduceLT, Int.reduceLE, Int.reduceNeg, Int.reduceAdd, Int.reduceSub, Int.reduceToNat, ↓reduceIte, one_ne_zero_, zero_ne_one_, px_in32L, cd_264]
  repeat' (first | (with_reducible apply And.intro) | (with_reducible refine px_br_intro (fun _ => ?_) (fun _ => ?_)))
  all_goals (try (first | (unfold px_in32; omega) | omega))
  · rename_i c1
    exact hx M hf (fun o o0 o1 => by rw [hz o o0 (by omega), b1_f (fun z => z)])
  · rename_i c1
    refine ih (by omega) _ (by omega) (frb_up hf) (fun o o0 o1 => ?_)
    by_cases q : o = c
    · rw [q, upe]
    · rw [upn q]; exact hz o o0 (by omega)
set_option maxHeartbeats 600000 in
set_option maxRecDepth 100000 in
theorem lp_lb3 {M0 Mc : px_mem} {s e j c : Int} {A : Int → Prop} (hT : tieC Mc (M0 128)) (hc : 0 ≤ c ∧ c < 40 ∧ 0 ≤ Mc 62 c) (hx : ∀ M, frb M M0 → mkS M (fun o => A o ∨ HG Mc c o) → px_WP 264 0 0 (px_Q0 LAY Q) 63 [(2, 127), (0, s), (0, e), (0, j), (0, -2)] [] LAY M 0 0) (i : Int) (hk_i : i ≤ Mc 62 c) : ∀ M, 0 ≤ i → frb M M0 → mkS M (fun o => A o ∨ ∃ k : Nat, (k : Int) < i ∧ chn (cC Mc) c k = o) → px_WP 264 0 0 (px_Q0 LAY Q) 63 [(2, 127), (0, s), (0, e), (0, j), (0, chn (cC Mc) c i.toNat)] [] LAY M 0 0 := by
  refine up_ind (P := fun i => ∀ M, 0 ≤ i → frb M M0 → mkS M (fun o => A o ∨ ∃ k : Nat, (k : Int) < i ∧ chn (cC Mc) c k = o) → px_WP 264 0 0 (px_Q0 LAY Q) 63 [(2, 127), (0, s), (0, e), (0, j), (0, chn (cC Mc) c i.toNat)] [] LAY M 0 0) (Mc 62 c) (fun i hk_i ih => ?_) i hk_i
  intro M i0 hf hm
  have hx2 := chn_ok hT.1.1 hc.1 hc.2.1 hc.2.2 i.toNat (by omega)
  have hp := tieC_p hT hx2.1 hx2.2.1 (by omega)
  have hk := hT.1.1 _ hx2.1 hx2.2.1 (by omega)
  have e5 : M 128 (654 + 6 * chn (cC Mc) c i.toNat + 5) = Mc 61 (chn (cC Mc) c i.toNat) := by rw [frb_128 hf]; exact hp.2.2.2.2
  have hnx : chn (cC Mc) c (i + 1).toNat = Mc 61 (chn (cC Mc) c i.toNat) := by rw [show (i + 1).toNat = i.toNat + 1 by omega]; rfl
  unfold cok at hk
  have e6 : cC Mc (chn (cC Mc) c i.toNat) 5 = Mc 61 (chn (cC Mc) c i.toNat) := rfl
  rw [e6] at hk
  have hs := mkS_set (x := chn (cC Mc) c i.toNat) hm
  have hs2 : mkS (px_up M 148 (chn (cC Mc) c i.toNat) 1) (fun o => A o ∨ ∃ k : Nat, (k : Int) < i + 1 ∧ chn (cC Mc) c k = o) := mkS_congr hs (fun o o0 o1 => ⟨fun z => by
    rcases z with (z | ⟨k, k1, k2⟩) | z
    · exact Or.inl z
    · exact Or.inr ⟨k, by omega, k2⟩
    · exact Or.inr ⟨i.toNat, by omega, z.symm⟩, fun z => by
    rcases z with z | ⟨k, k1, k2⟩
    · exact Or.inl (Or.inl z)
    · by_cases y : (k : Int) = i
      · right; rw [← k2, show k = i.toNat by omega]
      · exact Or.inl (Or.inr ⟨k, by omega, k2⟩)⟩)
  have hend : i = Mc 62 c → px_WP 264 0 0 (px_Q0 LAY Q) 63 [(2, 127), (0, s), (0, e), (0, j), (0, -2)] [] LAY (px_up M 148 (chn (cC Mc) c i.toNat) 1) 0 0 := fun q => hx _ (frb_up hf) (mkS_congr hs2 (fun o _ _ => ⟨fun z => by
    rcases z with z | ⟨k, k1, k2⟩
    · exact Or.inl z
    · exact Or.inr ⟨k, by omega, k2⟩, fun z => by
    rcases z with z | ⟨k, k1, k2⟩
    · exact Or.inl z
    · exact Or.inr ⟨k, by omega, k2⟩⟩))
  have hgo : i < Mc 62 c → px_WP 264 0 0 (px_Q0 LAY Q) 63 [(2, 127), (0, s), (0, e), (0, j), (0, chn (cC Mc) c (i + 1).toNat)] [] LAY (px_up M 148 (chn (cC Mc) c i.toNat) 1) 0 0 := fun q => ih q _ (by omega) (frb_up hf) hs2
  rw [hnx] at hgo
  clear hnx hs hs2 hm
  have e7 : px_up M 148 (chn (cC Mc) c i.toNat) 1 128 (654 + 6 * chn (cC Mc) c i.toNat + 5) = Mc 61 (chn (cC Mc) c i.toNat) := by rw [upr9 (by decide)]; exact e5
  generalize chn (cC Mc) c i.toNat = x at *
  refine px_go_ok (inl := [187]) 60 ?_
  simp only [px_go, px_Q0_at, px_sx_0, px_sx_s, px_cl, px_step, ↓px_ll, px_lg, f4_, ↓px_r1, ↓px_r2, ↓px_r4, ↓px_r5, ↓px_p1, ↓px_p2, ↓px_p3, ↓px_pop, px_k_0, px_k_s, px_k3_0, px_stk_, px_cats, px_ent, px_st1, px_st2, px_mask, ↓px_tsw, ↓px_lsw, ct_, mls_0, mls_1, mls_2, mls_3, mls_4, mls_5, kd_0, kd_1, kd_2, kd_3, ln_0, ln_1, ln_2, ln_3, gf_0, gf_1, gf_2, gf_3, gf_4, gf_7, gf_21, gf_63, dy_0, dy_1, dy_2, dy_3, dy_7, dy_21, px_brT, px_brF, true_and, and_true, and_false, false_and, and_self, true_implies, false_implies, or_true, true_or, or_false, false_or, eq_self, ne_eq, not_false_eq_true, not_true_eq_false, if_true, if_false, List.mem_cons, List.not_mem_nil, List.length_cons, List.length_nil, Nat.reduceEqDiff, Nat.reduceAdd, Nat.reduceSub, Nat.reduceLeDiff, Nat.reduceLT, Int.reduceEq, Int.reduceLT, Int.reduceLE, Int.reduceNeg, Int.reduceAdd, Int.reduceSub, Int.reduceToNat, ↓reduceIte, one_ne_zero_, zero_ne_one_, px_in32L, cd_264, cd_187, e7]
  repeat' (first | (with_reducible apply And.intro) | (with_reducible refine px_br_intro (fun _ => ?_) (fun _ => ?_)))
  all_goals (try (first | (unfold px_in32; omega) | omega))
  · by_cases q : i = Mc 62 c
    · rw [show Mc 61 x = -2 by omega]; exact hend q
    · exact hgo (by omega)
set_option maxHeartbeats 600000 in
set_option maxRecDepth 100000 in
theorem lp_lb2 {M0 Mc : px_mem} {s e : Int} {A : Int → Prop} {pl : Int → Int → List Int} {nm : Int → List Int} (hT : TE Mc pl nm (M0 128)) (he : 0 ≤ e ∧ e < Mc 20 1) (hx : ∀ M, frb M M0 → mkS M (fun o => A o ∨ ∃ j, 0 ≤ j ∧ j < nfC Mc e ∧ HG Mc (cfC Mc e j) o) → px_WP 264 0 0 (px_Q0 LAY Q) 23 [(2, 127), (0, s), (0, e + 1), (9, 0), (9, 0)] [] LAY M 0 0) (j : Int) (hk_j : j ≤ nfC Mc e) : ∀ M, 0 ≤ j → frb M M0 → mkS M (fun o => A o ∨ ∃ j', 0 ≤ j' ∧ j' < j ∧ HG Mc (cfC Mc e j') o) → px_WP 264 0 0 (px_Q0 LAY Q) 46 [(2, 127), (0, s), (0, e), (0, j), (9, 0)] [] LAY M 0 0 := by
  refine up_ind (P := fun j => ∀ M, 0 ≤ j → frb M M0 → mkS M (fun o => A o ∨ ∃ j', 0 ≤ j' ∧ j' < j ∧ HG Mc (cfC Mc e j') o) → px_WP 264 0 0 (px_Q0 LAY Q) 46 [(2, 127), (0, s), (0, e), (0, j), (9, 0)] [] LAY M 0 0) (nfC Mc e) (fun j hk_j ih => ?_) j hk_j
  intro M j0 hf hm
  have hTn := TE_n hT
  have hl := TE_lsA hT he.1 he.2
  have e17 : M 128 (1294 + 186 * e + 17) = nfC Mc e := by rw [frb_128 hf]; exact hl.1
  refine px_go_ok (inl := [206,207,204,205]) 60 ?_
  simp only [px_go, px_Q0_at, px_sx_0, px_sx_s, px_cl, px_step, ↓px_ll, px_lg, f4_, ↓px_r1, ↓px_r2, ↓px_r4, ↓px_r5, ↓px_p1, ↓px_p2, ↓px_p3, ↓px_pop, px_k_0, px_k_s, px_k3_0, px_stk_, px_cats, px_ent, px_st1, px_st2, px_mask, ↓px_tsw, ↓px_lsw, ct_, mls_0, mls_1, mls_2, mls_3, mls_4, mls_5, kd_0, kd_1, kd_2, kd_3, ln_0, ln_1, ln_2, ln_3, gf_0, gf_1, gf_2, gf_3, gf_4, gf_7, gf_21, gf_63, dy_0, dy_1, dy_2, dy_3, dy_7, dy_21, px_brT, px_brF, true_and, and_true, and_false, false_and, and_self, true_implies, false_implies, or_true, true_or, or_false, false_or, eq_self, ne_eq, not_false_eq_true, not_true_eq_false, if_true, if_false, List.mem_cons, List.not_mem_nil, List.length_cons, List.length_nil, Nat.reduceEqDiff, Nat.reduceAdd, Nat.reduceSub, Nat.reduceLeDiff, Nat.reduceLT, Int.reduceEq, Int.reduceLT, Int.reduceLE, Int.reduceNeg, Int.reduceAdd, Int.reduceSub, Int.reduceToNat, ↓reduceIte, one_ne_zero_, zero_ne_one_, px_in32L, cd_264, cd_206, cd_207, cd_204, cd_205, e17]
  repeat' (first | (with_reducible apply And.intro) | (with_reducible refine px_br_intro (fun _ => ?_) (fun _ => ?_)))
  all_goals (try (first | (unfold px_in32; omega) | omega))
  · rename_i c1
    rw [show j = nfC Mc e by omega] at hm
    exact hx M hf hm
  · rename_i c1
    have hj := TE_ent hT he.1 he.2 j0 (show j < Mc (Mc 21 e) 2 by have : nfC Mc e = Mc (Mc 21 e) 2 := rfl; omega)
    have ec : M 128 (1294 + 186 * e + 18 + 14 * j + 13) = cfC Mc e j := by rw [frb_128 hf]; exact hj.1.2.2
    rw [ec]
    have hgo : ∀ M1, frb M1 M0 → mkS M1 (fun o => (A o ∨ ∃ j', 0 ≤ j' ∧ j' < j ∧ HG Mc (cfC Mc e j') o) ∨ HG Mc (cfC Mc e j) o) → px_WP 264 0 0 (px_Q0 LAY Q) 46 [(2, 127), (0, s), (0, e), (0, j + 1), (9, 0)] [] LAY M1 0 0 := fun M1 a1 a2 => ih (by omega) M1 (by omega) a1 (mkS_congr a2 (fun o _ _ => ⟨fun z => by
      rcases z with (z | ⟨k, k1, k2, k3⟩) | z
      · exact Or.inl z
      · exact Or.inr ⟨k, k1, by omega, k3⟩
      · exact Or.inr ⟨j, j0, by omega, z⟩, fun z => by
      rcases z with z | ⟨k, k1, k2, k3⟩
      · exact Or.inl (Or.inl z)
      · by_cases y : k = j
        · right; rw [← y]; exact k3
        · exact Or.inl (Or.inr ⟨k, k1, by omega, k3⟩)⟩))
    refine lp_lb3 (Q := Q) (s := s) (e := e) (j := j) (c := cfC Mc e j) hT.1 ⟨hj.2.2.2.1, hj.2.2.2.2.1, hj.2.2.2.2.2⟩ (fun M1 a1 a2 => by
      have g1 := hgo M1 a1 a2
      refine px_go_ok (inl := []) 60 ?_
      simp only [px_go, px_Q0_at, px_sx_0, px_sx_s, px_cl, px_step, ↓px_ll, px_lg, f4_, ↓px_r1, ↓px_r2, ↓px_r4, ↓px_r5, ↓px_p1, ↓px_p2, ↓px_p3, ↓px_pop, px_k_0, px_k_s, px_k3_0, px_stk_, px_cats, px_ent, px_st1, px_st2, px_mask, ↓px_tsw, ↓px_lsw, ct_, mls_0, mls_1, mls_2, mls_3, mls_4, mls_5, kd_0, kd_1, kd_2, kd_3, ln_0, ln_1, ln_2, ln_3, gf_0, gf_1, gf_2, gf_3, gf_4, gf_7, gf_21, gf_63, dy_0, dy_1, dy_2, dy_3, dy_7, dy_21, px_brT, px_brF, true_and, and_true, and_false, false_and, and_self, true_implies, false_implies, or_true, true_or, or_false, false_or, eq_self, ne_eq, not_false_eq_true, not_true_eq_false, if_true, if_false, List.mem_cons, List.not_mem_nil, List.length_cons, List.length_nil, Nat.reduceEqDiff, Nat.reduceAdd, Nat.reduceSub, Nat.reduceLeDiff, Nat.reduceLT, Int.reduceEq, Int.reduceLT, Int.reduceLE, Int.reduceNeg, Int.reduceAdd, Int.reduceSub, Int.reduceToNat, ↓reduceIte, one_ne_zero_, zero_ne_one_, px_in32L, cd_264, cd_206, cd_207, cd_204, cd_205]
      repeat' (first | (with_reducible apply And.intro) | (with_reducible refine px_br_intro (fun _ => ?_) (fun _ => ?_)))
      all_goals (try (first | (unfold px_in32; omega) | omega))
      all_goals exact g1) 0 hj.2.2.2.2.2 M (Int.le_refl 0) hf (mkS_congr hm (fun o _ _ => ⟨Or.inl, fun z => z.elim id (fun ⟨k, k1, _⟩ => by omega)⟩))
set_option maxHeartbeats 600000 in
set_option maxRecDepth 100000 in
theorem lp_lb1 {M0 Mc : px_mem} {s : Int} {pl : Int → Int → List Int} {nm : Int → List Int} (hT : TE Mc pl nm (M0 128)) (hs : 0 ≤ s ∧ s < 1024) (hx : ∀ M, frb M M0 → mkS M (lbK Mc s (Mc 20 1)) → px_WP 264 0 0 (px_Q0 LAY Q) 106 [(2, 127), (9, 0), (0, 0), (0, 0), (9, 0)] [] LAY M 0 0) (e : Int) (hk_e : e ≤ Mc 20 1) : ∀ M, 0 ≤ e → frb M M0 → mkS M (lbK Mc s e) → px_WP 264 0 0 (px_Q0 LAY Q) 23 [(2, 127), (0, s), (0, e), (9, 0), (9, 0)] [] LAY M 0 0 := by
  refine up_ind (P := fun e => ∀ M, 0 ≤ e → frb M M0 → mkS M (lbK Mc s e) → px_WP 264 0 0 (px_Q0 LAY Q) 23 [(2, 127), (0, s), (0, e), (9, 0), (9, 0)] [] LAY M 0 0) (Mc 20 1) (fun e hk_e ih => ?_) e hk_e
  intro M e0 hf hm
  have hTn := TE_n hT
  have h5 : M 128 5 = Mc 20 1 := by rw [frb_128 hf]; exact hTn.1
  have hb : e < Mc 20 1 → (px_iand (px_ishr s e) 1 = 1 ↔ inS s e) := fun q => bit_s1 e0 (by omega) ⟨hs.1, by omega⟩
  refine px_go_ok (inl := [173]) 60 ?_
  simp only [px_go, px_Q0_at, px_sx_0, px_sx_s, px_cl, px_step, ↓px_ll, px_lg, f4_, ↓px_r1, ↓px_r2, ↓px_r4, ↓px_r5, ↓px_p1, ↓px_p2, ↓px_p3, ↓px_pop, px_k_0, px_k_s, px_k3_0, px_stk_, px_cats, px_ent, px_st1, px_st2, px_mask, ↓px_tsw, ↓px_lsw, ct_, mls_0, mls_1, mls_2, mls_3, mls_4, mls_5, kd_0, kd_1, kd_2, kd_3, ln_0, ln_1, ln_2, ln_3, gf_0, gf_1, gf_2, gf_3, gf_4, gf_7, gf_21, gf_63, dy_0, dy_1, dy_2, dy_3, dy_7, dy_21, px_brT, px_brF, true_and, and_true, and_false, false_and, and_self, true_implies, false_implies, or_true, true_or, or_false, false_or, eq_self, ne_eq, not_false_eq_true, not_true_eq_false, if_true, if_false, List.mem_cons, List.not_mem_nil, List.length_cons, List.length_nil, Nat.reduceEqDiff, Nat.reduceAdd, Nat.reduceSub, Nat.reduceLeDiff, Nat.reduceLT, Int.reduceEq, Int.reduceLT, Int.reduceLE, Int.reduceNeg, Int.reduceAdd, Int.reduceSub, Int.reduceToNat, ↓reduceIte, one_ne_zero_, zero_ne_one_, px_in32L, cd_264, cd_173, h5]
  repeat' (first | (with_reducible apply And.intro) | (with_reducible refine px_br_intro (fun _ => ?_) (fun _ => ?_)))
  all_goals (try (first | (unfold px_in32; omega) | omega))
  · rename_i c1
    rw [show e = Mc 20 1 by omega] at hm
    exact hx M hf hm
  · rename_i c1 c2
    rw [hb (by omega)] at c2
    exact ih (by omega) M (by omega) hf (mkS_congr hm (fun o _ _ => ⟨fun ⟨k, k1, k2, k3⟩ => ⟨k, k1, by omega, k3⟩, fun ⟨k, k1, k2, k3, k4⟩ => by
      by_cases y : k = e
      · exact absurd (by rw [y]; exact c2) k3
      · exact ⟨k, k1, by omega, k3, k4⟩⟩))
  · rename_i c1 c2
    rw [hb (by omega)] at c2
    have hl := TE_lsA hT e0 (show e < Mc 20 1 by omega)
    refine lp_lb2 hT ⟨e0, by omega⟩ (fun M1 a1 a2 => ih (by omega) M1 (by omega) a1 (mkS_congr a2 (fun o _ _ => ⟨fun z => by
      rcases z with ⟨k, k1, k2, k3⟩ | z
      · exact ⟨k, k1, by omega, k3⟩
      · exact ⟨e, e0, by omega, c2, z⟩, fun ⟨k, k1, k2, k3, k4⟩ => by
      by_cases y : k = e
      · right; rw [← y]; exact k4
      · exact Or.inl ⟨k, k1, by omega, k3, k4⟩⟩))) 0 hl.2.1 M (Int.le_refl 0) hf (mkS_congr hm (fun o _ _ => ⟨Or.inl, fun z => z.elim id (fun ⟨k, k1, k2, _⟩ => by omega)⟩))
set_option maxHeartbeats 600000 in
set_option maxRecDepth 100000 in
theorem lp_lb4 {M0 Mc : px_mem} {s : Int} {pl : Int → Int → List Int} {nm : Int → List Int} (hT : TE Mc pl nm (M0 128)) (hf : frb M M0) (hm : mkS M (lbK Mc s (Mc 20 1))) (h : Q (some (0, bolC Mc s)) M) (c : Int) (hk_c : c ≤ 40) : 0 ≤ c → px_WP 264 0 0 (px_Q0 LAY Q) 106 [(2, 127), (9, 0), (0, sm c (lbF Mc s)), (0, c), (9, 0)] [] LAY M 0 0 := by
  refine up_ind (P := fun c => 0 ≤ c → px_WP 264 0 0 (px_Q0 LAY Q) 106 [(2, 127), (9, 0), (0, sm c (lbF Mc s)), (0, c), (9, 0)] [] LAY M 0 0) (40) (fun c hk_c ih => ?_) c hk_c
  intro c0
  have hw := @sm_s c c0 (lbF Mc s)
  have hb := sm_bnd (c := 40) c0 (f := lbF Mc s) (fun d d0 d1 => by
    unfold lbF
    by_cases q : 0 ≤ Mc 62 d ∧ ∀ i, 0 ≤ i → fullS (Mc 62) (Mc 61) (fun c => i < Mc 20 1 ∧ lsE (nfC Mc) (cfC Mc) i c) 3 d → inS s i
    · have hkc := cokC (hT.1.1.1 d d0 (by omega) q.1)
      rw [ifP_t q]; omega
    · rw [ifP_f q]; omega)
  have hio : c < 40 → (0 ≤ Mc 62 c ∧ rC (M 128) c 0 = 1) ∨ (Mc 62 c < 0 ∧ rC (M 128) c 0 = 0) := fun q => by rw [frb_128 hf]; exact hT.1.2.1 c c0 q
  have hm2 := hm c c0
  have hlb : 0 ≤ Mc 62 c → c < 40 → _ := fun q1 q2 => lbK_iff (s := s) hT c0 q2 q1
  have hp : c < 40 → 0 ≤ Mc 62 c → M 128 (654 + 6 * c + 4) = Mc 60 c ∧ 0 ≤ Mc 60 c ∧ Mc 60 c ≤ 40 := fun q1 q2 => by
    have hkc := cokC (hT.1.1.1 c c0 q1 q2)
    exact ⟨by rw [frb_128 hf]; exact (tieC_p hT.1 c0 q1 q2).2.2.2.1, by omega, by omega⟩
  refine px_go_ok (inl := [187]) 60 ?_
  simp only [px_go, px_Q0_at, px_sx_0, px_sx_s, px_cl, px_step, ↓px_ll, px_lg, f4_, ↓px_r1, ↓px_r2, ↓px_r4, ↓px_r5, ↓px_p1, ↓px_p2, ↓px_p3, ↓px_pop, px_k_0, px_k_s, px_k3_0, px_stk_, px_cats, px_ent, px_st1, px_st2, px_mask, ↓px_tsw, ↓px_lsw, ct_, mls_0, mls_1, mls_2, mls_3, mls_4, mls_5, kd_0, kd_1, kd_2, kd_3, ln_0, ln_1, ln_2, ln_3, gf_0, gf_1, gf_2, gf_3, gf_4, gf_7, gf_21, gf_63, dy_0, dy_1, dy_2, dy_3, dy_7, dy_21, px_brT, px_brF, true_and, and_true, and_false, false_and, and_self, true_implies, false_implies, or_true, true_or, or_false, false_or, eq_self, ne_eq, not_false_eq_true, not_true_eq_false, if_true, if_false, List.mem_cons, List.not_mem_nil, List.length_cons, List.length_nil, Nat.reduceEqDiff, Nat.reduceAdd, Nat.reduceSub, Nat.reduceLeDiff, Nat.reduceLT, Int.reduceEq, Int.reduceLT, Int.reduceLE, Int.reduceNeg, Int.reduceAdd, Int.reduceSub, Int.reduceToNat, ↓reduceIte, one_ne_zero_, zero_ne_one_, px_in32L, cd_264, cd_187]
  repeat' (first | (with_reducible apply And.intro) | (with_reducible refine px_br_intro (fun _ => ?_) (fun _ => ?_)))
  all_goals (try (first | (unfold px_in32; omega) | omega))
  · rename_i c1
    rw [show c = 40 by omega]; exact h
  · rename_i c1 c2 c3
    have e : rC (M 128) c 0 = 1 := c2
    have hd : 0 ≤ Mc 62 c := by have := hio (by omega); omega
    have := hp (by omega) hd
    have hc40 : c < 40 := by omega
    have : c * 40 ≤ 1600 := by omega
    show _ ∧ _
    rw [(hp (by omega) hd).1]
    omega
  · rename_i c1 c2 c3
    have e : rC (M 128) c 0 = 1 := c2
    have hd : 0 ≤ Mc 62 c := by have := hio (by omega); omega
    have hq : ¬ lbK Mc s (Mc 20 1) c := fun z => by rw [hm2 (by omega), b1_t z] at c3; omega
    have := ih (by omega) (by omega)
    rw [hw, show lbF Mc s c = Mc 60 c by unfold lbF; exact ifP_t ⟨hd, (hlb hd (by omega)).mpr hq⟩] at this
    rw [(hp (by omega) hd).1]
    exact this
  · rename_i c1 c2 c3
    have e : rC (M 128) c 0 = 1 := c2
    have hd : 0 ≤ Mc 62 c := by have := hio (by omega); omega
    have hq : lbK Mc s (Mc 20 1) c := Classical.byContradiction (fun z => by exact c3 (by rw [hm2 (by omega), b1_f z]))
    have := ih (by omega) (by omega)
    rw [hw, show lbF Mc s c = 0 by unfold lbF; exact ifP_f (fun z => (hlb hd (by omega)).mp z.2 hq), Int.add_zero] at this
    exact this
  · rename_i c1 c2
    have e : ¬ rC (M 128) c 0 = 1 := c2
    have hd : ¬ 0 ≤ Mc 62 c := by have := hio (by omega); omega
    have := ih (by omega) (by omega)
    rw [hw, show lbF Mc s c = 0 by unfold lbF; exact ifP_f (fun z => hd z.1), Int.add_zero] at this
    exact this
set_option maxHeartbeats 600000 in
set_option maxRecDepth 100000 in
theorem sp_lessBy {Mc : px_mem} {s : Int} {pl : Int → Int → List Int} {nm : Int → List Int} (hT : TE Mc pl nm (M 128)) (hs : 0 ≤ s ∧ s < 1024) (h : ∀ M', frb M' M → Q (some (0, bolC Mc s)) M') : px_Ok 264 [(2, 127), (0, s)] LAY M Q := by
  refine px_ok_go (inl := []) (ls0 := [(2, 127), (0, s), (9, 0), (9, 0), (9, 0)]) 60 (by decide) (Nat.le_of_ble_eq_true rfl) rfl ?_
  simp only [px_go, px_Q0_at, px_sx_0, px_sx_s, px_cl, px_step, ↓px_ll, px_lg, f4_, ↓px_r1, ↓px_r2, ↓px_r4, ↓px_r5, ↓px_p1, ↓px_p2, ↓px_p3, ↓px_pop, px_k_0, px_k_s, px_k3_0, px_stk_, px_cats, px_ent, px_st1, px_st2, px_mask, ↓px_tsw, ↓px_lsw, ct_, mls_0, mls_1, mls_2, mls_3, mls_4, mls_5, kd_0, kd_1, kd_2, kd_3, ln_0, ln_1, ln_2, ln_3, gf_0, gf_1, gf_2, gf_3, gf_4, gf_7, gf_21, gf_63, dy_0, dy_1, dy_2, dy_3, dy_7, dy_21, px_brT, px_brF, true_and, and_true, and_false, false_and, and_self, true_implies, false_implies, or_true, true_or, or_false, false_or, eq_self, ne_eq, not_false_eq_true, not_true_eq_false, if_true, if_false, List.mem_cons, List.not_mem_nil, List.length_cons, List.length_nil, Nat.reduceEqDiff, Nat.reduceAdd, Nat.reduceSub, Nat.reduceLeDiff, Nat.reduceLT, Int.reduceEq, Int.reduceLT, Int.reduceLE, Int.reduceNeg, Int.reduceAdd, Int.reduceSub, Int.reduceToNat, ↓reduceIte, one_ne_zero_, zero_ne_one_, px_in32L, cd_264]
  repeat' (first | (with_reducible apply And.intro) | (with_reducible refine px_br_intro (fun _ => ?_) (fun _ => ?_)))
  all_goals (try (first | (unfold px_in32; omega) | omega))
  refine lp_lb0 (fun M1 a1 a2 => lp_lb1 hT hs (fun M2 b1 b2 => lp_lb4 hT b1 b2 (h M2 b1) 0 (by decide) (Int.le_refl 0)) 0 (by have := TE_n hT; omega) M1 (Int.le_refl 0) a1 (mkS_congr a2 (fun o _ _ => ⟨fun z => z.elim, fun ⟨k, k1, k2, _⟩ => by omega⟩))) 0 (by decide) M (Int.le_refl 0) (frb_refl M) (fun o o0 o1 => by omega)
set_option maxHeartbeats 600000 in
set_option maxRecDepth 100000 in
theorem lp_rsealed {Mc : px_mem} {pl : Int → Int → List Int} {nm : Int → List Int} (hT : TE Mc pl nm (M 128)) (h : ∀ s, seaC Mc s → Q (some (0, s)) M) (e : Int) (hk_e : e ≤ Mc 20 1) : ∀ s, 0 ≤ e → ((0 ≤ s ∧ s < 2 ^ 10) ∧ ∀ i, 0 ≤ i → (inS s i ↔ i < e ∧ Mc (Mc 21 i) 6 ≠ 0)) → px_WP 265 0 0 (px_Q0 LAY Q) 4 [(2, 127), (0, s), (0, e)] [] LAY M 0 0 := by
  refine up_ind (P := fun e => ∀ s, 0 ≤ e → ((0 ≤ s ∧ s < 2 ^ 10) ∧ ∀ i, 0 ≤ i → (inS s i ↔ i < e ∧ Mc (Mc 21 i) 6 ≠ 0)) → px_WP 265 0 0 (px_Q0 LAY Q) 4 [(2, 127), (0, s), (0, e)] [] LAY M 0 0) (Mc 20 1) (fun e hk_e ih => ?_) e hk_e
  intro s e0 hs
  have hTn := TE_n hT
  have h5 := hTn.1
  have e10 : (2 : Int) ^ 10 = 1024 := rfl
  have e3 : e < Mc 20 1 → M 128 (1294 + 186 * e + 3) = Mc (Mc 21 e) 6 := fun q => (TE_e hT e0 q).2.2.2.1
  refine px_go_ok (inl := [204]) 60 ?_
  simp only [px_go, px_Q0_at, px_sx_0, px_sx_s, px_cl, px_step, ↓px_ll, px_lg, f4_, ↓px_r1, ↓px_r2, ↓px_r4, ↓px_r5, ↓px_p1, ↓px_p2, ↓px_p3, ↓px_pop, px_k_0, px_k_s, px_k3_0, px_stk_, px_cats, px_ent, px_st1, px_st2, px_mask, ↓px_tsw, ↓px_lsw, ct_, mls_0, mls_1, mls_2, mls_3, mls_4, mls_5, kd_0, kd_1, kd_2, kd_3, ln_0, ln_1, ln_2, ln_3, gf_0, gf_1, gf_2, gf_3, gf_4, gf_7, gf_21, gf_63, dy_0, dy_1, dy_2, dy_3, dy_7, dy_21, px_brT, px_brF, true_and, and_true, and_false, false_and, and_self, true_implies, false_implies, or_true, true_or, or_false, false_or, eq_self, ne_eq, not_false_eq_true, not_true_eq_false, if_true, if_false, List.mem_cons, List.not_mem_nil, List.length_cons, List.length_nil, Nat.reduceEqDiff, Nat.reduceAdd, Nat.reduceSub, Nat.reduceLeDiff, Nat.reduceLT, Int.reduceEq, Int.reduceLT, Int.reduceLE, Int.reduceNeg, Int.reduceAdd, Int.reduceSub, Int.reduceToNat, ↓reduceIte, one_ne_zero_, zero_ne_one_, px_in32L, cd_265, cd_204, h5]
  repeat' (first | (with_reducible apply And.intro) | (with_reducible refine px_br_intro (fun _ => ?_) (fun _ => ?_)))
  all_goals (try (first | (unfold px_in32; omega) | omega))
  · rename_i c1
    rw [show e = Mc 20 1 by omega] at hs
    exact h s hs
  · rename_i c1 c2
    rw [e3 (by omega)] at c2
    have t1 := ishl_lt (k := e) (n := 10) e0 (by omega) (by decide)
    refine ih (by omega) _ (by omega) ⟨ior_lt (by decide) hs.1 t1, fun i i0 => ?_⟩
    rw [ior_in ⟨by omega, by omega⟩ ⟨by omega, by omega⟩, ishl_in e0 (by omega) i0, hs.2 i i0]
    constructor
    · rintro (z | z)
      · exact ⟨by omega, z.2⟩
      · rw [z]; exact ⟨by omega, by omega⟩
    · intro z
      by_cases q : i = e
      · exact Or.inr q
      · exact Or.inl ⟨by omega, z.2⟩
  · rename_i c1 c2
    rw [e3 (by omega)] at c2
    have h01 := (hT.2.1.2 e e0 (by omega)).2.2.2.2.1
    refine ih (by omega) _ (by omega) ⟨hs.1, fun i i0 => ?_⟩
    rw [hs.2 i i0]
    constructor
    · intro z; exact ⟨by omega, z.2⟩
    · intro z
      by_cases q : i = e
      · rw [q] at z; omega
      · exact ⟨by omega, z.2⟩
set_option maxHeartbeats 600000 in
set_option maxRecDepth 100000 in
theorem sp_rsealed {Mc : px_mem} {pl : Int → Int → List Int} {nm : Int → List Int} (hT : TE Mc pl nm (M 128)) (h : ∀ s, seaC Mc s → Q (some (0, s)) M) : px_Ok 265 [(2, 127)] LAY M Q := by
  refine px_ok_go (inl := []) (ls0 := [(2, 127), (9, 0), (9, 0)]) 60 (by decide) (Nat.le_of_ble_eq_true rfl) rfl ?_
  simp only [px_go, px_Q0_at, px_sx_0, px_sx_s, px_cl, px_step, ↓px_ll, px_lg, f4_, ↓px_r1, ↓px_r2, ↓px_r4, ↓px_r5, ↓px_p1, ↓px_p2, ↓px_p3, ↓px_pop, px_k_0, px_k_s, px_k3_0, px_stk_, px_cats, px_ent, px_st1, px_st2, px_mask, ↓px_tsw, ↓px_lsw, ct_, mls_0, mls_1, mls_2, mls_3, mls_4, mls_5, kd_0, kd_1, kd_2, kd_3, ln_0, ln_1, ln_2, ln_3, gf_0, gf_1, gf_2, gf_3, gf_4, gf_7, gf_21, gf_63, dy_0, dy_1, dy_2, dy_3, dy_7, dy_21, px_brT, px_brF, true_and, and_true, and_false, false_and, and_self, true_implies, false_implies, or_true, true_or, or_false, false_or, eq_self, ne_eq, not_false_eq_true, not_true_eq_false, if_true, if_false, List.mem_cons, List.not_mem_nil, List.length_cons, List.length_nil, Nat.reduceEqDiff, Nat.reduceAdd, Nat.reduceSub, Nat.reduceLeDiff, Nat.reduceLT, Int.reduceEq, Int.reduceLT, Int.reduceLE, Int.reduceNeg, Int.reduceAdd, Int.reduceSub, Int.reduceToNat, ↓reduceIte, one_ne_zero_, zero_ne_one_, px_in32L, cd_265]
  repeat' (first | (with_reducible apply And.intro) | (with_reducible refine px_br_intro (fun _ => ?_) (fun _ => ?_)))
  all_goals (try (first | (unfold px_in32; omega) | omega))
  have e0 : ∀ i, ¬ inS 0 i := fun i z => by unfold inS at z; simp at z
  exact lp_rsealed hT h 0 (by have := TE_n hT; omega) 0 (Int.le_refl 0) ⟨by decide, fun i i0 => ⟨fun z => absurd z (e0 i), fun z => by omega⟩⟩
end PS
