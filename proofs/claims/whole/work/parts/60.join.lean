set_option maxRecDepth 100000 in
/-- X11_rebuild -/
theorem cd_123 : px_at 123 0 = some (1, [], .aload_n 0, []) ∧ px_at 123 1 = some (4, [], .getfield 26, [10, 2, 2, 1, 116]) ∧ px_at 123 4 = some (5, [], .iload_n 1, []) ∧ px_at 123 5 = some (8, [], .invokevirtual 162, [47, 1, 3, 61]) ∧ px_at 123 8 = some (9, [], .astore_n 2, []) ∧ px_at 123 9 = some (10, [], .aload_n 2, []) ∧ px_at 123 10 = some (13, [], .ifnonnull 6, [16]) ∧ px_at 123 13 = some (15, [], .bipush (-2), []) ∧ px_at 123 15 = some (16, [], .ireturn, [0]) ∧ px_at 123 16 = some (17, [], .aload_n 0, []) ∧ px_at 123 17 = some (20, [], .getfield 42, [10, 4, 2, 1, 118]) ∧ px_at 123 20 = some (21, [], .aload_n 2, []) ∧ px_at 123 21 = some (24, [], .getfield 169, [2, 1, 2, 1, 28]) ∧ px_at 123 24 = some (25, [], .aload_n 2, []) ∧ px_at 123 25 = some (28, [], .getfield 166, [2, 2, 0, 0, 33]) ∧ px_at 123 28 = some (31, [], .invokevirtual 197, [8, 2, 1, 91]) ∧ px_at 123 31 = some (34, [], .ifCond .ne 6, [37]) ∧ px_at 123 34 = some (36, [], .bipush (-3), []) ∧ px_at 123 36 = some (37, [], .ireturn, [0]) ∧ px_at 123 37 = some (38, [], .aload_n 0, []) ∧ px_at 123 38 = some (41, [], .getfield 19, [10, 1, 2, 1, 115]) ∧ px_at 123 41 = some (42, [], .aload_n 2, []) ∧ px_at 123 42 = some (45, [], .getfield 171, [2, 0, 2, 1, 23]) ∧ px_at 123 45 = some (46, [], .aload_n 2, []) ∧ px_at 123 46 = some (49, [], .getfield 169, [2, 1, 2, 1, 28]) ∧ px_at 123 49 = some (50, [], .aload_n 2, []) ∧ px_at 123 50 = some (53, [], .getfield 166, [2, 2, 0, 0, 33]) ∧ px_at 123 53 = some (54, [], .aload_n 0, []) ∧ px_at 123 54 = some (57, [], .getfield 42, [10, 4, 2, 1, 118]) ∧ px_at 123 57 = some (60, [], .invokevirtual 201, [97, 4, 7, 92]) ∧ px_at 123 60 = some (61, [], .aload_n 0, []) ∧ px_at 123 61 = some (64, [], .getfield 19, [10, 1, 2, 1, 115]) ∧ px_at 123 64 = some (65, [], .iload_n 1, []) ∧ px_at 123 65 = some (68, [], .putfield 156, [7, 4, 0, 0, 16]) ∧ px_at 123 68 = some (69, [], .aload_n 0, []) ∧ px_at 123 69 = some (72, [], .getfield 19, [10, 1, 2, 1, 115]) ∧ px_at 123 72 = some (74, [], .bipush (-2), []) ∧ px_at 123 74 = some (77, [], .putfield 159, [7, 5, 0, 0, 19]) ∧ px_at 123 77 = some (78, [], .aload_n 0, []) ∧ px_at 123 78 = some (81, [], .getfield 19, [10, 1, 2, 1, 115]) ∧ px_at 123 81 = some (84, [], .getfield 129, [7, 3, 0, 0, 13]) ∧ px_at 123 84 = some (85, [], .ireturn, [0]) := ⟨rfl, rfl, rfl, rfl, rfl, rfl, rfl, rfl, rfl, rfl, rfl, rfl, rfl, rfl, rfl, rfl, rfl, rfl, rfl, rfl, rfl, rfl, rfl, rfl, rfl, rfl, rfl, rfl, rfl, rfl, rfl, rfl, rfl, rfl, rfl, rfl, rfl, rfl, rfl, rfl, rfl, rfl⟩
set_option maxRecDepth 100000 in
/-- X11_join -/
theorem cd_124 : px_at 124 0 = some (1, [], .aload_n 0, []) ∧ px_at 124 1 = some (4, [], .getfield 26, [10, 2, 2, 1, 116]) ∧ px_at 124 4 = some (5, [], .iload_n 1, []) ∧ px_at 124 5 = some (8, [], .invokevirtual 162, [47, 1, 3, 61]) ∧ px_at 124 8 = some (9, [], .astore_n 3, []) ∧ px_at 124 9 = some (10, [], .aload_n 0, []) ∧ px_at 124 10 = some (13, [], .getfield 26, [10, 2, 2, 1, 116]) ∧ px_at 124 13 = some (14, [], .iload_n 2, []) ∧ px_at 124 14 = some (17, [], .invokevirtual 162, [47, 1, 3, 61]) ∧ px_at 124 17 = some (19, [], .astore 4, []) ∧ px_at 124 19 = some (20, [], .aload_n 3, []) ∧ px_at 124 20 = some (23, [], .ifnull 8, [28]) ∧ px_at 124 23 = some (25, [], .aload 4, []) ∧ px_at 124 25 = some (28, [], .ifnonnull 6, [31]) ∧ px_at 124 28 = some (30, [], .bipush (-2), []) ∧ px_at 124 30 = some (31, [], .ireturn, [0]) ∧ px_at 124 31 = some (32, [], .aload_n 0, []) ∧ px_at 124 32 = some (35, [], .getfield 56, [10, 6, 2, 1, 120]) ∧ px_at 124 35 = some (36, [], .aload_n 0, []) ∧ px_at 124 36 = some (39, [], .getfield 26, [10, 2, 2, 1, 116]) ∧ px_at 124 39 = some (40, [], .aload_n 0, []) ∧ px_at 124 40 = some (43, [], .getfield 26, [10, 2, 2, 1, 116]) ∧ px_at 124 43 = some (44, [], .iload_n 1, []) ∧ px_at 124 44 = some (45, [], .iload_n 2, []) ∧ px_at 124 45 = some (48, [], .invokevirtual 205, [53, 2, 3, 94]) ∧ px_at 124 48 = some (51, [], .invokevirtual 162, [47, 1, 3, 61]) ∧ px_at 124 51 = some (52, [], .aload_n 3, []) ∧ px_at 124 52 = some (54, [], .aload 4, []) ∧ px_at 124 54 = some (57, [], .invokevirtual 209, [56, 3, 4, 97]) ∧ px_at 124 57 = some (58, [], .aload_n 0, []) ∧ px_at 124 58 = some (61, [], .getfield 42, [10, 4, 2, 1, 118]) ∧ px_at 124 61 = some (62, [], .aload_n 0, []) ∧ px_at 124 62 = some (65, [], .getfield 56, [10, 6, 2, 1, 120]) ∧ px_at 124 65 = some (68, [], .getfield 213, [4, 1, 2, 1, 100]) ∧ px_at 124 68 = some (69, [], .aload_n 0, []) ∧ px_at 124 69 = some (72, [], .getfield 56, [10, 6, 2, 1, 120]) ∧ px_at 124 72 = some (75, [], .getfield 214, [4, 2, 0, 0, 102]) ∧ px_at 124 75 = some (78, [], .invokevirtual 197, [8, 2, 1, 91]) ∧ px_at 124 78 = some (81, [], .ifCond .ne 6, [84]) ∧ px_at 124 81 = some (83, [], .bipush (-3), []) ∧ px_at 124 83 = some (84, [], .ireturn, [0]) ∧ px_at 124 84 = some (85, [], .aload_n 0, []) ∧ px_at 124 85 = some (88, [], .getfield 56, [10, 6, 2, 1, 120]) ∧ px_at 124 88 = some (91, [], .getfield 214, [4, 2, 0, 0, 102]) ∧ px_at 124 91 = some (93, [], .bipush 12, []) ∧ px_at 124 93 = some (96, [], .if_icmp .le 6, [99]) ∧ px_at 124 96 = some (98, [], .bipush (-4), []) ∧ px_at 124 98 = some (99, [], .ireturn, [0]) ∧ px_at 124 99 = some (100, [], .aload_n 0, []) ∧ px_at 124 100 = some (103, [], .getfield 19, [10, 1, 2, 1, 115]) ∧ px_at 124 103 = some (104, [], .aload_n 0, []) ∧ px_at 124 104 = some (107, [], .getfield 56, [10, 6, 2, 1, 120]) ∧ px_at 124 107 = some (110, [], .getfield 215, [4, 0, 2, 1, 98]) ∧ px_at 124 110 = some (111, [], .aload_n 0, []) ∧ px_at 124 111 = some (114, [], .getfield 56, [10, 6, 2, 1, 120]) ∧ px_at 124 114 = some (117, [], .getfield 213, [4, 1, 2, 1, 100]) ∧ px_at 124 117 = some (118, [], .aload_n 0, []) ∧ px_at 124 118 = some (121, [], .getfield 56, [10, 6, 2, 1, 120]) ∧ px_at 124 121 = some (124, [], .getfield 214, [4, 2, 0, 0, 102]) ∧ px_at 124 124 = some (125, [], .aload_n 0, []) ∧ px_at 124 125 = some (128, [], .getfield 42, [10, 4, 2, 1, 118]) ∧ px_at 124 128 = some (131, [], .invokevirtual 201, [97, 4, 7, 92]) ∧ px_at 124 131 = some (132, [], .aload_n 0, []) ∧ px_at 124 132 = some (135, [], .getfield 19, [10, 1, 2, 1, 115]) ∧ px_at 124 135 = some (136, [], .iload_n 1, []) ∧ px_at 124 136 = some (139, [], .putfield 156, [7, 4, 0, 0, 16]) ∧ px_at 124 139 = some (140, [], .aload_n 0, []) ∧ px_at 124 140 = some (143, [], .getfield 19, [10, 1, 2, 1, 115]) ∧ px_at 124 143 = some (144, [], .iload_n 2, []) ∧ px_at 124 144 = some (147, [], .putfield 159, [7, 5, 0, 0, 19]) ∧ px_at 124 147 = some (148, [], .aload_n 0, []) ∧ px_at 124 148 = some (149, [], .aload_n 0, []) ∧ px_at 124 149 = some (152, [], .getfield 56, [10, 6, 2, 1, 120]) ∧ px_at 124 152 = some (155, [], .getfield 216, [4, 3, 0, 0, 104]) ∧ px_at 124 155 = some (158, [], .putfield 74, [10, 10, 0, 0, 124]) ∧ px_at 124 158 = some (159, [], .aload_n 0, []) ∧ px_at 124 159 = some (162, [], .getfield 74, [10, 10, 0, 0, 124]) ∧ px_at 124 162 = some (163, [], .ireturn, [0]) := ⟨rfl, rfl, rfl, rfl, rfl, rfl, rfl, rfl, rfl, rfl, rfl, rfl, rfl, rfl, rfl, rfl, rfl, rfl, rfl, rfl, rfl, rfl, rfl, rfl, rfl, rfl, rfl, rfl, rfl, rfl, rfl, rfl, rfl, rfl, rfl, rfl, rfl, rfl, rfl, rfl, rfl, rfl, rfl, rfl, rfl, rfl, rfl, rfl, rfl, rfl, rfl, rfl, rfl, rfl, rfl, rfl, rfl, rfl, rfl, rfl, rfl, rfl, rfl, rfl, rfl, rfl, rfl, rfl, rfl, rfl, rfl, rfl, rfl, rfl, rfl, rfl, rfl, rfl⟩
/-! EditionVault: rebuild and join -/
theorem rdC_rng {M : px_mem} {c : Int} (hci : ci M) (c0 : 0 ≤ c) (c1 : c < 40) (c2 : 0 ≤ M 62 c) (hw : M 105 c ≠ 0) : (∀ b ∈ rdC M c, 0 ≤ b ∧ b < 256) ∧ ((rdC M c).length : Int) = M 57 c ∧ M 57 c ≤ 40 ∧ lst (M (64 + c)) ((rdC M c).length : Int) = rdC M c ∧ rd (cC M) (M 53) 5 c = some (rdC M c) ∧ mkl (rdC M c) = M 58 c := by
  have hk := cokC (hci.1 c c0 c1 c2)
  have g := hci.2.2.2.2 c c0 c1 c2
  have hl : ((rdC M c).length : Int) = M 57 c := lst_len (by omega)
  cases er : rd (cC M) (M 53) 5 c with
  | none => exact absurd (g.2 er).2 hw
  | some l =>
    have g1 := g.1 l er
    have g2 := (rd_rng hci.1 hci.2.1 5 c l c0 c1 c2 er).2
    have e : rdC M c = l := g1.2.1
    refine ⟨by rw [e]; exact g2, hl, by omega, by rw [hl]; rfl, by rw [e], ?_⟩
    have h1 : M 105 c = 1 := by omega
    have h2 := g1.2.2.2.mp h1
    rw [← h2, mkl_lst (by omega)]
    rfl
theorem isV_or (o x y : Int) : isV o x y = x ∨ isV o x y = y := by unfold isV; split <;> (try split) <;> (try split) <;> simp
/-- the latest common one, by its place -/
def comS (M : px_mem) (a b so : Int) : Prop := ∃ s t, ancC M s a ∧ ancC M t b ∧ ((so = -1 ∧ ∀ i, 0 ≤ i → i < M 20 1 → ¬ (inS s i ∧ inS t i)) ∨ (0 ≤ so ∧ so < M 20 1 ∧ inS s so ∧ inS t so ∧ ∀ j, so < j → j < M 20 1 → ¬ (inS s j ∧ inS t j)))
theorem slot_num {M : px_mem} (hn : numI M) {i : Int} (i0 : 0 ≤ i) (i1 : i < M 20 1) : slot M (M (M 21 i) 3) = i := by
  refine fnd_hit i0 i1 rfl (fun j j0 j1 e => ?_)
  have := hn.2.2.1 j i j0 j1 i1
  omega
theorem slot_neg {M : px_mem} (hn : numI M) {x : Int} (hx : x < 0) : slot M x = -1 := fnd_miss (fun j j0 j1 e => by
  have := hn.2.1 j j0 j1
  omega)
theorem comS_of {M : px_mem} {a b r : Int} (hn : numI M) (h : comC M a b r) : comS M a b (slot M r) ∧ ((slot M r = -1 ∧ r = -2) ∨ (0 ≤ slot M r ∧ slot M r < M 20 1 ∧ M (M 21 (slot M r)) 3 = r)) := by
  obtain ⟨s, t, hs, ht, hh⟩ := h
  rcases hh with ⟨e, h2⟩ | ⟨i, i0, i1, i2, i3, e, h2⟩
  · have e2 := slot_neg hn (show r < 0 by omega)
    rw [e2]
    exact ⟨⟨s, t, hs, ht, Or.inl ⟨rfl, h2⟩⟩, Or.inl ⟨rfl, e⟩⟩
  · have e2 : slot M r = i := by rw [e]; exact slot_num hn i0 i1
    rw [e2]
    exact ⟨⟨s, t, hs, ht, Or.inr ⟨i0, i1, i2, i3, h2⟩⟩, Or.inr ⟨i0, i1, e.symm⟩⟩
section PS
variable {M : px_mem} {Q : Option pv → px_mem → Prop}
set_option maxHeartbeats 600000 in
set_option maxRecDepth 100000 in
theorem sp_rebuild {num N0 : Int} {pl : Int → Int → List Int} {nm : Int → List Int} {g0 : Int → fe} (hed : edA M pl nm) (hci : ci M) (hst : stC M N0 g0) (h2 : slot M num < 0 → Q (some (0, -2)) M) (h3 : ∀ s e, slot M num = s → 0 ≤ s → e = M 21 s → ¬ (∀ j, 0 ≤ j → j < M e 2 → M 105 (M (e + 2) j) ≠ 0) → Q (some (0, -3)) M) (h1 : ∀ M' s e, slot M num = s → 0 ≤ s → s < M 20 1 → e = M 21 s → (∀ j, 0 ≤ j → j < M e 2 → M 105 (M (e + 2) j) ≠ 0) → stC M' (M e 2) (fun j => (pl s j, rdC M (M (e + 2) j))) → M' 4 4 = num → M' 4 5 = -2 → (∀ j, j ≠ 3 → j ≠ 4 → j ≠ 5 → M' 4 j = M 4 j) → (∀ b, b ≠ 4 → b ≠ 5 → b ≠ 6 → b ≠ 7 → ¬ (8 ≤ b ∧ b < 20) → M' b = M b) → Q (some (0, M e 2)) M') : px_Ok 123 [(2, 1), (0, num)] LAY M Q := by
  refine px_ok_go (inl := []) (ls0 := [(2, 1), (0, num), (9, 0)]) 60 (by decide) (Nat.le_of_ble_eq_true rfl) rfl ?_
  simp only [px_go, px_Q0_at, px_sx_0, px_sx_s, px_cl, px_step, ↓px_ll, px_lg, f4_, ↓px_r1, ↓px_r2, ↓px_r4, ↓px_r5, ↓px_p1, ↓px_p2, ↓px_p3, ↓px_pop, px_k_0, px_k_s, px_k3_0, px_stk_, px_cats, px_ent, px_st1, px_st2, px_mask, ↓px_tsw, ↓px_lsw, ct_, mls_0, mls_1, mls_2, mls_3, mls_4, mls_5, kd_0, kd_1, kd_2, kd_3, ln_0, ln_1, ln_2, ln_3, gf_0, gf_1, gf_2, gf_3, gf_4, gf_7, gf_21, gf_63, dy_0, dy_1, dy_2, dy_3, dy_7, dy_21, px_brT, px_brF, true_and, and_true, and_false, false_and, and_self, true_implies, false_implies, or_true, true_or, or_false, false_or, eq_self, ne_eq, not_false_eq_true, not_true_eq_false, if_true, if_false, List.mem_cons, List.not_mem_nil, List.length_cons, List.length_nil, Nat.reduceEqDiff, Nat.reduceAdd, Nat.reduceSub, Nat.reduceLeDiff, Nat.reduceLT, Int.reduceEq, Int.reduceLT, Int.reduceLE, Int.reduceNeg, Int.reduceAdd, Int.reduceSub, Int.reduceToNat, ↓reduceIte, one_ne_zero_, zero_ne_one_, px_in32L, cd_123]
  repeat' (first | (with_reducible apply And.intro) | (with_reducible refine px_br_intro (fun _ => ?_) (fun _ => ?_)))
  all_goals (try (first | (unfold px_in32; omega) | omega))
  have hw := hed.1
  refine sp_numbered hw ?_
  unfold edR
  have hs := slot_rng (M := M) num
  generalize slot M num = s at *
  by_cases q : s < 0
  · rw [if_pos q]
    simp only [px_go, px_Q0_at, px_sx_0, px_sx_s, px_cl, px_step, ↓px_ll, px_lg, f4_, ↓px_r1, ↓px_r2, ↓px_r4, ↓px_r5, ↓px_p1, ↓px_p2, ↓px_p3, ↓px_pop, px_k_0, px_k_s, px_k3_0, px_stk_, px_cats, px_ent, px_st1, px_st2, px_mask, ↓px_tsw, ↓px_lsw, ct_, mls_0, mls_1, mls_2, mls_3, mls_4, mls_5, kd_0, kd_1, kd_2, kd_3, ln_0, ln_1, ln_2, ln_3, gf_0, gf_1, gf_2, gf_3, gf_4, gf_7, gf_21, gf_63, dy_0, dy_1, dy_2, dy_3, dy_7, dy_21, px_brT, px_brF, true_and, and_true, and_false, false_and, and_self, true_implies, false_implies, or_true, true_or, or_false, false_or, eq_self, ne_eq, not_false_eq_true, not_true_eq_false, if_true, if_false, List.mem_cons, List.not_mem_nil, List.length_cons, List.length_nil, Nat.reduceEqDiff, Nat.reduceAdd, Nat.reduceSub, Nat.reduceLeDiff, Nat.reduceLT, Int.reduceEq, Int.reduceLT, Int.reduceLE, Int.reduceNeg, Int.reduceAdd, Int.reduceSub, Int.reduceToNat, ↓reduceIte, one_ne_zero_, zero_ne_one_, px_in32L, cd_123]
    exact h2 q
  · rw [if_neg q]
    have hE := hw.1 s (by omega) (by have := hw.2.2; omega)
    have hei := hed.2 s (by omega) (by omega)
    have hel := isE_lay hE.1
    have heg := isE_gf hE.1
    have hem := isE_m hE.1
    have h3 := h3 s _ rfl (by omega) rfl
    have h1 := fun M' => h1 M' s _ rfl (by omega) (by omega) rfl
    generalize M 21 s = e at *
    have hls := hei.1
    have hn12 := hls.2.1
    simp only [px_go, px_Q0_at, px_sx_0, px_sx_s, px_cl, px_step, ↓px_ll, px_lg, f4_, ↓px_r1, ↓px_r2, ↓px_r4, ↓px_r5, ↓px_p1, ↓px_p2, ↓px_p3, ↓px_pop, px_k_0, px_k_s, px_k3_0, px_stk_, px_cats, px_ent, px_st1, px_st2, px_mask, ↓px_tsw, ↓px_lsw, ct_, mls_0, mls_1, mls_2, mls_3, mls_4, mls_5, kd_0, kd_1, kd_2, kd_3, ln_0, ln_1, ln_2, ln_3, gf_0, gf_1, gf_2, gf_3, gf_4, gf_7, gf_21, gf_63, dy_0, dy_1, dy_2, dy_3, dy_7, dy_21, px_brT, px_brF, true_and, and_true, and_false, false_and, and_self, true_implies, false_implies, or_true, true_or, or_false, false_or, eq_self, ne_eq, not_false_eq_true, not_true_eq_false, if_true, if_false, List.mem_cons, List.not_mem_nil, List.length_cons, List.length_nil, Nat.reduceEqDiff, Nat.reduceAdd, Nat.reduceSub, Nat.reduceLeDiff, Nat.reduceLT, Int.reduceEq, Int.reduceLT, Int.reduceLE, Int.reduceNeg, Int.reduceAdd, Int.reduceSub, Int.reduceToNat, ↓reduceIte, one_ne_zero_, zero_ne_one_, px_in32L, cd_123, hel, heg]
    repeat' (first | (with_reducible apply And.intro) | (with_reducible refine px_br_intro (fun _ => ?_) (fun _ => ?_)))
    all_goals (try (first | (unfold px_in32; omega) | omega))
    refine sp_areWhole hls.1 hel.2.2.2.1 (by rw [hel.2.2.2.2.1]; exact hls.2.1) (by rw [hel.2.2.2.2.1]; decide) (fun j j0 j1 => (hls.2.2 j j0 j1).2.2) (fun z => ?_) (fun z => ?_)
    · simp only [px_go, px_Q0_at, px_sx_0, px_sx_s, px_cl, px_step, ↓px_ll, px_lg, f4_, ↓px_r1, ↓px_r2, ↓px_r4, ↓px_r5, ↓px_p1, ↓px_p2, ↓px_p3, ↓px_pop, px_k_0, px_k_s, px_k3_0, px_stk_, px_cats, px_ent, px_st1, px_st2, px_mask, ↓px_tsw, ↓px_lsw, ct_, mls_0, mls_1, mls_2, mls_3, mls_4, mls_5, kd_0, kd_1, kd_2, kd_3, ln_0, ln_1, ln_2, ln_3, gf_0, gf_1, gf_2, gf_3, gf_4, gf_7, gf_21, gf_63, dy_0, dy_1, dy_2, dy_3, dy_7, dy_21, px_brT, px_brF, true_and, and_true, and_false, false_and, and_self, true_implies, false_implies, or_true, true_or, or_false, false_or, eq_self, ne_eq, not_false_eq_true, not_true_eq_false, if_true, if_false, List.mem_cons, List.not_mem_nil, List.length_cons, List.length_nil, Nat.reduceEqDiff, Nat.reduceAdd, Nat.reduceSub, Nat.reduceLeDiff, Nat.reduceLT, Int.reduceEq, Int.reduceLT, Int.reduceLE, Int.reduceNeg, Int.reduceAdd, Int.reduceSub, Int.reduceToNat, ↓reduceIte, one_ne_zero_, zero_ne_one_, px_in32L, cd_123, hel, heg]
      repeat' (first | (with_reducible apply And.intro) | (with_reducible refine px_br_intro (fun _ => ?_) (fun _ => ?_)))
      all_goals (try (first | (unfold px_in32; omega) | omega))
      refine sp_fillFrom (g := fun j => (pl s j, rdC M (M (e + 2) j))) hst ⟨by omega, hel.2.1, by rw [hel.2.2.1]; exact hls.2.1⟩ ⟨by omega, hel.2.2.2.1, by rw [hel.2.2.2.2.1]; exact hls.2.1⟩ ⟨hls.1, hls.2.1⟩ (fun j j0 j1 => ?_) (fun M1 q1 q2 => ?_)
      · have hj := hls.2.2 j j0 j1
        have hr := rdC_rng hci hj.2.2.1 hj.2.2.2 (hei.2.2.1 j j0 j1).1 (z j j0 j1)
        exact ⟨hj.1, hj.2.1, hj.2.2, hr.2.1.symm, by have := hr.2.1; have := hr.2.2.1; show (rdC M (M (e + 2) j)).length ≤ 40; omega, hr.2.2.2.1, hr.1⟩
      · have g4 : ∀ j, j ≠ 4 → j ≠ 5 → px_up (px_up M1 4 4 num) 4 5 (-2) 4 j = M1 4 j := fun j j4 j5 => by rw [px_up_at, if_neg (fun w => j5 w.2), px_up_at, if_neg (fun w => j4 w.2)]
        have gb : ∀ b, b ≠ 4 → px_up (px_up M1 4 4 num) 4 5 (-2) b = M1 b := fun b b0 => by rw [row_ne b0, row_ne b0]
        have hst2 : stC (px_up (px_up M1 4 4 num) 4 5 (-2)) (M e 2) (fun j => (pl s j, rdC M (M (e + 2) j))) := by
          obtain ⟨a1, a2, a3, a4, a5⟩ := q1
          have e7 := gb 7 (by decide)
          refine ⟨by rw [g4 3 (by decide) (by decide)]; exact a1, a2, a3, by unfold rwC at a4 ⊢; rw [e7]; exact a4, fun i i0 i1 => ?_⟩
          have := a4.1 i i0 (by omega)
          exact fC_frame (a5 i i0 i1) (by rw [gb 5 (by decide)]) (by rw [gb 6 (by decide)]) e7 (gb _ (by omega))
        have e43 := hst2.1
        simp only [px_go, px_Q0_at, px_sx_0, px_sx_s, px_cl, px_step, ↓px_ll, px_lg, f4_, ↓px_r1, ↓px_r2, ↓px_r4, ↓px_r5, ↓px_p1, ↓px_p2, ↓px_p3, ↓px_pop, px_k_0, px_k_s, px_k3_0, px_stk_, px_cats, px_ent, px_st1, px_st2, px_mask, ↓px_tsw, ↓px_lsw, ct_, mls_0, mls_1, mls_2, mls_3, mls_4, mls_5, kd_0, kd_1, kd_2, kd_3, ln_0, ln_1, ln_2, ln_3, gf_0, gf_1, gf_2, gf_3, gf_4, gf_7, gf_21, gf_63, dy_0, dy_1, dy_2, dy_3, dy_7, dy_21, px_brT, px_brF, true_and, and_true, and_false, false_and, and_self, true_implies, false_implies, or_true, true_or, or_false, false_or, eq_self, ne_eq, not_false_eq_true, not_true_eq_false, if_true, if_false, List.mem_cons, List.not_mem_nil, List.length_cons, List.length_nil, Nat.reduceEqDiff, Nat.reduceAdd, Nat.reduceSub, Nat.reduceLeDiff, Nat.reduceLT, Int.reduceEq, Int.reduceLT, Int.reduceLE, Int.reduceNeg, Int.reduceAdd, Int.reduceSub, Int.reduceToNat, ↓reduceIte, one_ne_zero_, zero_ne_one_, px_in32L, cd_123, hel, heg, e43]
        exact h1 _ z hst2 (by rw [px_up_at, if_neg (by decide), px_up_at, if_pos ⟨rfl, rfl⟩]) (by rw [px_up_at, if_pos ⟨rfl, rfl⟩]) (fun j j3 j4 j5 => by rw [g4 j j4 j5]; exact q2.1 j j3) (fun b b0 b1 b2 b3 b4 => by rw [gb b b0]; exact q2.2 b b0 b1 b2 b3 b4)
    · simp only [px_go, px_Q0_at, px_sx_0, px_sx_s, px_cl, px_step, ↓px_ll, px_lg, f4_, ↓px_r1, ↓px_r2, ↓px_r4, ↓px_r5, ↓px_p1, ↓px_p2, ↓px_p3, ↓px_pop, px_k_0, px_k_s, px_k3_0, px_stk_, px_cats, px_ent, px_st1, px_st2, px_mask, ↓px_tsw, ↓px_lsw, ct_, mls_0, mls_1, mls_2, mls_3, mls_4, mls_5, kd_0, kd_1, kd_2, kd_3, ln_0, ln_1, ln_2, ln_3, gf_0, gf_1, gf_2, gf_3, gf_4, gf_7, gf_21, gf_63, dy_0, dy_1, dy_2, dy_3, dy_7, dy_21, px_brT, px_brF, true_and, and_true, and_false, false_and, and_self, true_implies, false_implies, or_true, true_or, or_false, false_or, eq_self, ne_eq, not_false_eq_true, not_true_eq_false, if_true, if_false, List.mem_cons, List.not_mem_nil, List.length_cons, List.length_nil, Nat.reduceEqDiff, Nat.reduceAdd, Nat.reduceSub, Nat.reduceLeDiff, Nat.reduceLT, Int.reduceEq, Int.reduceLT, Int.reduceLE, Int.reduceNeg, Int.reduceAdd, Int.reduceSub, Int.reduceToNat, ↓reduceIte, one_ne_zero_, zero_ne_one_, px_in32L, cd_123, hel, heg]
      exact h3 z
def gJ (M : px_mem) (J : List (List Int × Int)) (i : Int) : fe := match J[i.toNat]? with
  | some x => (x.1, rdC M x.2)
  | none => ([], [])
theorem gJ_at {M : px_mem} {J : List (List Int × Int)} {i : Int} {x : List Int × Int} (h : J[i.toNat]? = some x) : gJ M J i = (x.1, rdC M x.2) := by unfold gJ; rw [h]
/-- the cells and lists that a join takes -/
def eoF (M : px_mem) (so : Int) : Int := if so < 0 then 118 else M 21 so
def poF (pl : Int → Int → List Int) (so : Int) : Int → List Int := if so < 0 then fun _ => [] else pl so
theorem eo_t3 {M : px_mem} {pl : Int → Int → List Int} {nm : Int → List Int} (hed : edA M pl nm) (hno : M 118 2 = 0) {so sa sb : Int} (ho : so < M 20 1) (ha : 0 ≤ sa ∧ sa < M 20 1) (hb : 0 ≤ sb ∧ sb < M 20 1) : t3 M (eoF M so) (M 21 sa) (M 21 sb) (poF pl so) (pl sa) (pl sb) ∧ (∀ p, uL M (eoF M so) (M 21 sa) (M 21 sb) (poF pl so) (pl sa) (pl sb) p → isP p) ∧ (∀ p, cAt M (eoF M so) (poF pl so) p = -2 ∨ 0 ≤ M 62 (cAt M (eoF M so) (poF pl so) p)) := by
  have hw := hed.1
  have hE := fun i i0 i1 => (hw.1 i i0 i1).1
  have hn := hw.2.2
  have hea := hed.2 sa ha.1 ha.2
  have heb := hed.2 sb hb.1 hb.2
  have hcu : ∀ i, 0 ≤ i → i < M 20 1 → ∀ p, cAt M (M 21 i) (pl i) p = -2 ∨ 0 ≤ M 62 (cAt M (M 21 i) (pl i) p) := fun i i0 i1 p => by
    have hei := hed.2 i i0 i1
    unfold cAt
    rcases idx_spec (M (M 21 i) 2) (fun j => pl i j = p) with h | h
    · rw [if_pos (by omega)]; exact Or.inl rfl
    · rw [if_neg (by omega)]; exact Or.inr (hei.2.2.1 _ h.1 h.2.1).1
  by_cases q : so < 0
  · have e1 : eoF M so = 118 := by unfold eoF; rw [if_pos q]
    have e2 : poF pl so = fun _ => [] := by unfold poF; rw [if_pos q]
    rw [e1, e2]
    refine ⟨⟨⟨Or.inr (Or.inr (Or.inr (Or.inr (Or.inr (Or.inr (Or.inr (Or.inr (Or.inr (Or.inr rfl))))))))), hE sa ha.1 (by omega), hE sb hb.1 (by omega)⟩, ⟨⟨by omega, by omega, fun j j0 j1 => by omega⟩, hea.1, heb.1⟩, ⟨fun i j i0 i1 j1 => by omega, hea.2.1, heb.2.1⟩⟩, fun p hp => ?_, fun p => ?_⟩
    · rcases hp with ⟨j, j0, j1, _⟩ | ⟨j, j0, j1, j2⟩ | ⟨j, j0, j1, j2⟩
      · omega
      · rw [← j2]; exact (hea.2.2.1 j j0 j1).2
      · rw [← j2]; exact (heb.2.2.1 j j0 j1).2
    · left
      unfold cAt
      rw [idx_miss (fun j j0 j1 => by omega), if_pos (by decide)]
  · have e1 : eoF M so = M 21 so := by unfold eoF; rw [if_neg q]
    have e2 : poF pl so = pl so := by unfold poF; rw [if_neg q]
    rw [e1, e2]
    have heo := hed.2 so (by omega) ho
    refine ⟨⟨⟨hE so (by omega) (by omega), hE sa ha.1 (by omega), hE sb hb.1 (by omega)⟩, ⟨heo.1, hea.1, heb.1⟩, ⟨heo.2.1, hea.2.1, heb.2.1⟩⟩, fun p hp => ?_, fun p => hcu so (by omega) ho p⟩
    rcases hp with ⟨j, j0, j1, j2⟩ | ⟨j, j0, j1, j2⟩ | ⟨j, j0, j1, j2⟩
    · rw [← j2]; exact (heo.2.2.1 j j0 j1).2
    · rw [← j2]; exact (hea.2.2.1 j j0 j1).2
    · rw [← j2]; exact (heb.2.2.1 j j0 j1).2
theorem cAt_used {M : px_mem} {pl : Int → Int → List Int} {nm : Int → List Int} (hed : edA M pl nm) {i : Int} (i0 : 0 ≤ i) (i1 : i < M 20 1) (p : List Int) : cAt M (M 21 i) (pl i) p = -2 ∨ (0 ≤ cAt M (M 21 i) (pl i) p ∧ cAt M (M 21 i) (pl i) p < 40 ∧ 0 ≤ M 62 (cAt M (M 21 i) (pl i) p)) := by
  have hei := hed.2 i i0 i1
  unfold cAt
  rcases idx_spec (M (M 21 i) 2) (fun j => pl i j = p) with h | h
  · rw [if_pos (by omega)]; exact Or.inl rfl
  · rw [if_neg (by omega)]; exact Or.inr ⟨(hei.1.2.2 _ h.1 h.2.1).2.2.1, (hei.1.2.2 _ h.1 h.2.1).2.2.2, (hei.2.2.1 _ h.1 h.2.1).1⟩
/-- what a join comes to -/
noncomputable def jnF (M : px_mem) (pl : Int → Int → List Int) (so sa sb : Int) (U : List (List Int)) : jT := jfo (cAt M (eoF M so) (poF pl so)) (cAt M (M 21 sa) (pl sa)) (cAt M (M 21 sb) (pl sb)) U
def jnU (M : px_mem) (pl : Int → Int → List Int) (so sa sb : Int) (U : List (List Int)) : Prop := isU (uL M (eoF M so) (M 21 sa) (M 21 sb) (poF pl so) (pl sa) (pl sb)) U
theorem jn_ok {M : px_mem} {pl : Int → Int → List Int} {nm : Int → List Int} (hed : edA M pl nm) (hno : M 118 2 = 0) {so sa sb : Int} {U : List (List Int)} (ho : so < M 20 1) (ha : 0 ≤ sa ∧ sa < M 20 1) (hb : 0 ≤ sb ∧ sb < M 20 1) (hU : jnU M pl so sa sb U) : ∀ q ∈ (jnF M pl so sa sb U).1, isP q.1 ∧ okp q.1 ∧ 0 ≤ q.2 ∧ q.2 < 40 ∧ 0 ≤ M 62 q.2 := by
  intro q hq
  have ht := eo_t3 hed hno ho ha hb
  have hr := (jfo_rng (cAt M (eoF M so) (poF pl so)) (cAt M (M 21 sa) (pl sa)) (cAt M (M 21 sb) (pl sb)) U).2.2.2 q hq
  have hm := (hU.2 q.1).mp hr.1
  have hx := cAt_used hed ha.1 ha.2 q.1
  have hy := cAt_used hed hb.1 hb.2 q.1
  refine ⟨ht.2.1 q.1 hm, uL_ok ht.1 hm, hr.2.2, ?_⟩
  have h0 := hr.2.2
  rcases isV_or (cAt M (eoF M so) (poF pl so) q.1) (cAt M (M 21 sa) (pl sa) q.1) (cAt M (M 21 sb) (pl sb) q.1) with e | e
  · have h2 := hr.2.1.trans e
    rw [h2] at h0 ⊢; omega
  · have h2 := hr.2.1.trans e
    rw [h2] at h0 ⊢; omega
set_option maxHeartbeats 600000 in
set_option maxRecDepth 100000 in
theorem sp_join {a b N0 : Int} {pl : Int → Int → List Int} {nm : Int → List Int} {g0 : Int → fe} (hed : edA M pl nm) (hnum : numI M) (hno : M 118 2 = 0) (hci : ci M) (hst : stC M N0 g0) (h2 : (slot M a < 0 ∨ slot M b < 0) → Q (some (0, -2)) M) (h3 : ∀ M' so sa sb U, slot M a = sa → slot M b = sb → 0 ≤ sa → 0 ≤ sb → comS M a b so → so < M 20 1 → jnU M pl so sa sb U → ¬ (∀ q ∈ (jnF M pl so sa sb U).1, M 105 q.2 ≠ 0) → (∀ b, b ≠ 115 → b ≠ 116 → b ≠ 117 → M' b = M b) → Q (some (0, -3)) M') (h4 : ∀ M' so sa sb U, slot M a = sa → slot M b = sb → 0 ≤ sa → 0 ≤ sb → comS M a b so → so < M 20 1 → jnU M pl so sa sb U → (∀ q ∈ (jnF M pl so sa sb U).1, M 105 q.2 ≠ 0) → 12 < (jnF M pl so sa sb U).1.length → (∀ b, b ≠ 115 → b ≠ 116 → b ≠ 117 → M' b = M b) → Q (some (0, -4)) M') (h1 : ∀ M' so sa sb U, slot M a = sa → slot M b = sb → 0 ≤ sa → 0 ≤ sb → comS M a b so → so < M 20 1 → jnU M pl so sa sb U → (∀ q ∈ (jnF M pl so sa sb U).1, M 105 q.2 ≠ 0) → (jnF M pl so sa sb U).1.length ≤ 12 → stC M' ((jnF M pl so sa sb U).1.length : Int) (gJ M (jnF M pl so sa sb U).1) → M' 4 4 = a → M' 4 5 = b → M' 1 10 = (jnF M pl so sa sb U).2 → (∀ j, j ≠ 3 → j ≠ 4 → j ≠ 5 → M' 4 j = M 4 j) → (∀ j, j ≠ 10 → M' 1 j = M 1 j) → (∀ b, b ≠ 1 → b ≠ 4 → b ≠ 5 → b ≠ 6 → b ≠ 7 → ¬ (8 ≤ b ∧ b < 20) → ¬ (115 ≤ b ∧ b ≤ 117) → M' b = M b) → Q (some (0, (jnF M pl so sa sb U).2)) M') : px_Ok 124 [(2, 1), (0, a), (0, b)] LAY M Q := by
  refine px_ok_go (inl := []) (ls0 := [(2, 1), (0, a), (0, b), (9, 0), (9, 0)]) 120 (by decide) (Nat.le_of_ble_eq_true rfl) rfl ?_
  simp only [px_go, px_Q0_at, px_sx_0, px_sx_s, px_cl, px_step, ↓px_ll, px_lg, f4_, ↓px_r1, ↓px_r2, ↓px_r4, ↓px_r5, ↓px_p1, ↓px_p2, ↓px_p3, ↓px_pop, px_k_0, px_k_s, px_k3_0, px_stk_, px_cats, px_ent, px_st1, px_st2, px_mask, ↓px_tsw, ↓px_lsw, ct_, mls_0, mls_1, mls_2, mls_3, mls_4, mls_5, kd_0, kd_1, kd_2, kd_3, ln_0, ln_1, ln_2, ln_3, gf_0, gf_1, gf_2, gf_3, gf_4, gf_7, gf_21, gf_63, dy_0, dy_1, dy_2, dy_3, dy_7, dy_21, px_brT, px_brF, true_and, and_true, and_false, false_and, and_self, true_implies, false_implies, or_true, true_or, or_false, false_or, eq_self, ne_eq, not_false_eq_true, not_true_eq_false, if_true, if_false, List.mem_cons, List.not_mem_nil, List.length_cons, List.length_nil, Nat.reduceEqDiff, Nat.reduceAdd, Nat.reduceSub, Nat.reduceLeDiff, Nat.reduceLT, Int.reduceEq, Int.reduceLT, Int.reduceLE, Int.reduceNeg, Int.reduceAdd, Int.reduceSub, Int.reduceToNat, ↓reduceIte, one_ne_zero_, zero_ne_one_, px_in32L, cd_124]
  repeat' (first | (with_reducible apply And.intro) | (with_reducible refine px_br_intro (fun _ => ?_) (fun _ => ?_)))
  all_goals (try (first | (unfold px_in32; omega) | omega))
  have hw := hed.1
  have hn := hw.2.2
  have hac := numI_acy hnum
  refine sp_numbered hw ?_
  simp only [px_go, px_Q0_at, px_sx_0, px_sx_s, px_cl, px_step, ↓px_ll, px_lg, f4_, ↓px_r1, ↓px_r2, ↓px_r4, ↓px_r5, ↓px_p1, ↓px_p2, ↓px_p3, ↓px_pop, px_k_0, px_k_s, px_k3_0, px_stk_, px_cats, px_ent, px_st1, px_st2, px_mask, ↓px_tsw, ↓px_lsw, ct_, mls_0, mls_1, mls_2, mls_3, mls_4, mls_5, kd_0, kd_1, kd_2, kd_3, ln_0, ln_1, ln_2, ln_3, gf_0, gf_1, gf_2, gf_3, gf_4, gf_7, gf_21, gf_63, dy_0, dy_1, dy_2, dy_3, dy_7, dy_21, px_brT, px_brF, true_and, and_true, and_false, false_and, and_self, true_implies, false_implies, or_true, true_or, or_false, false_or, eq_self, ne_eq, not_false_eq_true, not_true_eq_false, if_true, if_false, List.mem_cons, List.not_mem_nil, List.length_cons, List.length_nil, Nat.reduceEqDiff, Nat.reduceAdd, Nat.reduceSub, Nat.reduceLeDiff, Nat.reduceLT, Int.reduceEq, Int.reduceLT, Int.reduceLE, Int.reduceNeg, Int.reduceAdd, Int.reduceSub, Int.reduceToNat, ↓reduceIte, one_ne_zero_, zero_ne_one_, px_in32L, cd_124]
  refine sp_numbered hw ?_
  have hsa := slot_rng (M := M) a
  have hsb := slot_rng (M := M) b
  by_cases qa : slot M a < 0
  · have e1 : edR M a = 0 := by unfold edR; rw [if_pos qa]
    rw [e1]
    simp only [px_go, px_Q0_at, px_sx_0, px_sx_s, px_cl, px_step, ↓px_ll, px_lg, f4_, ↓px_r1, ↓px_r2, ↓px_r4, ↓px_r5, ↓px_p1, ↓px_p2, ↓px_p3, ↓px_pop, px_k_0, px_k_s, px_k3_0, px_stk_, px_cats, px_ent, px_st1, px_st2, px_mask, ↓px_tsw, ↓px_lsw, ct_, mls_0, mls_1, mls_2, mls_3, mls_4, mls_5, kd_0, kd_1, kd_2, kd_3, ln_0, ln_1, ln_2, ln_3, gf_0, gf_1, gf_2, gf_3, gf_4, gf_7, gf_21, gf_63, dy_0, dy_1, dy_2, dy_3, dy_7, dy_21, px_brT, px_brF, true_and, and_true, and_false, false_and, and_self, true_implies, false_implies, or_true, true_or, or_false, false_or, eq_self, ne_eq, not_false_eq_true, not_true_eq_false, if_true, if_false, List.mem_cons, List.not_mem_nil, List.length_cons, List.length_nil, Nat.reduceEqDiff, Nat.reduceAdd, Nat.reduceSub, Nat.reduceLeDiff, Nat.reduceLT, Int.reduceEq, Int.reduceLT, Int.reduceLE, Int.reduceNeg, Int.reduceAdd, Int.reduceSub, Int.reduceToNat, ↓reduceIte, one_ne_zero_, zero_ne_one_, px_in32L, cd_124]
    exact h2 (Or.inl qa)
  · have e1 : edR M a = M 21 (slot M a) := by unfold edR; rw [if_neg qa]
    have hEa := hw.1 (slot M a) (by omega) (by omega)
    have hema := isE_m hEa.1
    rw [e1]
    by_cases qb : slot M b < 0
    · have e2 : edR M b = 0 := by unfold edR; rw [if_pos qb]
      rw [e2]
      simp only [px_go, px_Q0_at, px_sx_0, px_sx_s, px_cl, px_step, ↓px_ll, px_lg, f4_, ↓px_r1, ↓px_r2, ↓px_r4, ↓px_r5, ↓px_p1, ↓px_p2, ↓px_p3, ↓px_pop, px_k_0, px_k_s, px_k3_0, px_stk_, px_cats, px_ent, px_st1, px_st2, px_mask, ↓px_tsw, ↓px_lsw, ct_, mls_0, mls_1, mls_2, mls_3, mls_4, mls_5, kd_0, kd_1, kd_2, kd_3, ln_0, ln_1, ln_2, ln_3, gf_0, gf_1, gf_2, gf_3, gf_4, gf_7, gf_21, gf_63, dy_0, dy_1, dy_2, dy_3, dy_7, dy_21, px_brT, px_brF, true_and, and_true, and_false, false_and, and_self, true_implies, false_implies, or_true, true_or, or_false, false_or, eq_self, ne_eq, not_false_eq_true, not_true_eq_false, if_true, if_false, List.mem_cons, List.not_mem_nil, List.length_cons, List.length_nil, Nat.reduceEqDiff, Nat.reduceAdd, Nat.reduceSub, Nat.reduceLeDiff, Nat.reduceLT, Int.reduceEq, Int.reduceLT, Int.reduceLE, Int.reduceNeg, Int.reduceAdd, Int.reduceSub, Int.reduceToNat, ↓reduceIte, one_ne_zero_, zero_ne_one_, px_in32L, cd_124]
      repeat' (first | (with_reducible apply And.intro) | (with_reducible refine px_br_intro (fun _ => ?_) (fun _ => ?_)))
      all_goals (try (first | (unfold px_in32; omega) | omega))
      exact h2 (Or.inr qb)
    · have e2 : edR M b = M 21 (slot M b) := by unfold edR; rw [if_neg qb]
      have hEb := hw.1 (slot M b) (by omega) (by omega)
      have hemb := isE_m hEb.1
      rw [e2]
      generalize hA : slot M a = sa at *
      generalize hB : slot M b = sb at *
      simp only [px_go, px_Q0_at, px_sx_0, px_sx_s, px_cl, px_step, ↓px_ll, px_lg, f4_, ↓px_r1, ↓px_r2, ↓px_r4, ↓px_r5, ↓px_p1, ↓px_p2, ↓px_p3, ↓px_pop, px_k_0, px_k_s, px_k3_0, px_stk_, px_cats, px_ent, px_st1, px_st2, px_mask, ↓px_tsw, ↓px_lsw, ct_, mls_0, mls_1, mls_2, mls_3, mls_4, mls_5, kd_0, kd_1, kd_2, kd_3, ln_0, ln_1, ln_2, ln_3, gf_0, gf_1, gf_2, gf_3, gf_4, gf_7, gf_21, gf_63, dy_0, dy_1, dy_2, dy_3, dy_7, dy_21, px_brT, px_brF, true_and, and_true, and_false, false_and, and_self, true_implies, false_implies, or_true, true_or, or_false, false_or, eq_self, ne_eq, not_false_eq_true, not_true_eq_false, if_true, if_false, List.mem_cons, List.not_mem_nil, List.length_cons, List.length_nil, Nat.reduceEqDiff, Nat.reduceAdd, Nat.reduceSub, Nat.reduceLeDiff, Nat.reduceLT, Int.reduceEq, Int.reduceLT, Int.reduceLE, Int.reduceNeg, Int.reduceAdd, Int.reduceSub, Int.reduceToNat, ↓reduceIte, one_ne_zero_, zero_ne_one_, px_in32L, cd_124]
      repeat' (first | (with_reducible apply And.intro) | (with_reducible refine px_br_intro (fun _ => ?_) (fun _ => ?_)))
      all_goals (try (first | (unfold px_in32; omega) | omega))
      refine sp_commonOf hw hac (fun r hr => ?_)
      obtain ⟨hcs, hrr⟩ := comS_of hnum hr
      simp only [px_go, px_Q0_at, px_sx_0, px_sx_s, px_cl, px_step, ↓px_ll, px_lg, f4_, ↓px_r1, ↓px_r2, ↓px_r4, ↓px_r5, ↓px_p1, ↓px_p2, ↓px_p3, ↓px_pop, px_k_0, px_k_s, px_k3_0, px_stk_, px_cats, px_ent, px_st1, px_st2, px_mask, ↓px_tsw, ↓px_lsw, ct_, mls_0, mls_1, mls_2, mls_3, mls_4, mls_5, kd_0, kd_1, kd_2, kd_3, ln_0, ln_1, ln_2, ln_3, gf_0, gf_1, gf_2, gf_3, gf_4, gf_7, gf_21, gf_63, dy_0, dy_1, dy_2, dy_3, dy_7, dy_21, px_brT, px_brF, true_and, and_true, and_false, false_and, and_self, true_implies, false_implies, or_true, true_or, or_false, false_or, eq_self, ne_eq, not_false_eq_true, not_true_eq_false, if_true, if_false, List.mem_cons, List.not_mem_nil, List.length_cons, List.length_nil, Nat.reduceEqDiff, Nat.reduceAdd, Nat.reduceSub, Nat.reduceLeDiff, Nat.reduceLT, Int.reduceEq, Int.reduceLT, Int.reduceLE, Int.reduceNeg, Int.reduceAdd, Int.reduceSub, Int.reduceToNat, ↓reduceIte, one_ne_zero_, zero_ne_one_, px_in32L, cd_124]
      refine sp_numbered hw ?_
      unfold edR
      generalize hO : slot M r = so at *
      have hso : so < M 20 1 := by omega
      obtain ⟨ht3, hpp, _⟩ := eo_t3 hed hno hso ⟨by omega, by omega⟩ ⟨by omega, by omega⟩ (sa := sa) (sb := sb)
      simp only [px_go, px_Q0_at, px_sx_0, px_sx_s, px_cl, px_step, ↓px_ll, px_lg, f4_, ↓px_r1, ↓px_r2, ↓px_r4, ↓px_r5, ↓px_p1, ↓px_p2, ↓px_p3, ↓px_pop, px_k_0, px_k_s, px_k3_0, px_stk_, px_cats, px_ent, px_st1, px_st2, px_mask, ↓px_tsw, ↓px_lsw, ct_, mls_0, mls_1, mls_2, mls_3, mls_4, mls_5, kd_0, kd_1, kd_2, kd_3, ln_0, ln_1, ln_2, ln_3, gf_0, gf_1, gf_2, gf_3, gf_4, gf_7, gf_21, gf_63, dy_0, dy_1, dy_2, dy_3, dy_7, dy_21, px_brT, px_brF, true_and, and_true, and_false, false_and, and_self, true_implies, false_implies, or_true, true_or, or_false, false_or, eq_self, ne_eq, not_false_eq_true, not_true_eq_false, if_true, if_false, List.mem_cons, List.not_mem_nil, List.length_cons, List.length_nil, Nat.reduceEqDiff, Nat.reduceAdd, Nat.reduceSub, Nat.reduceLeDiff, Nat.reduceLT, Int.reduceEq, Int.reduceLT, Int.reduceLE, Int.reduceNeg, Int.reduceAdd, Int.reduceSub, Int.reduceToNat, ↓reduceIte, one_ne_zero_, zero_ne_one_, px_in32L, cd_124]
      refine sp_unite ht3 ?_ (fun p hp => isP_ne (hpp p hp)) (fun M1 U u1 u2 u3 u4 u5 => ?_)
      · unfold eoF
        by_cases q : so < 0
        · rw [if_pos q, if_pos q]; exact Or.inl ⟨rfl, rfl⟩
        · rw [if_neg q, if_neg q]
          have := isE_m (hw.1 so (by omega) (by omega)).1
          exact Or.inr ⟨rfl, by omega⟩
      · have hjn := jn_ok hed hno hso ⟨by omega, by omega⟩ ⟨by omega, by omega⟩ (sa := sa) (sb := sb) u1
        have h3 := h3 M1 so sa sb U rfl rfl (by omega) (by omega) hcs hso u1
        have h4 := h4 M1 so sa sb U rfl rfl (by omega) (by omega) hcs hso u1
        have h1 := fun M' => h1 M' so sa sb U rfl rfl (by omega) (by omega) hcs hso u1
        have hlr := jfo_rng (cAt M (eoF M so) (poF pl so)) (cAt M (M 21 sa) (pl sa)) (cAt M (M 21 sb) (pl sb)) U
        change jC M1 (jnF M pl so sa sb U).1 at u2
        change M1 115 3 = (jnF M pl so sa sb U).2 at u3
        have f105 := u4 105 (by decide) (by decide) (by decide)
        have hat : ∀ j, 0 ≤ j → j < ((jnF M pl so sa sb U).1.length : Int) → ∃ x, (jnF M pl so sa sb U).1[j.toNat]? = some x ∧ x ∈ (jnF M pl so sa sb U).1 ∧ M1 116 j = enc x.1 ∧ M1 117 j = x.2 := fun j j0 j1 => by
          have hg : (jnF M pl so sa sb U).1[j.toNat]? = some ((jnF M pl so sa sb U).1[j.toNat]'(by omega)) := List.getElem?_eq_getElem (by omega)
          have := u2.2 j.toNat _ hg
          rw [Int.toNat_of_nonneg j0] at this
          exact ⟨_, hg, List.getElem_mem _, this.2.1, this.2.2⟩
        have hwh : (∀ j, 0 ≤ j → j < ((jnF M pl so sa sb U).1.length : Int) → M1 105 (M1 117 j) ≠ 0) ↔ (∀ q ∈ (jnF M pl so sa sb U).1, M 105 q.2 ≠ 0) := by
          rw [f105]
          constructor
          · intro z q hq
            obtain ⟨i, hi⟩ := List.getElem?_of_mem hq
            have hlt := (List.getElem?_eq_some_iff.mp hi).1
            have := z (i : Int) (by omega) (by omega)
            rw [(u2.2 i q hi).2.2] at this
            exact this
          · intro z j j0 j1
            obtain ⟨x, x1, x2, x3, x4⟩ := hat j j0 j1
            rw [x4]; exact z x x2
        have hM115 := u2.1
        have hJl : (jnF M pl so sa sb U).1.length ≤ 36 := by
          have : (jnF M pl so sa sb U).1.length ≤ U.length := hlr.1
          omega
        simp only [px_go, px_Q0_at, px_sx_0, px_sx_s, px_cl, px_step, ↓px_ll, px_lg, f4_, ↓px_r1, ↓px_r2, ↓px_r4, ↓px_r5, ↓px_p1, ↓px_p2, ↓px_p3, ↓px_pop, px_k_0, px_k_s, px_k3_0, px_stk_, px_cats, px_ent, px_st1, px_st2, px_mask, ↓px_tsw, ↓px_lsw, ct_, mls_0, mls_1, mls_2, mls_3, mls_4, mls_5, kd_0, kd_1, kd_2, kd_3, ln_0, ln_1, ln_2, ln_3, gf_0, gf_1, gf_2, gf_3, gf_4, gf_7, gf_21, gf_63, dy_0, dy_1, dy_2, dy_3, dy_7, dy_21, px_brT, px_brF, true_and, and_true, and_false, false_and, and_self, true_implies, false_implies, or_true, true_or, or_false, false_or, eq_self, ne_eq, not_false_eq_true, not_true_eq_false, if_true, if_false, List.mem_cons, List.not_mem_nil, List.length_cons, List.length_nil, Nat.reduceEqDiff, Nat.reduceAdd, Nat.reduceSub, Nat.reduceLeDiff, Nat.reduceLT, Int.reduceEq, Int.reduceLT, Int.reduceLE, Int.reduceNeg, Int.reduceAdd, Int.reduceSub, Int.reduceToNat, ↓reduceIte, one_ne_zero_, zero_ne_one_, px_in32L, cd_124, hM115]
        refine sp_areWhole (by omega) rfl (by rw [show px_ln LAY 117 = 36 from rfl]; omega) (by decide) (fun j j0 j1 => ?_) (fun z => ?_) (fun z => ?_)
        · obtain ⟨x, x1, x2, x3, x4⟩ := hat j j0 j1
          rw [x4]
          have := hjn x x2
          omega
        · have hst1 : stC M1 N0 g0 := stF_frame hst (fun b b0 b1 => u4 b (by omega) (by omega) (by omega))
          have hz := hwh.mp z
          simp only [px_go, px_Q0_at, px_sx_0, px_sx_s, px_cl, px_step, ↓px_ll, px_lg, f4_, ↓px_r1, ↓px_r2, ↓px_r4, ↓px_r5, ↓px_p1, ↓px_p2, ↓px_p3, ↓px_pop, px_k_0, px_k_s, px_k3_0, px_stk_, px_cats, px_ent, px_st1, px_st2, px_mask, ↓px_tsw, ↓px_lsw, ct_, mls_0, mls_1, mls_2, mls_3, mls_4, mls_5, kd_0, kd_1, kd_2, kd_3, ln_0, ln_1, ln_2, ln_3, gf_0, gf_1, gf_2, gf_3, gf_4, gf_7, gf_21, gf_63, dy_0, dy_1, dy_2, dy_3, dy_7, dy_21, px_brT, px_brF, true_and, and_true, and_false, false_and, and_self, true_implies, false_implies, or_true, true_or, or_false, false_or, eq_self, ne_eq, not_false_eq_true, not_true_eq_false, if_true, if_false, List.mem_cons, List.not_mem_nil, List.length_cons, List.length_nil, Nat.reduceEqDiff, Nat.reduceAdd, Nat.reduceSub, Nat.reduceLeDiff, Nat.reduceLT, Int.reduceEq, Int.reduceLT, Int.reduceLE, Int.reduceNeg, Int.reduceAdd, Int.reduceSub, Int.reduceToNat, ↓reduceIte, one_ne_zero_, zero_ne_one_, px_in32L, cd_124, hM115]
          repeat' (first | (with_reducible apply And.intro) | (with_reducible refine px_br_intro (fun _ => ?_) (fun _ => ?_)))
          all_goals (try (first | (unfold px_in32; omega) | omega))
          · rename_i c3
            refine sp_fillFrom (g := gJ M (jnF M pl so sa sb U).1) hst1 ⟨by decide, rfl, by rw [show px_ln LAY 116 = 36 from rfl]; omega⟩ ⟨by decide, rfl, by rw [show px_ln LAY 117 = 36 from rfl]; omega⟩ ⟨by omega, by omega⟩ (fun j j0 j1 => ?_) (fun M2 q1 q2 => ?_)
            · obtain ⟨x, x1, x2, x3, x4⟩ := hat j j0 j1
              have hx := hjn x x2
              have hr := rdC_rng hci hx.2.2.1 hx.2.2.2.1 hx.2.2.2.2 (hz x x2)
              rw [gJ_at x1, x3, x4, u4 57 (by decide) (by decide) (by decide), u4 (64 + x.2) (by omega) (by omega) (by omega)]
              exact ⟨hx.2.1, rfl, ⟨hx.2.2.1, hx.2.2.2.1⟩, hr.2.1.symm, by have := hr.2.1; have := hr.2.2.1; show (rdC M x.2).length ≤ 40; omega, hr.2.2.2.1, hr.1⟩
            · have g115 : M2 115 3 = (jnF M pl so sa sb U).2 := by rw [q2.2 115 (by decide) (by decide) (by decide) (by decide) (by decide)]; exact u3
              simp only [px_go, px_Q0_at, px_sx_0, px_sx_s, px_cl, px_step, ↓px_ll, px_lg, f4_, ↓px_r1, ↓px_r2, ↓px_r4, ↓px_r5, ↓px_p1, ↓px_p2, ↓px_p3, ↓px_pop, px_k_0, px_k_s, px_k3_0, px_stk_, px_cats, px_ent, px_st1, px_st2, px_mask, ↓px_tsw, ↓px_lsw, ct_, mls_0, mls_1, mls_2, mls_3, mls_4, mls_5, kd_0, kd_1, kd_2, kd_3, ln_0, ln_1, ln_2, ln_3, gf_0, gf_1, gf_2, gf_3, gf_4, gf_7, gf_21, gf_63, dy_0, dy_1, dy_2, dy_3, dy_7, dy_21, px_brT, px_brF, true_and, and_true, and_false, false_and, and_self, true_implies, false_implies, or_true, true_or, or_false, false_or, eq_self, ne_eq, not_false_eq_true, not_true_eq_false, if_true, if_false, List.mem_cons, List.not_mem_nil, List.length_cons, List.length_nil, Nat.reduceEqDiff, Nat.reduceAdd, Nat.reduceSub, Nat.reduceLeDiff, Nat.reduceLT, Int.reduceEq, Int.reduceLT, Int.reduceLE, Int.reduceNeg, Int.reduceAdd, Int.reduceSub, Int.reduceToNat, ↓reduceIte, one_ne_zero_, zero_ne_one_, px_in32L, cd_124, hM115, px_up_at, g115]
              have gb : ∀ b', b' ≠ 1 → b' ≠ 4 → px_up (px_up (px_up M2 4 4 a) 4 5 b) 1 10 (jnF M pl so sa sb U).2 b' = M2 b' := fun b' b0 b1 => by rw [row_ne b0, row_ne b1, row_ne b1]
              have g4 : ∀ j, j ≠ 4 → j ≠ 5 → px_up (px_up (px_up M2 4 4 a) 4 5 b) 1 10 (jnF M pl so sa sb U).2 4 j = M2 4 j := fun j j4 j5 => by rw [row_ne (by decide), px_up_at, if_neg (fun w => j5 w.2), px_up_at, if_neg (fun w => j4 w.2)]
              refine h1 _ hz (by omega) ?_ (by rw [row_ne (by decide), px_up_at, if_neg (by decide), px_up_at, if_pos ⟨rfl, rfl⟩]) (by rw [row_ne (by decide), px_up_at, if_pos ⟨rfl, rfl⟩]) (by rw [px_up_at, if_pos ⟨rfl, rfl⟩]) (fun j j3 j4 j5 => by rw [g4 j j4 j5, q2.1 j j3, u4 4 (by decide) (by decide) (by decide)]) (fun j j0 => by rw [px_up_at, if_neg (fun w => j0 w.2), row_ne (by decide), row_ne (by decide), q2.2 1 (by decide) (by decide) (by decide) (by decide) (by decide), u4 1 (by decide) (by decide) (by decide)]) (fun b' b0 b1 b2 b3 b4 b5 b6 => by rw [gb b' b0 b1, q2.2 b' b1 b2 b3 b4 b5, u4 b' (by omega) (by omega) (by omega)])
              obtain ⟨a1, a2, a3, a4, a5⟩ := q1
              have e7 := gb 7 (by decide) (by decide)
              refine ⟨by rw [g4 3 (by decide) (by decide)]; exact a1, a2, a3, by unfold rwC at a4 ⊢; rw [e7]; exact a4, fun i i0 i1 => ?_⟩
              have := a4.1 i i0 (by omega)
              exact fC_frame (a5 i i0 i1) (by rw [gb 5 (by decide) (by decide)]) (by rw [gb 6 (by decide) (by decide)]) e7 (gb _ (by omega) (by omega))
          · rename_i c3
            exact h4 hz (by omega) u4
        · simp only [px_go, px_Q0_at, px_sx_0, px_sx_s, px_cl, px_step, ↓px_ll, px_lg, f4_, ↓px_r1, ↓px_r2, ↓px_r4, ↓px_r5, ↓px_p1, ↓px_p2, ↓px_p3, ↓px_pop, px_k_0, px_k_s, px_k3_0, px_stk_, px_cats, px_ent, px_st1, px_st2, px_mask, ↓px_tsw, ↓px_lsw, ct_, mls_0, mls_1, mls_2, mls_3, mls_4, mls_5, kd_0, kd_1, kd_2, kd_3, ln_0, ln_1, ln_2, ln_3, gf_0, gf_1, gf_2, gf_3, gf_4, gf_7, gf_21, gf_63, dy_0, dy_1, dy_2, dy_3, dy_7, dy_21, px_brT, px_brF, true_and, and_true, and_false, false_and, and_self, true_implies, false_implies, or_true, true_or, or_false, false_or, eq_self, ne_eq, not_false_eq_true, not_true_eq_false, if_true, if_false, List.mem_cons, List.not_mem_nil, List.length_cons, List.length_nil, Nat.reduceEqDiff, Nat.reduceAdd, Nat.reduceSub, Nat.reduceLeDiff, Nat.reduceLT, Int.reduceEq, Int.reduceLT, Int.reduceLE, Int.reduceNeg, Int.reduceAdd, Int.reduceSub, Int.reduceToNat, ↓reduceIte, one_ne_zero_, zero_ne_one_, px_in32L, cd_124, hM115]
          exact h3 (fun w => z (hwh.mpr w)) u4
end PS
