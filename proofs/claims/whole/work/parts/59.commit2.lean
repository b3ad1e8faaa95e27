set_option maxRecDepth 100000 in
/-- X11_commit -/
theorem cd_120 : px_at 120 0 = some (1, [], .aload_n 0, []) ∧ px_at 120 1 = some (4, [], .invokevirtual 135, [121, 0, 10, 60]) ∧ px_at 120 4 = some (7, [], .ifCond .eq 6, [10]) ∧ px_at 120 7 = some (9, [], .bipush (-2), []) ∧ px_at 120 9 = some (10, [], .ireturn, [0]) ∧ px_at 120 10 = some (11, [], .aload_n 0, []) ∧ px_at 120 11 = some (14, [], .getfield 26, [10, 2, 2, 1, 116]) ∧ px_at 120 14 = some (17, [], .getfield 139, [3, 1, 0, 0, 50]) ∧ px_at 120 17 = some (19, [], .bipush 10, []) ∧ px_at 120 19 = some (22, [], .if_icmp .ge 15, [34]) ∧ px_at 120 22 = some (23, [], .aload_n 0, []) ∧ px_at 120 23 = some (26, [], .getfield 26, [10, 2, 2, 1, 116]) ∧ px_at 120 26 = some (29, [], .getfield 140, [3, 2, 0, 0, 52]) ∧ px_at 120 29 = some (31, [], .bipush 100, []) ∧ px_at 120 31 = some (34, [], .if_icmp .lt 6, [37]) ∧ px_at 120 34 = some (36, [], .bipush (-3), []) ∧ px_at 120 36 = some (37, [], .ireturn, [0]) ∧ px_at 120 37 = some (38, [], .aload_n 0, []) ∧ px_at 120 38 = some (41, [], .getfield 42, [10, 4, 2, 1, 118]) ∧ px_at 120 41 = some (44, [], .invokevirtual 143, [20, 0, 1, 65]) ∧ px_at 120 44 = some (45, [], .aload_n 0, []) ∧ px_at 120 45 = some (48, [], .invokevirtual 146, [122, 0, 10, 68]) ∧ px_at 120 48 = some (51, [], .ifCond .ne 13, [61]) ∧ px_at 120 51 = some (52, [], .aload_n 0, []) ∧ px_at 120 52 = some (55, [], .getfield 42, [10, 4, 2, 1, 118]) ∧ px_at 120 55 = some (58, [], .invokevirtual 149, [21, 0, 1, 86]) ∧ px_at 120 58 = some (60, [], .bipush (-4), []) ∧ px_at 120 60 = some (61, [], .ireturn, [0]) ∧ px_at 120 61 = some (62, [], .aload_n 0, []) ∧ px_at 120 62 = some (65, [], .getfield 26, [10, 2, 2, 1, 116]) ∧ px_at 120 65 = some (66, [], .aload_n 0, []) ∧ px_at 120 66 = some (69, [], .getfield 19, [10, 1, 2, 1, 115]) ∧ px_at 120 69 = some (70, [], .aload_n 0, []) ∧ px_at 120 70 = some (73, [], .getfield 71, [10, 9, 2, 1, 123]) ∧ px_at 120 73 = some (76, [], .invokevirtual 152, [49, 2, 3, 89]) ∧ px_at 120 76 = some (77, [], .istore_n 1, []) ∧ px_at 120 77 = some (78, [], .aload_n 0, []) ∧ px_at 120 78 = some (81, [], .getfield 19, [10, 1, 2, 1, 115]) ∧ px_at 120 81 = some (82, [], .iload_n 1, []) ∧ px_at 120 82 = some (85, [], .putfield 156, [7, 4, 0, 0, 16]) ∧ px_at 120 85 = some (86, [], .aload_n 0, []) ∧ px_at 120 86 = some (89, [], .getfield 19, [10, 1, 2, 1, 115]) ∧ px_at 120 89 = some (91, [], .bipush (-2), []) ∧ px_at 120 91 = some (94, [], .putfield 159, [7, 5, 0, 0, 19]) ∧ px_at 120 94 = some (95, [], .iload_n 1, []) ∧ px_at 120 95 = some (96, [], .ireturn, [0]) := ⟨rfl, rfl, rfl, rfl, rfl, rfl, rfl, rfl, rfl, rfl, rfl, rfl, rfl, rfl, rfl, rfl, rfl, rfl, rfl, rfl, rfl, rfl, rfl, rfl, rfl, rfl, rfl, rfl, rfl, rfl, rfl, rfl, rfl, rfl, rfl, rfl, rfl, rfl, rfl, rfl, rfl, rfl, rfl, rfl, rfl, rfl⟩
/-! EditionVault: commit, on -/
/-- an edition in its cell: list, name, seal -/
def edI (M : px_mem) (e : Int) (p : Int → List Int) (nm : List Int) : Prop := lsC M e p ∧ sE M e ∧ (∀ j, 0 ≤ j → j < M e 2 → 0 ≤ M 62 (M (e + 2) j) ∧ isP (p j)) ∧ (∀ i j, 0 ≤ i → i < M e 2 → 0 ≤ j → j < M e 2 → mt (p i) (p j) → i = j) ∧ (M e 6 = 0 ∨ M e 6 = 1) ∧ okp nm ∧ (∀ b ∈ nm, b ≠ 47) ∧ M e 7 = enc nm
def edA (M : px_mem) (pl : Int → Int → List Int) (nm : Int → List Int) : Prop := edW M ∧ ∀ i, 0 ≤ i → i < M 20 1 → edI M (M 21 i) (pl i) (nm i)
/-- numbers rise, and what an edition is of came before -/
def numI (M : px_mem) : Prop := (0 ≤ M 20 2 ∧ M 20 2 ≤ 100) ∧ (∀ i, 0 ≤ i → i < M 20 1 → 0 ≤ M (M 21 i) 3 ∧ M (M 21 i) 3 < M 20 2 ∧ M (M 21 i) 4 < M (M 21 i) 3 ∧ M (M 21 i) 5 < M (M 21 i) 3) ∧ (∀ i j, 0 ≤ i → i < j → j < M 20 1 → M (M 21 i) 3 < M (M 21 j) 3) ∧ M 4 4 < M 20 2 ∧ M 4 5 < M 20 2
theorem numI_acy {M : px_mem} (h : numI M) : acy M := by
  intro i j i0 i1 hp
  have key : ∀ x, x < M (M 21 i) 3 → slot M x = j → j < i := fun x hx e => by
    rcases slot_rng (M := M) x with a | a
    · omega
    · rw [e] at a
      rcases Int.lt_or_le j i with q | q
      · exact q
      · have h3 : M (M 21 i) 3 ≤ M (M 21 j) 3 := by
          by_cases z : i = j
          · rw [z]; exact Int.le_refl _
          · have := h.2.2.1 i j i0 (by omega) a.2.1; omega
        omega
  have := h.2.1 i i0 i1
  rcases hp with q | q
  · exact key _ this.2.2.1 q
  · exact key _ this.2.2.2 q
theorem edA_lsA {M : px_mem} {pl : Int → Int → List Int} {nm : Int → List Int} (h : edA M pl nm) : lsA M := fun i i0 i1 => by
  have := (h.2 i i0 i1).1
  exact ⟨this.1, this.2.1, fun j j0 j1 => (this.2.2 j j0 j1).2.2⟩
/-- contents and row are as they were -/
def csame (M M' : px_mem) : Prop :=
  (∀ c, 0 ≤ c → c < 40 → M' 62 c = M 62 c) ∧
  (∀ c, 0 ≤ c → c < 40 → 0 ≤ M 62 c → (∀ b, 57 ≤ b → b ≤ 61 → M' b c = M b c) ∧ M' (64 + c) = M (64 + c) ∧ M' 104 c = M 104 c ∧ M' 105 c = M 105 c) ∧
  (∀ x, 0 ≤ x → x < 400 → M' 53 x = M 53 x ∧ M' 54 x = M 54 x) ∧
  (∀ b, b ≠ 53 → b ≠ 54 → b ≠ 55 → ¬ (57 ≤ b ∧ b ≤ 62) → ¬ (64 ≤ b ∧ b ≤ 107) → b ≠ 109 → b ≠ 126 → M' b = M b)
/-- the stage is as the list of the edition that it is of -/
def uncS (M : px_mem) (N : Int) (pl : Int → Int → List Int) (g : Int → fe) : Prop := 0 ≤ slot M (M 4 4) ∧ M 4 5 = -2 ∧ asS M (M 21 (slot M (M 4 4))) N (pl (slot M (M 4 4))) g
theorem csame_of {M Mr M1 M2 : px_mem} (hci : ci M) (hr1 : ∀ x, 0 ≤ x → x < 400 → Mr 55 x = M 53 x) (hr2 : ∀ c, 0 ≤ c → c < 40 → Mr 109 c = b1 (0 ≤ M 62 c)) (hr3 : ∀ b, b ≠ 55 → b ≠ 109 → Mr b = M b) (hk : kmon Mr M1) (h1 : ∀ x, M2 53 x = if 0 ≤ x ∧ x < 400 then M1 55 x else M1 53 x) (h2 : gone M1 M2 (fun c => M1 109 c = 0) 40) (h3 : ∀ b, b ≠ 53 → b ≠ 54 → b ≠ 62 → M2 b = M1 b) : csame M M2 := by
  obtain ⟨k1, k2, k3, k4⟩ := hk
  have e62 := hr3 62 (by decide) (by decide)
  have e54 := hr3 54 (by decide) (by decide)
  have e55 := k4 55 (by decide) (by decide) (by decide) (by decide) (by decide)
  have e109 := k4 109 (by decide) (by decide) (by decide) (by decide) (by decide)
  rw [e62] at k1 k2 k3
  rw [e54] at k3
  have w1 : ∀ c, 0 ≤ c → c < 40 → (M1 109 c = 0 ↔ M 62 c < 0) := fun c c0 c1 => by
    rw [e109, hr2 c c0 c1]
    by_cases q : 0 ≤ M 62 c
    · rw [b1_t q]; omega
    · rw [b1_f q]; omega
  refine ⟨fun c c0 c1 => ?_, fun c c0 c1 c2 => ?_, fun x x0 x1 => ⟨?_, ?_⟩, fun b b0 b1 b2 b3 b4 b5 b6 => ?_⟩
  · have g := h2.1 c
    have w := w1 c c0 c1
    have i4 := hci.2.2.2.1 c c0 c1
    by_cases q : 0 ≤ M 62 c
    · rw [g.2 (fun z => by have := z.2.2.2; omega)]
      exact (k1 c c0 c1 q).1
    · by_cases r : 0 ≤ M1 62 c
      · rw [g.1 ⟨c0, c1, r, w.mpr (by omega)⟩]; omega
      · rw [g.2 (fun z => r z.2.2.1)]
        exact k2 c c0 c1 (by omega)
  · have k := k1 c c0 c1 c2
    refine ⟨fun b b0 b1 => ?_, ?_, ?_, ?_⟩
    · rw [h3 b (by omega) (by omega) (by omega), k.2.1 b b0 b1, hr3 b (by omega) (by omega)]
    · rw [h3 _ (by omega) (by omega) (by omega), k.2.2.1, hr3 _ (by omega) (by omega)]
    · rw [h3 _ (by decide) (by decide) (by decide), k.2.2.2.1, hr3 104 (by decide) (by decide)]
    · rw [h3 _ (by decide) (by decide) (by decide), k.2.2.2.2, hr3 105 (by decide) (by decide)]
  · rw [h1, if_pos ⟨x0, x1⟩, e55, hr1 x x0 x1]
  · have g := h2.2 x x0 x1
    have k := k3 x x0 x1
    have o := hci.2.2.1.2 x x0 x1
    by_cases q : 0 ≤ M 54 x
    · have e := k.1 q
      rw [g.2 (fun z => ?_), e]
      have w := w1 (M 54 x) (by omega) (by omega)
      have z2 := z.2.2
      rw [e] at z2
      have := w.mp z2
      omega
    · rcases k.2 (by omega) with r | ⟨r1, r2, r3⟩
      · rw [g.2 (fun z => by omega)]; exact r
      · rw [g.1 ⟨r1, r2, (w1 _ r1 r2).mpr r3⟩]; omega
  · rw [h3 b b0 b1 (by omega), k4 b b0 b1 b3 (by omega) b6, hr3 b b2 b5]
section PS
variable {M : px_mem} {Q : Option pv → px_mem → Prop}
set_option maxHeartbeats 600000 in
set_option maxRecDepth 100000 in
theorem sp_unch {N : Int} {pl : Int → Int → List Int} {nm : Int → List Int} {g : Int → fe} (hed : edA M pl nm) (hci : ci M) (hst : stC M N g) (h1 : uncS M N pl g → Q (some (0, 1)) M) (h0 : ¬ uncS M N pl g → Q (some (0, 0)) M) : px_Ok 121 [(2, 1)] LAY M Q := by
  have hM := hst.1
  refine px_ok_go (inl := []) (ls0 := [(2, 1), (9, 0), (9, 0), (9, 0)]) 60 (by decide) (Nat.le_of_ble_eq_true rfl) rfl ?_
  simp only [px_go, px_Q0_at, px_sx_0, px_sx_s, px_cl, px_step, ↓px_ll, px_lg, f4_, ↓px_r1, ↓px_r2, ↓px_r4, ↓px_r5, ↓px_p1, ↓px_p2, ↓px_p3, ↓px_pop, px_k_0, px_k_s, px_k3_0, px_stk_, px_cats, px_ent, px_st1, px_st2, px_mask, ↓px_tsw, ↓px_lsw, ct_, mls_0, mls_1, mls_2, mls_3, mls_4, mls_5, kd_0, kd_1, kd_2, kd_3, ln_0, ln_1, ln_2, ln_3, gf_0, gf_1, gf_2, gf_3, gf_4, gf_7, gf_21, gf_63, dy_0, dy_1, dy_2, dy_3, dy_7, dy_21, px_brT, px_brF, true_and, and_true, and_false, false_and, and_self, true_implies, false_implies, or_true, true_or, or_false, false_or, eq_self, ne_eq, not_false_eq_true, not_true_eq_false, if_true, if_false, List.mem_cons, List.not_mem_nil, List.length_cons, List.length_nil, Nat.reduceEqDiff, Nat.reduceAdd, Nat.reduceSub, Nat.reduceLeDiff, Nat.reduceLT, Int.reduceEq, Int.reduceLT, Int.reduceLE, Int.reduceNeg, Int.reduceAdd, Int.reduceSub, Int.reduceToNat, ↓reduceIte, one_ne_zero_, zero_ne_one_, px_in32L, cd_121, hM]
  repeat' (first | (with_reducible apply And.intro) | (with_reducible refine px_br_intro (fun _ => ?_) (fun _ => ?_)))
  all_goals (try (first | (unfold px_in32; omega) | omega))
  have hw := hed.1
  refine sp_numbered hw ?_
  unfold edR
  have hs := slot_rng (M := M) (M 4 4)
  unfold uncS at h1 h0
  generalize slot M (M 4 4) = s at *
  by_cases q : s < 0
  · rw [if_pos q]
    simp only [px_go, px_Q0_at, px_sx_0, px_sx_s, px_cl, px_step, ↓px_ll, px_lg, f4_, ↓px_r1, ↓px_r2, ↓px_r4, ↓px_r5, ↓px_p1, ↓px_p2, ↓px_p3, ↓px_pop, px_k_0, px_k_s, px_k3_0, px_stk_, px_cats, px_ent, px_st1, px_st2, px_mask, ↓px_tsw, ↓px_lsw, ct_, mls_0, mls_1, mls_2, mls_3, mls_4, mls_5, kd_0, kd_1, kd_2, kd_3, ln_0, ln_1, ln_2, ln_3, gf_0, gf_1, gf_2, gf_3, gf_4, gf_7, gf_21, gf_63, dy_0, dy_1, dy_2, dy_3, dy_7, dy_21, px_brT, px_brF, true_and, and_true, and_false, false_and, and_self, true_implies, false_implies, or_true, true_or, or_false, false_or, eq_self, ne_eq, not_false_eq_true, not_true_eq_false, if_true, if_false, List.mem_cons, List.not_mem_nil, List.length_cons, List.length_nil, Nat.reduceEqDiff, Nat.reduceAdd, Nat.reduceSub, Nat.reduceLeDiff, Nat.reduceLT, Int.reduceEq, Int.reduceLT, Int.reduceLE, Int.reduceNeg, Int.reduceAdd, Int.reduceSub, Int.reduceToNat, ↓reduceIte, one_ne_zero_, zero_ne_one_, px_in32L, cd_121, hM]
    exact h0 (fun z => by omega)
  · rw [if_neg q]
    have hE := hw.1 s (by omega) (by have := hw.2.2; omega)
    have hei := hed.2 s (by omega) (by omega)
    have hel := isE_lay hE.1
    have heg := isE_gf hE.1
    have hem := isE_m hE.1
    generalize M 21 s = e at *
    simp only [px_go, px_Q0_at, px_sx_0, px_sx_s, px_cl, px_step, ↓px_ll, px_lg, f4_, ↓px_r1, ↓px_r2, ↓px_r4, ↓px_r5, ↓px_p1, ↓px_p2, ↓px_p3, ↓px_pop, px_k_0, px_k_s, px_k3_0, px_stk_, px_cats, px_ent, px_st1, px_st2, px_mask, ↓px_tsw, ↓px_lsw, ct_, mls_0, mls_1, mls_2, mls_3, mls_4, mls_5, kd_0, kd_1, kd_2, kd_3, ln_0, ln_1, ln_2, ln_3, gf_0, gf_1, gf_2, gf_3, gf_4, gf_7, gf_21, gf_63, dy_0, dy_1, dy_2, dy_3, dy_7, dy_21, px_brT, px_brF, true_and, and_true, and_false, false_and, and_self, true_implies, false_implies, or_true, true_or, or_false, false_or, eq_self, ne_eq, not_false_eq_true, not_true_eq_false, if_true, if_false, List.mem_cons, List.not_mem_nil, List.length_cons, List.length_nil, Nat.reduceEqDiff, Nat.reduceAdd, Nat.reduceSub, Nat.reduceLeDiff, Nat.reduceLT, Int.reduceEq, Int.reduceLT, Int.reduceLE, Int.reduceNeg, Int.reduceAdd, Int.reduceSub, Int.reduceToNat, ↓reduceIte, one_ne_zero_, zero_ne_one_, px_in32L, cd_121, hel, heg, hM]
    repeat' (first | (with_reducible apply And.intro) | (with_reducible refine px_br_intro (fun _ => ?_) (fun _ => ?_)))
    all_goals (try (first | (unfold px_in32; omega) | omega))
    · rename_i c1 c2 c3
      refine lp_unch hE.1 hst hei.1 c3 (fun c c0 c1 ⟨j, j0, j1, j2⟩ => ?_) (fun z => h1 ⟨by omega, c2, z⟩) (fun z => h0 (fun w => z w.2.2)) 0 hst.2.1 (Int.le_refl 0) (fun i i0 i1 => by omega)
      have := (hei.2.2.1 j j0 j1).1
      rw [j2] at this
      have := cokC (hci.1 c c0 c1 this)
      omega
    · rename_i c1 c2 c3
      exact h0 (fun z => c3 z.2.2.1)
    · rename_i c1 c2
      exact h0 (fun z => c2 z.2.1)
set_option maxHeartbeats 600000 in
set_option maxRecDepth 100000 in
theorem sp_commit {N : Int} {pl : Int → Int → List Int} {nm : Int → List Int} {g : Int → fe} (hed : edA M pl nm) (hci : ci M) (hst : stC M N g) (hnx : 0 ≤ M 20 2 ∧ M 20 2 ≤ 100) (h2 : uncS M N pl g → Q (some (0, -2)) M) (h3 : ¬ uncS M N pl g → (10 ≤ M 20 1 ∨ 100 ≤ M 20 2) → Q (some (0, -3)) M) (h4 : ∀ M' Mr M1 (k : Nat), ¬ uncS M N pl g → M 20 1 < 10 → M 20 2 < 100 → (∀ b, b ≠ 55 → b ≠ 109 → Mr b = M b) → (k : Int) < N → ktr g Mr k M1 → kfl M1 (g (k : Int)).2 → csame M M' → Q (some (0, -4)) M') (h1 : ∀ M' Mr M1 e, ¬ uncS M N pl g → M 20 1 < 10 → M 20 2 < 100 → (∀ b, b ≠ 55 → b ≠ 109 → Mr b = M b) → ktr g Mr N.toNat M1 → ci M1 → kmon Mr M1 → e = M 21 (M 20 1) → (∀ j, 0 ≤ j → j < N → M' (e + 1) j = M 5 j ∧ M' (e + 2) j = M1 126 j) → M' e 2 = N → M' e 3 = M 20 2 → M' e 4 = M 4 4 → M' e 5 = M 4 5 → M' e 6 = 0 → M' e 7 = 0 → M' 20 1 = M 20 1 + 1 → M' 20 2 = M 20 2 + 1 → M' 4 4 = M 20 2 → M' 4 5 = -2 → (∀ j, j ≠ 4 → j ≠ 5 → M' 4 j = M 4 j) → (∀ b, b ≠ 4 → b ≠ 20 → b ≠ e → b ≠ e + 1 → b ≠ e + 2 → M' b = M1 b) → Q (some (0, M 20 2)) M') : px_Ok 120 [(2, 1)] LAY M Q := by
  have hw := hed.1
  have hn := hw.2.2
  refine px_ok_go (inl := []) (ls0 := [(2, 1), (9, 0)]) 60 (by decide) (Nat.le_of_ble_eq_true rfl) rfl ?_
  simp only [px_go, px_Q0_at, px_sx_0, px_sx_s, px_cl, px_step, ↓px_ll, px_lg, f4_, ↓px_r1, ↓px_r2, ↓px_r4, ↓px_r5, ↓px_p1, ↓px_p2, ↓px_p3, ↓px_pop, px_k_0, px_k_s, px_k3_0, px_stk_, px_cats, px_ent, px_st1, px_st2, px_mask, ↓px_tsw, ↓px_lsw, ct_, mls_0, mls_1, mls_2, mls_3, mls_4, mls_5, kd_0, kd_1, kd_2, kd_3, ln_0, ln_1, ln_2, ln_3, gf_0, gf_1, gf_2, gf_3, gf_4, gf_7, gf_21, gf_63, dy_0, dy_1, dy_2, dy_3, dy_7, dy_21, px_brT, px_brF, true_and, and_true, and_false, false_and, and_self, true_implies, false_implies, or_true, true_or, or_false, false_or, eq_self, ne_eq, not_false_eq_true, not_true_eq_false, if_true, if_false, List.mem_cons, List.not_mem_nil, List.length_cons, List.length_nil, Nat.reduceEqDiff, Nat.reduceAdd, Nat.reduceSub, Nat.reduceLeDiff, Nat.reduceLT, Int.reduceEq, Int.reduceLT, Int.reduceLE, Int.reduceNeg, Int.reduceAdd, Int.reduceSub, Int.reduceToNat, ↓reduceIte, one_ne_zero_, zero_ne_one_, px_in32L, cd_120]
  repeat' (first | (with_reducible apply And.intro) | (with_reducible refine px_br_intro (fun _ => ?_) (fun _ => ?_)))
  all_goals (try (first | (unfold px_in32; omega) | omega))
  refine sp_unch hed hci hst (fun hu => ?_) (fun hu => ?_)
  · simp only [px_go, px_Q0_at, px_sx_0, px_sx_s, px_cl, px_step, ↓px_ll, px_lg, f4_, ↓px_r1, ↓px_r2, ↓px_r4, ↓px_r5, ↓px_p1, ↓px_p2, ↓px_p3, ↓px_pop, px_k_0, px_k_s, px_k3_0, px_stk_, px_cats, px_ent, px_st1, px_st2, px_mask, ↓px_tsw, ↓px_lsw, ct_, mls_0, mls_1, mls_2, mls_3, mls_4, mls_5, kd_0, kd_1, kd_2, kd_3, ln_0, ln_1, ln_2, ln_3, gf_0, gf_1, gf_2, gf_3, gf_4, gf_7, gf_21, gf_63, dy_0, dy_1, dy_2, dy_3, dy_7, dy_21, px_brT, px_brF, true_and, and_true, and_false, false_and, and_self, true_implies, false_implies, or_true, true_or, or_false, false_or, eq_self, ne_eq, not_false_eq_true, not_true_eq_false, if_true, if_false, List.mem_cons, List.not_mem_nil, List.length_cons, List.length_nil, Nat.reduceEqDiff, Nat.reduceAdd, Nat.reduceSub, Nat.reduceLeDiff, Nat.reduceLT, Int.reduceEq, Int.reduceLT, Int.reduceLE, Int.reduceNeg, Int.reduceAdd, Int.reduceSub, Int.reduceToNat, ↓reduceIte, one_ne_zero_, zero_ne_one_, px_in32L, cd_120]
    exact h2 hu
  · simp only [px_go, px_Q0_at, px_sx_0, px_sx_s, px_cl, px_step, ↓px_ll, px_lg, f4_, ↓px_r1, ↓px_r2, ↓px_r4, ↓px_r5, ↓px_p1, ↓px_p2, ↓px_p3, ↓px_pop, px_k_0, px_k_s, px_k3_0, px_stk_, px_cats, px_ent, px_st1, px_st2, px_mask, ↓px_tsw, ↓px_lsw, ct_, mls_0, mls_1, mls_2, mls_3, mls_4, mls_5, kd_0, kd_1, kd_2, kd_3, ln_0, ln_1, ln_2, ln_3, gf_0, gf_1, gf_2, gf_3, gf_4, gf_7, gf_21, gf_63, dy_0, dy_1, dy_2, dy_3, dy_7, dy_21, px_brT, px_brF, true_and, and_true, and_false, false_and, and_self, true_implies, false_implies, or_true, true_or, or_false, false_or, eq_self, ne_eq, not_false_eq_true, not_true_eq_false, if_true, if_false, List.mem_cons, List.not_mem_nil, List.length_cons, List.length_nil, Nat.reduceEqDiff, Nat.reduceAdd, Nat.reduceSub, Nat.reduceLeDiff, Nat.reduceLT, Int.reduceEq, Int.reduceLT, Int.reduceLE, Int.reduceNeg, Int.reduceAdd, Int.reduceSub, Int.reduceToNat, ↓reduceIte, one_ne_zero_, zero_ne_one_, px_in32L, cd_120]
    repeat' (first | (with_reducible apply And.intro) | (with_reducible refine px_br_intro (fun _ => ?_) (fun _ => ?_)))
    all_goals (try (first | (unfold px_in32; omega) | omega))
    · rename_i c1; exact h3 hu (Or.inl c1)
    · rename_i c1 c2
      refine sp_remember (fun Mr r1 r2 r3 => ?_)
      have hcir : ci Mr := ci_congr (fun b b0 b1 b2 => r3 b b2 (by omega)) hci
      have hstr : stC Mr N g := stF_frame hst (fun b b0 b1 => r3 b (by omega) (by omega))
      simp only [px_go, px_Q0_at, px_sx_0, px_sx_s, px_cl, px_step, ↓px_ll, px_lg, f4_, ↓px_r1, ↓px_r2, ↓px_r4, ↓px_r5, ↓px_p1, ↓px_p2, ↓px_p3, ↓px_pop, px_k_0, px_k_s, px_k3_0, px_stk_, px_cats, px_ent, px_st1, px_st2, px_mask, ↓px_tsw, ↓px_lsw, ct_, mls_0, mls_1, mls_2, mls_3, mls_4, mls_5, kd_0, kd_1, kd_2, kd_3, ln_0, ln_1, ln_2, ln_3, gf_0, gf_1, gf_2, gf_3, gf_4, gf_7, gf_21, gf_63, dy_0, dy_1, dy_2, dy_3, dy_7, dy_21, px_brT, px_brF, true_and, and_true, and_false, false_and, and_self, true_implies, false_implies, or_true, true_or, or_false, false_or, eq_self, ne_eq, not_false_eq_true, not_true_eq_false, if_true, if_false, List.mem_cons, List.not_mem_nil, List.length_cons, List.length_nil, Nat.reduceEqDiff, Nat.reduceAdd, Nat.reduceSub, Nat.reduceLeDiff, Nat.reduceLT, Int.reduceEq, Int.reduceLT, Int.reduceLE, Int.reduceNeg, Int.reduceAdd, Int.reduceSub, Int.reduceToNat, ↓reduceIte, one_ne_zero_, zero_ne_one_, px_in32L, cd_120]
      refine sp_keepStage hstr hcir (fun M1 t1 t2 t3 => ?_) (fun M' M1 k t1 t2 t3 t4 t5 => ?_)
      · have f : ∀ b, b ≠ 53 → b ≠ 54 → ¬ (57 ≤ b ∧ b ≤ 62) → ¬ (64 ≤ b ∧ b ≤ 107) → b ≠ 126 → b ≠ 55 → b ≠ 109 → M1 b = M b := fun b b0 b1 b2 b3 b4 b5 b6 => by rw [t3.2.2.2 b b0 b1 b2 b3 b4, r3 b b5 b6]
        have f20 := f 20 (by decide) (by decide) (by decide) (by decide) (by decide) (by decide) (by decide)
        have f21 := f 21 (by decide) (by decide) (by decide) (by decide) (by decide) (by decide) (by decide)
        have f4 := f 4 (by decide) (by decide) (by decide) (by decide) (by decide) (by decide) (by decide)
        have f5 := f 5 (by decide) (by decide) (by decide) (by decide) (by decide) (by decide) (by decide)
        have hw1 : edW M1 := by unfold edW; rw [f20, f21]; exact hw
        simp only [px_go, px_Q0_at, px_sx_0, px_sx_s, px_cl, px_step, ↓px_ll, px_lg, f4_, ↓px_r1, ↓px_r2, ↓px_r4, ↓px_r5, ↓px_p1, ↓px_p2, ↓px_p3, ↓px_pop, px_k_0, px_k_s, px_k3_0, px_stk_, px_cats, px_ent, px_st1, px_st2, px_mask, ↓px_tsw, ↓px_lsw, ct_, mls_0, mls_1, mls_2, mls_3, mls_4, mls_5, kd_0, kd_1, kd_2, kd_3, ln_0, ln_1, ln_2, ln_3, gf_0, gf_1, gf_2, gf_3, gf_4, gf_7, gf_21, gf_63, dy_0, dy_1, dy_2, dy_3, dy_7, dy_21, px_brT, px_brF, true_and, and_true, and_false, false_and, and_self, true_implies, false_implies, or_true, true_or, or_false, false_or, eq_self, ne_eq, not_false_eq_true, not_true_eq_false, if_true, if_false, List.mem_cons, List.not_mem_nil, List.length_cons, List.length_nil, Nat.reduceEqDiff, Nat.reduceAdd, Nat.reduceSub, Nat.reduceLeDiff, Nat.reduceLT, Int.reduceEq, Int.reduceLT, Int.reduceLE, Int.reduceNeg, Int.reduceAdd, Int.reduceSub, Int.reduceToNat, ↓reduceIte, one_ne_zero_, zero_ne_one_, px_in32L, cd_120]
        refine sp_addOf hw1 (by rw [f20]; omega) ⟨hst.2.1, hst.2.2.1⟩ (by rw [f4]; exact hst.1) (by rw [f20]; omega) (fun M' e a0 a1 a2 a3 a4 a5 a6 a7 a8 a9 a10 => ?_)
        have he : isE e ∧ e < 52 := by rw [a0, f20, f21]; exact hw.1 _ hn.1 (by omega)
        have hem := isE_m he.1
        rw [f20] at a3 a8 a9
        rw [f4] at a4 a5
        rw [f5] at a1
        rw [f20, f21] at a0
        have g4 := a10 4 (by decide) (by omega) (by omega) (by omega)
        have gd : ∀ b, b ≠ 4 → px_up (px_up M' 4 4 (M1 20 2)) 4 5 (-2) b = M' b := fun b b0 => by rw [row_ne b0, row_ne b0]
        simp only [px_go, px_Q0_at, px_sx_0, px_sx_s, px_cl, px_step, ↓px_ll, px_lg, f4_, ↓px_r1, ↓px_r2, ↓px_r4, ↓px_r5, ↓px_p1, ↓px_p2, ↓px_p3, ↓px_pop, px_k_0, px_k_s, px_k3_0, px_stk_, px_cats, px_ent, px_st1, px_st2, px_mask, ↓px_tsw, ↓px_lsw, ct_, mls_0, mls_1, mls_2, mls_3, mls_4, mls_5, kd_0, kd_1, kd_2, kd_3, ln_0, ln_1, ln_2, ln_3, gf_0, gf_1, gf_2, gf_3, gf_4, gf_7, gf_21, gf_63, dy_0, dy_1, dy_2, dy_3, dy_7, dy_21, px_brT, px_brF, true_and, and_true, and_false, false_and, and_self, true_implies, false_implies, or_true, true_or, or_false, false_or, eq_self, ne_eq, not_false_eq_true, not_true_eq_false, if_true, if_false, List.mem_cons, List.not_mem_nil, List.length_cons, List.length_nil, Nat.reduceEqDiff, Nat.reduceAdd, Nat.reduceSub, Nat.reduceLeDiff, Nat.reduceLT, Int.reduceEq, Int.reduceLT, Int.reduceLE, Int.reduceNeg, Int.reduceAdd, Int.reduceSub, Int.reduceToNat, ↓reduceIte, one_ne_zero_, zero_ne_one_, px_in32L, cd_120]
        rw [f20] at *
        refine h1 _ Mr M1 e hu (by omega) (by omega) r3 t1 t2 t3 a0 (fun j j0 j1 => by rw [gd _ (by omega), gd _ (by omega)]; exact a1 j j0 j1) (by rw [gd _ (by omega)]; exact a2) (by rw [gd _ (by omega)]; exact a3) (by rw [gd _ (by omega)]; exact a4) (by rw [gd _ (by omega)]; exact a5) (by rw [gd _ (by omega)]; exact a6) (by rw [gd _ (by omega)]; exact a7) (by rw [gd _ (by decide)]; exact a8) (by rw [gd _ (by decide)]; exact a9) (by rw [px_up_at, if_neg (by decide), px_up_at, if_pos ⟨rfl, rfl⟩]) (by rw [px_up_at, if_pos ⟨rfl, rfl⟩]) (fun j j4 j5 => by rw [px_up_at, if_neg (fun z => j5 z.2), px_up_at, if_neg (fun z => j4 z.2), g4, f4]) (fun b b0 b1 b2 b3 b4 => by rw [gd b b0]; exact a10 b b1 b2 b3 b4)
      · simp only [px_go, px_Q0_at, px_sx_0, px_sx_s, px_cl, px_step, ↓px_ll, px_lg, f4_, ↓px_r1, ↓px_r2, ↓px_r4, ↓px_r5, ↓px_p1, ↓px_p2, ↓px_p3, ↓px_pop, px_k_0, px_k_s, px_k3_0, px_stk_, px_cats, px_ent, px_st1, px_st2, px_mask, ↓px_tsw, ↓px_lsw, ct_, mls_0, mls_1, mls_2, mls_3, mls_4, mls_5, kd_0, kd_1, kd_2, kd_3, ln_0, ln_1, ln_2, ln_3, gf_0, gf_1, gf_2, gf_3, gf_4, gf_7, gf_21, gf_63, dy_0, dy_1, dy_2, dy_3, dy_7, dy_21, px_brT, px_brF, true_and, and_true, and_false, false_and, and_self, true_implies, false_implies, or_true, true_or, or_false, false_or, eq_self, ne_eq, not_false_eq_true, not_true_eq_false, if_true, if_false, List.mem_cons, List.not_mem_nil, List.length_cons, List.length_nil, Nat.reduceEqDiff, Nat.reduceAdd, Nat.reduceSub, Nat.reduceLeDiff, Nat.reduceLT, Int.reduceEq, Int.reduceLT, Int.reduceLE, Int.reduceNeg, Int.reduceAdd, Int.reduceSub, Int.reduceToNat, ↓reduceIte, one_ne_zero_, zero_ne_one_, px_in32L, cd_120]
        have hp : ∀ c, 0 ≤ c → c < 40 → 0 ≤ M' 62 c → 0 ≤ M' 59 c ∧ 0 ≤ M' 60 c ∧ M' 59 c + M' 60 c ≤ 400 := fun c c0 c1 c2 => by have := cokC (t4.1 c c0 c1 c2); omega
        refine sp_restore t4.2.2.1 hp (fun M2 b1 b2 b3 => ?_)
        simp only [px_go, px_Q0_at, px_sx_0, px_sx_s, px_cl, px_step, ↓px_ll, px_lg, f4_, ↓px_r1, ↓px_r2, ↓px_r4, ↓px_r5, ↓px_p1, ↓px_p2, ↓px_p3, ↓px_pop, px_k_0, px_k_s, px_k3_0, px_stk_, px_cats, px_ent, px_st1, px_st2, px_mask, ↓px_tsw, ↓px_lsw, ct_, mls_0, mls_1, mls_2, mls_3, mls_4, mls_5, kd_0, kd_1, kd_2, kd_3, ln_0, ln_1, ln_2, ln_3, gf_0, gf_1, gf_2, gf_3, gf_4, gf_7, gf_21, gf_63, dy_0, dy_1, dy_2, dy_3, dy_7, dy_21, px_brT, px_brF, true_and, and_true, and_false, false_and, and_self, true_implies, false_implies, or_true, true_or, or_false, false_or, eq_self, ne_eq, not_false_eq_true, not_true_eq_false, if_true, if_false, List.mem_cons, List.not_mem_nil, List.length_cons, List.length_nil, Nat.reduceEqDiff, Nat.reduceAdd, Nat.reduceSub, Nat.reduceLeDiff, Nat.reduceLT, Int.reduceEq, Int.reduceLT, Int.reduceLE, Int.reduceNeg, Int.reduceAdd, Int.reduceSub, Int.reduceToNat, ↓reduceIte, one_ne_zero_, zero_ne_one_, px_in32L, cd_120]
        exact h4 M2 Mr M1 k hu (by omega) (by omega) r3 t1 t2 t3 (csame_of hci r1 r2 r3 t5 b1 b2 b3)
    · rename_i c1 c2; exact h3 hu (Or.inr (by omega))
end PS
