set_option maxRecDepth 100000 in
/-- X12_isAsStage -/
theorem cd_234 : px_at 234 0 = some (1, [], .aload_n 0, []) ∧ px_at 234 1 = some (2, [], .iload_n 1, []) ∧ px_at 234 2 = some (5, [], .invokevirtual 180, [206, 1, 11, 253]) ∧ px_at 234 5 = some (6, [], .aload_n 0, []) ∧ px_at 234 6 = some (9, [], .getfield 7, [11, 0, 2, 1, 125]) ∧ px_at 234 9 = some (10, [], .iconst 0, []) ∧ px_at 234 10 = some (11, [], .iaload, []) ∧ px_at 234 11 = some (14, [], .if_icmp .eq 5, [16]) ∧ px_at 234 14 = some (15, [], .iconst 0, []) ∧ px_at 234 15 = some (16, [], .ireturn, [4]) ∧ px_at 234 16 = some (17, [], .iconst 0, []) ∧ px_at 234 17 = some (18, [], .istore_n 2, []) ∧ px_at 234 18 = some (19, [1, 1, 1], .iload_n 2, []) ∧ px_at 234 19 = some (20, [], .aload_n 0, []) ∧ px_at 234 20 = some (23, [], .getfield 7, [11, 0, 2, 1, 125]) ∧ px_at 234 23 = some (24, [], .iconst 0, []) ∧ px_at 234 24 = some (25, [], .iaload, []) ∧ px_at 234 25 = some (28, [], .if_icmp .ge 63, [88]) ∧ px_at 234 28 = some (29, [], .aload_n 0, []) ∧ px_at 234 29 = some (32, [], .getfield 7, [11, 0, 2, 1, 125]) ∧ px_at 234 32 = some (33, [], .aload_n 0, []) ∧ px_at 234 33 = some (34, [], .iload_n 2, []) ∧ px_at 234 34 = some (37, [], .invokevirtual 196, [214, 1, 11, 229]) ∧ px_at 234 37 = some (38, [], .aload_n 0, []) ∧ px_at 234 38 = some (41, [], .getfield 7, [11, 0, 2, 1, 125]) ∧ px_at 234 41 = some (42, [], .aload_n 0, []) ∧ px_at 234 42 = some (43, [], .iload_n 1, []) ∧ px_at 234 43 = some (44, [], .iload_n 2, []) ∧ px_at 234 44 = some (47, [], .invokevirtual 177, [205, 2, 11, 254]) ∧ px_at 234 47 = some (50, [], .invokestatic 183, [182, 4, 11, 230]) ∧ px_at 234 50 = some (53, [], .ifCond .eq 5, [55]) ∧ px_at 234 53 = some (54, [], .iconst 0, []) ∧ px_at 234 54 = some (55, [], .ireturn, [4]) ∧ px_at 234 55 = some (56, [], .aload_n 0, []) ∧ px_at 234 56 = some (57, [], .iload_n 2, []) ∧ px_at 234 57 = some (60, [], .invokevirtual 264, [221, 1, 11, 255]) ∧ px_at 234 60 = some (61, [], .aload_n 0, []) ∧ px_at 234 61 = some (62, [], .aload_n 0, []) ∧ px_at 234 62 = some (63, [], .iload_n 1, []) ∧ px_at 234 63 = some (64, [], .iload_n 2, []) ∧ px_at 234 64 = some (67, [], .invokevirtual 187, [207, 2, 11, 256]) ∧ px_at 234 67 = some (70, [], .invokevirtual 141, [194, 1, 11, 257]) ∧ px_at 234 70 = some (73, [], .ifCond .eq 10, [80]) ∧ px_at 234 73 = some (74, [], .aload_n 0, []) ∧ px_at 234 74 = some (77, [], .invokevirtual 144, [198, 0, 11, 263]) ∧ px_at 234 77 = some (80, [], .ifCond .ne 5, [82]) ∧ px_at 234 80 = some (81, [], .iconst 0, []) ∧ px_at 234 81 = some (82, [], .ireturn, [4]) ∧ px_at 234 82 = some (85, [], .iinc 2 1, []) ∧ px_at 234 85 = some (88, [], .goto (-67), [18]) ∧ px_at 234 88 = some (89, [], .iconst 1, []) ∧ px_at 234 89 = some (90, [], .ireturn, [4]) := ⟨rfl, rfl, rfl, rfl, rfl, rfl, rfl, rfl, rfl, rfl, rfl, rfl, rfl, rfl, rfl, rfl, rfl, rfl, rfl, rfl, rfl, rfl, rfl, rfl, rfl, rfl, rfl, rfl, rfl, rfl, rfl, rfl, rfl, rfl, rfl, rfl, rfl, rfl, rfl, rfl, rfl, rfl, rfl, rfl, rfl, rfl, rfl, rfl, rfl, rfl, rfl, rfl⟩
/-! editions of both sides -/
def tieE (Mc : px_mem) (pl : Int → Int → List Int) (nm : Int → List Int) (F : Int → Int) : Prop := F 5 = Mc 20 1 ∧ ∀ i, 0 ≤ i → i < Mc 20 1 → (rE F i 0 = Mc (Mc 21 i) 3 ∧ rE F i 1 = Mc (Mc 21 i) 4 ∧ rE F i 2 = Mc (Mc 21 i) 5 ∧ rE F i 3 = Mc (Mc 21 i) 6 ∧ rE F i 17 = Mc (Mc 21 i) 2) ∧ (fp F (1294 + 186 * i + 4) = nm i ∧ pok F (1294 + 186 * i + 4) 3154) ∧ ∀ j, 0 ≤ j → j < Mc (Mc 21 i) 2 → rpl F i j = pl i j ∧ pok F (1294 + 186 * i + 18 + 14 * j) 3154 ∧ rcf F i j = Mc (Mc 21 i + 2) j
def TE (Mc : px_mem) (pl : Int → Int → List Int) (nm : Int → List Int) (F : Int → Int) : Prop := tieC Mc F ∧ edA Mc pl nm ∧ tieE Mc pl nm F
theorem TE_n {Mc : px_mem} {pl : Int → Int → List Int} {nm : Int → List Int} {F : Int → Int} (h : TE Mc pl nm F) : F 5 = Mc 20 1 ∧ 0 ≤ F 5 ∧ F 5 ≤ 10 := by
  have := h.2.1.1.2.2
  have := h.2.2.1
  omega
theorem TE_e {Mc : px_mem} {pl : Int → Int → List Int} {nm : Int → List Int} {F : Int → Int} (h : TE Mc pl nm F) {i : Int} (i0 : 0 ≤ i) (i1 : i < Mc 20 1) : rE F i 0 = Mc (Mc 21 i) 3 ∧ rE F i 1 = Mc (Mc 21 i) 4 ∧ rE F i 2 = Mc (Mc 21 i) 5 ∧ rE F i 3 = Mc (Mc 21 i) 6 ∧ rE F i 17 = Mc (Mc 21 i) 2 ∧ 0 ≤ Mc (Mc 21 i) 2 ∧ Mc (Mc 21 i) 2 ≤ 12 := by
  have h1 := (h.2.2.2 i i0 i1).1
  have h2 := (h.2.1.2 i i0 i1).1
  exact ⟨h1.1, h1.2.1, h1.2.2.1, h1.2.2.2.1, h1.2.2.2.2, h2.1, h2.2.1⟩
theorem TE_ent {Mc : px_mem} {pl : Int → Int → List Int} {nm : Int → List Int} {F : Int → Int} (h : TE Mc pl nm F) {i j : Int} (i0 : 0 ≤ i) (i1 : i < Mc 20 1) (j0 : 0 ≤ j) (j1 : j < Mc (Mc 21 i) 2) : (pok F (1294 + 186 * i + 18 + 14 * j) 3154 ∧ fp F (1294 + 186 * i + 18 + 14 * j) = pl i j ∧ F (1294 + 186 * i + 18 + 14 * j + 13) = Mc (Mc 21 i + 2) j) ∧ okp (pl i j) ∧ isP (pl i j) ∧ 0 ≤ Mc (Mc 21 i + 2) j ∧ Mc (Mc 21 i + 2) j < 40 ∧ 0 ≤ Mc 62 (Mc (Mc 21 i + 2) j) := by
  have h1 := (h.2.2.2 i i0 i1).2.2 j j0 j1
  have h2 := h.2.1.2 i i0 i1
  have h3 := h2.1.2.2 j j0 j1
  have h4 := h2.2.2.1 j j0 j1
  exact ⟨⟨h1.2.1, h1.1, h1.2.2⟩, h3.1, h4.2, h3.2.2.1, h3.2.2.2, h4.1⟩
theorem TE_rls {Mc : px_mem} {pl : Int → Int → List Int} {nm : Int → List Int} {F : Int → Int} (h : TE Mc pl nm F) : rls F (Mc 62) := by
  have hn := TE_n h
  refine ⟨hn.2, fun e e0 e1 => ?_⟩
  rw [hn.1] at e1
  have he := TE_e h e0 e1
  refine ⟨by omega, by omega, fun j j0 j1 => ?_⟩
  have hj := TE_ent h e0 e1 j0 (by omega)
  have hp : rpl F e j = pl e j := hj.1.2.1
  have hc : rcf F e j = Mc (Mc 21 e + 2) j := hj.1.2.2
  rw [hp, hc]
  exact ⟨hj.1.1, hj.2.1, isP_ne hj.2.2.1, hj.2.2.2.1, hj.2.2.2.2.1, hj.2.2.2.2.2⟩
theorem TE_slot {Mc : px_mem} {pl : Int → Int → List Int} {nm : Int → List Int} {F : Int → Int} (h : TE Mc pl nm F) (num : Int) : rslot F num = slot Mc num := by
  unfold rslot slot
  rw [(TE_n h).1]
  exact fnd_congr (fun j j0 j1 => by rw [(TE_e h j0 j1).1])
theorem TE_frame {Mc : px_mem} {pl : Int → Int → List Int} {nm : Int → List Int} {F F' : Int → Int} (h : TE Mc pl nm F) (h5 : F' 5 = F 5) (he : ∀ x, 654 ≤ x → F' x = F x) : TE Mc pl nm F' := by
  have hE : eqE F' F := ⟨h5, fun x x0 => he x (by omega)⟩
  refine ⟨tieC_frame h.1 (fun x x0 _ => he x x0), h.2.1, by rw [h5]; exact h.2.2.1, fun i i0 i1 => ?_⟩
  have h1 := h.2.2.2 i i0 i1
  refine ⟨?_, ⟨?_, pok_congr (fun x x0 _ => he _ (by omega)) h1.2.1.2 ⟨h1.2.1.2.1, h1.2.1.2.2.2.2.1⟩⟩, fun j j0 j1 => ?_⟩
  · rw [eqE_rE hE i0 (by decide), eqE_rE hE i0 (by decide), eqE_rE hE i0 (by decide), eqE_rE hE i0 (by decide), eqE_rE hE i0 (by decide)]
    exact h1.1
  · rw [fp_congr (fun x x0 _ => he _ (by omega)) h1.2.1.2.2.2.1]; exact h1.2.1.1
  · have h2 := h1.2.2 j j0 j1
    refine ⟨?_, pok_congr (fun x x0 _ => he _ (by omega)) h2.2.1 ⟨h2.2.1.1, h2.2.1.2.2.2.1⟩, ?_⟩
    · rw [← h2.1]; exact fp_congr (fun x x0 _ => he _ (by omega)) h2.2.1.2.2.1
    · rw [eqE_rcf hE i0 j0]; exact h2.2.2
theorem slot_bd (Mc : px_mem) (num : Int) : slot Mc num = -1 ∨ (0 ≤ slot Mc num ∧ slot Mc num < Mc 20 1) := by
  rcases @slot_rng Mc num with z | z
  · exact Or.inl z.1
  · exact Or.inr ⟨z.1, z.2.1⟩
section PS
variable {M : px_mem} {Q : Option pv → px_mem → Prop}
theorem sp_slotT {Mc : px_mem} {pl : Int → Int → List Int} {nm : Int → List Int} {num : Int} (h : TE Mc pl nm (M 128)) (hq : Q (some (0, slot Mc num)) M) : px_Ok 208 [(2, 127), (0, num)] LAY M Q :=
  sp_rslot (TE_n h).2 (by rw [TE_slot h]; exact hq)
theorem sp_wholeT {Mc : px_mem} {c : Int} (h : tieC Mc (M 128)) (hc : 0 ≤ c ∧ c < 40 ∧ 0 ≤ Mc 62 c) (h1 : ∀ M', Mc 105 c ≠ 0 → lst (M' 134) ((rdC Mc c).length : Int) = rdC Mc c → M' 127 9 = ((rdC Mc c).length : Int) → frd M' M → Q (some (0, 1)) M') (h0 : ∀ M', Mc 105 c = 0 → frd M' M → Q (some (0, 0)) M') : px_Ok 194 [(2, 127), (0, c)] LAY M Q := by
  have hr := tieC_read h hc.1 hc.2.1 hc.2.2
  refine sp_isWhole (tieC_rok h) hc (fun M' l a1 a2 a3 a4 a5 => ?_) (fun M' a1 a2 => ?_)
  · have := hr.1 l a1
    rw [← this.2.1] at a3 a4
    exact h1 M' (this.2.2.mpr a2) a3 a4 a5
  · refine h0 M' ?_ a2
    rw [tieC_wh h hc.1 hc.2.1 hc.2.2] at a1
    omega
theorem sp_readsT {Mc : px_mem} {c : Int} (h : tieC Mc (M 128)) (hc : 0 ≤ c ∧ c < 40 ∧ 0 ≤ Mc 62 c) (h1 : ∀ M', Mc 104 c ≠ 0 → lst (M' 134) ((rdC Mc c).length : Int) = rdC Mc c → M' 127 9 = ((rdC Mc c).length : Int) → frd M' M → Q (some (0, 1)) M') (h0 : ∀ M', Mc 104 c = 0 → frd M' M → Q (some (0, 0)) M') : px_Ok 193 [(2, 127), (0, c)] LAY M Q := by
  have hr := tieC_read h hc.1 hc.2.1 hc.2.2
  refine sp_reads (tieC_rok h) hc (fun M' l a1 a2 a3 a4 => ?_) (fun M' a1 a2 => ?_)
  · have := hr.1 l a1
    rw [← this.2.1] at a2 a3
    exact h1 M' this.1 a2 a3 a4
  · exact h0 M' (hr.2 a1).1 a2
theorem rdC_len {Mc : px_mem} (h : ci Mc) {c : Int} (c0 : 0 ≤ c) (c1 : c < 40) (c2 : 0 ≤ Mc 62 c) : ((rdC Mc c).length : Int) = Mc 57 c ∧ (rdC Mc c).length ≤ 40 := by
  have hk := cokC (h.1 c c0 c1 c2)
  have e : ((rdC Mc c).length : Int) = Mc 57 c := lst_len hk.2.1
  exact ⟨e, by omega⟩
/-- what reading and what is due leave alone -/
def frE (M' M : px_mem) : Prop := (∀ j, j ≠ 9 → j ≠ 14 → M' 127 j = M 127 j) ∧ ∀ b, b ≠ 127 → b ≠ 134 → b ≠ 135 → b ≠ 136 → b ≠ 137 → M' b = M b
theorem frE_refl (M : px_mem) : frE M M := ⟨fun _ _ _ => rfl, fun _ _ _ _ _ _ => rfl⟩
theorem frE_trans {A B C : px_mem} (h : frE A B) (h2 : frE B C) : frE A C := ⟨fun j j0 j1 => (h.1 j j0 j1).trans (h2.1 j j0 j1), fun b b0 b1 b2 b3 b4 => (h.2 b b0 b1 b2 b3 b4).trans (h2.2 b b0 b1 b2 b3 b4)⟩
theorem frd_E {A B : px_mem} (h : frd A B) : frE A B := ⟨fun j j0 _ => h.1 j j0, fun b b0 b1 b2 b3 _ => h.2 b b0 b1 b2 b3⟩
theorem frD_E {A B : px_mem} (h : frD A B) : frE A B := ⟨fun j _ j1 => h.1 j j1, fun b b0 _ _ _ b4 => h.2 b b0 b4⟩
theorem frE_128 {A B : px_mem} (h : frE A B) : A 128 = B 128 := h.2 128 (by decide) (by decide) (by decide) (by decide) (by decide)
theorem frE_out {A B : px_mem} (h : frE A B) : out A B := ⟨fun b b0 => h.2 b (by omega) (by omega) (by omega) (by omega) (by omega), h.2 130 (by decide) (by decide) (by decide) (by decide) (by decide), h.1 3 (by decide) (by decide)⟩
set_option maxHeartbeats 600000 in
set_option maxRecDepth 100000 in
theorem lp_isAs {M0 Mc : px_mem} {N s : Int} {g : Int → fe} {pl : Int → Int → List Int} {nm : Int → List Int} (hT : TE Mc pl nm (M0 128)) (hst : sR (M0 128) N g) (hs : 0 ≤ s ∧ s < Mc 20 1) (hN : Mc (Mc 21 s) 2 = N) (h1 : ∀ M', (∀ i, 0 ≤ i → i < N → pl s i = (g i).1 ∧ Mc 105 (Mc (Mc 21 s + 2) i) ≠ 0 ∧ rdC Mc (Mc (Mc 21 s + 2) i) = (g i).2) → frE M' M0 → Q (some (0, 1)) M') (h0 : ∀ M', ¬ (∀ i, 0 ≤ i → i < N → pl s i = (g i).1 ∧ Mc 105 (Mc (Mc 21 s + 2) i) ≠ 0 ∧ rdC Mc (Mc (Mc 21 s + 2) i) = (g i).2) → frE M' M0 → Q (some (0, 0)) M') (i : Int) (hk_i : i ≤ N) : ∀ (M : px_mem), 0 ≤ i → (∀ j, 0 ≤ j → j < i → pl s j = (g j).1 ∧ Mc 105 (Mc (Mc 21 s + 2) j) ≠ 0 ∧ rdC Mc (Mc (Mc 21 s + 2) j) = (g j).2) → frE M M0 → px_WP 234 0 0 (px_Q0 LAY Q) 18 [(2, 127), (0, s), (0, i)] [] LAY M 0 0 := by
  refine up_ind (P := fun i => ∀ (M : px_mem), 0 ≤ i → (∀ j, 0 ≤ j → j < i → pl s j = (g j).1 ∧ Mc 105 (Mc (Mc 21 s + 2) j) ≠ 0 ∧ rdC Mc (Mc (Mc 21 s + 2) j) = (g j).2) → frE M M0 → px_WP 234 0 0 (px_Q0 LAY Q) 18 [(2, 127), (0, s), (0, i)] [] LAY M 0 0) (N) (fun i hk_i ih => ?_) i hk_i
  intro M i0 hj hfr
  have e128 := frE_128 hfr
  have hF0 := hst.1
  have hn3 := hst.2.2.1
  have hTn := TE_n hT
  refine px_go_ok (inl := [214,205,204,206,207]) 60 ?_
  simp only [px_go, px_Q0_at, px_sx_0, px_sx_s, px_cl, px_step, ↓px_ll, px_lg, f4_, ↓px_r1, ↓px_r2, ↓px_r4, ↓px_r5, ↓px_p1, ↓px_p2, ↓px_p3, ↓px_pop, px_k_0, px_k_s, px_k3_0, px_stk_, px_cats, px_ent, px_st1, px_st2, px_mask, ↓px_tsw, ↓px_lsw, ct_, mls_0, mls_1, mls_2, mls_3, mls_4, mls_5, kd_0, kd_1, kd_2, kd_3, ln_0, ln_1, ln_2, ln_3, gf_0, gf_1, gf_2, gf_3, gf_4, gf_7, gf_21, gf_63, dy_0, dy_1, dy_2, dy_3, dy_7, dy_21, px_brT, px_brF, true_and, and_true, and_false, false_and, and_self, true_implies, false_implies, or_true, true_or, or_false, false_or, eq_self, ne_eq, not_false_eq_true, not_true_eq_false, if_true, if_false, List.mem_cons, List.not_mem_nil, List.length_cons, List.length_nil, Nat.reduceEqDiff, Nat.reduceAdd, Nat.reduceSub, Nat.reduceLeDiff, Nat.reduceLT, Int.reduceEq, Int.reduceLT, Int.reduceLE, Int.reduceNeg, Int.reduceAdd, Int.reduceSub, Int.reduceToNat, ↓reduceIte, one_ne_zero_, zero_ne_one_, px_in32L, cd_234, cd_214, cd_205, cd_204, cd_206, cd_207, e128, hF0]
  repeat' (first | (with_reducible apply And.intro) | (with_reducible refine px_br_intro (fun _ => ?_) (fun _ => ?_)))
  all_goals (try (first | (unfold px_in32; omega) | omega))
  · rename_i c1
    exact h1 M (fun j j0 j1 => hj j j0 (by omega)) hfr
  · rename_i c1
    have f := hst.2.2.2 i i0 (by omega)
    have en := TE_ent hT hs.1 hs.2 i0 (by omega)
    refine sp_against rfl rfl (by rw [e128]; exact f.2.2.1) (by rw [e128]; exact en.1.1) ⟨by decide, by decide⟩ (fun r r1 r2 => ?_)
    rw [e128, f.2.2.2.1, en.1.2.1] at r2
    simp only [px_go, px_Q0_at, px_sx_0, px_sx_s, px_cl, px_step, ↓px_ll, px_lg, f4_, ↓px_r1, ↓px_r2, ↓px_r4, ↓px_r5, ↓px_p1, ↓px_p2, ↓px_p3, ↓px_pop, px_k_0, px_k_s, px_k3_0, px_stk_, px_cats, px_ent, px_st1, px_st2, px_mask, ↓px_tsw, ↓px_lsw, ct_, mls_0, mls_1, mls_2, mls_3, mls_4, mls_5, kd_0, kd_1, kd_2, kd_3, ln_0, ln_1, ln_2, ln_3, gf_0, gf_1, gf_2, gf_3, gf_4, gf_7, gf_21, gf_63, dy_0, dy_1, dy_2, dy_3, dy_7, dy_21, px_brT, px_brF, true_and, and_true, and_false, false_and, and_self, true_implies, false_implies, or_true, true_or, or_false, false_or, eq_self, ne_eq, not_false_eq_true, not_true_eq_false, if_true, if_false, List.mem_cons, List.not_mem_nil, List.length_cons, List.length_nil, Nat.reduceEqDiff, Nat.reduceAdd, Nat.reduceSub, Nat.reduceLeDiff, Nat.reduceLT, Int.reduceEq, Int.reduceLT, Int.reduceLE, Int.reduceNeg, Int.reduceAdd, Int.reduceSub, Int.reduceToNat, ↓reduceIte, one_ne_zero_, zero_ne_one_, px_in32L, cd_234, cd_214, cd_205, cd_204, cd_206, cd_207]
    refine px_br_intro (fun c2 => ?_) (fun c2 => ?_)
    · have ep := r2.mp c2
      refine sp_laysDueOf ⟨i0, by omega⟩ (by rw [e128]; exact f) (fun M1 a1 a2 => ?_)
      have g1 := frE_trans (frD_E a2) hfr
      have e1 := frE_128 g1
      have ec : M1 128 (1294 + 186 * s + 18 + 14 * i + 13) = Mc (Mc 21 s + 2) i := by rw [e1]; exact en.1.2.2
      simp only [px_go, px_Q0_at, px_sx_0, px_sx_s, px_cl, px_step, ↓px_ll, px_lg, f4_, ↓px_r1, ↓px_r2, ↓px_r4, ↓px_r5, ↓px_p1, ↓px_p2, ↓px_p3, ↓px_pop, px_k_0, px_k_s, px_k3_0, px_stk_, px_cats, px_ent, px_st1, px_st2, px_mask, ↓px_tsw, ↓px_lsw, ct_, mls_0, mls_1, mls_2, mls_3, mls_4, mls_5, kd_0, kd_1, kd_2, kd_3, ln_0, ln_1, ln_2, ln_3, gf_0, gf_1, gf_2, gf_3, gf_4, gf_7, gf_21, gf_63, dy_0, dy_1, dy_2, dy_3, dy_7, dy_21, px_brT, px_brF, true_and, and_true, and_false, false_and, and_self, true_implies, false_implies, or_true, true_or, or_false, false_or, eq_self, ne_eq, not_false_eq_true, not_true_eq_false, if_true, if_false, List.mem_cons, List.not_mem_nil, List.length_cons, List.length_nil, Nat.reduceEqDiff, Nat.reduceAdd, Nat.reduceSub, Nat.reduceLeDiff, Nat.reduceLT, Int.reduceEq, Int.reduceLT, Int.reduceLE, Int.reduceNeg, Int.reduceAdd, Int.reduceSub, Int.reduceToNat, ↓reduceIte, one_ne_zero_, zero_ne_one_, px_in32L, cd_234, cd_205, cd_204, cd_207, cd_214, cd_206, ec]
      repeat' (first | (with_reducible apply And.intro) | (with_reducible refine px_br_intro (fun _ => ?_) (fun _ => ?_)))
      all_goals (try (first | (unfold px_in32; omega) | omega))
      refine sp_wholeT (Mc := Mc) (by rw [e1]; exact hT.1) ⟨en.2.2.2.1, en.2.2.2.2.1, en.2.2.2.2.2⟩ (fun M2 b1' b2 b3 b4 => ?_) (fun M2 b1' b4 => ?_)
      · simp only [px_go, px_Q0_at, px_sx_0, px_sx_s, px_cl, px_step, ↓px_ll, px_lg, f4_, ↓px_r1, ↓px_r2, ↓px_r4, ↓px_r5, ↓px_p1, ↓px_p2, ↓px_p3, ↓px_pop, px_k_0, px_k_s, px_k3_0, px_stk_, px_cats, px_ent, px_st1, px_st2, px_mask, ↓px_tsw, ↓px_lsw, ct_, mls_0, mls_1, mls_2, mls_3, mls_4, mls_5, kd_0, kd_1, kd_2, kd_3, ln_0, ln_1, ln_2, ln_3, gf_0, gf_1, gf_2, gf_3, gf_4, gf_7, gf_21, gf_63, dy_0, dy_1, dy_2, dy_3, dy_7, dy_21, px_brT, px_brF, true_and, and_true, and_false, false_and, and_self, true_implies, false_implies, or_true, true_or, or_false, false_or, eq_self, ne_eq, not_false_eq_true, not_true_eq_false, if_true, if_false, List.mem_cons, List.not_mem_nil, List.length_cons, List.length_nil, Nat.reduceEqDiff, Nat.reduceAdd, Nat.reduceSub, Nat.reduceLeDiff, Nat.reduceLT, Int.reduceEq, Int.reduceLT, Int.reduceLE, Int.reduceNeg, Int.reduceAdd, Int.reduceSub, Int.reduceToNat, ↓reduceIte, one_ne_zero_, zero_ne_one_, px_in32L, cd_234, cd_214, cd_205, cd_204, cd_206, cd_207]
        have g2 := frE_trans (frd_E b4) g1
        have hrl := rdC_len hT.1.1 en.2.2.2.1 en.2.2.2.2.1 en.2.2.2.2.2
        refine sp_areDue (D := (g i).2) (B := rdC Mc (Mc (Mc 21 s + 2) i)) (by rw [b4.2 137 (by decide) (by decide) (by decide) (by decide)]; exact a1.2) (by rw [b4.1 14 (by decide)]; exact a1.1) b2 b3 hrl.2 (fun w => ?_) (fun w => ?_)
        · simp only [px_go, px_Q0_at, px_sx_0, px_sx_s, px_cl, px_step, ↓px_ll, px_lg, f4_, ↓px_r1, ↓px_r2, ↓px_r4, ↓px_r5, ↓px_p1, ↓px_p2, ↓px_p3, ↓px_pop, px_k_0, px_k_s, px_k3_0, px_stk_, px_cats, px_ent, px_st1, px_st2, px_mask, ↓px_tsw, ↓px_lsw, ct_, mls_0, mls_1, mls_2, mls_3, mls_4, mls_5, kd_0, kd_1, kd_2, kd_3, ln_0, ln_1, ln_2, ln_3, gf_0, gf_1, gf_2, gf_3, gf_4, gf_7, gf_21, gf_63, dy_0, dy_1, dy_2, dy_3, dy_7, dy_21, px_brT, px_brF, true_and, and_true, and_false, false_and, and_self, true_implies, false_implies, or_true, true_or, or_false, false_or, eq_self, ne_eq, not_false_eq_true, not_true_eq_false, if_true, if_false, List.mem_cons, List.not_mem_nil, List.length_cons, List.length_nil, Nat.reduceEqDiff, Nat.reduceAdd, Nat.reduceSub, Nat.reduceLeDiff, Nat.reduceLT, Int.reduceEq, Int.reduceLT, Int.reduceLE, Int.reduceNeg, Int.reduceAdd, Int.reduceSub, Int.reduceToNat, ↓reduceIte, one_ne_zero_, zero_ne_one_, px_in32L, cd_234, cd_214, cd_205, cd_204, cd_206, cd_207]
          repeat' (first | (with_reducible apply And.intro) | (with_reducible refine px_br_intro (fun _ => ?_) (fun _ => ?_)))
          all_goals (try (first | (unfold px_in32; omega) | omega))
          refine ih (by omega) M2 (by omega) (fun j j0 j1 => ?_) g2
          by_cases q : j = i
          · rw [q]; exact ⟨ep.symm, b1', w⟩
          · exact hj j j0 (by omega)
        · simp only [px_go, px_Q0_at, px_sx_0, px_sx_s, px_cl, px_step, ↓px_ll, px_lg, f4_, ↓px_r1, ↓px_r2, ↓px_r4, ↓px_r5, ↓px_p1, ↓px_p2, ↓px_p3, ↓px_pop, px_k_0, px_k_s, px_k3_0, px_stk_, px_cats, px_ent, px_st1, px_st2, px_mask, ↓px_tsw, ↓px_lsw, ct_, mls_0, mls_1, mls_2, mls_3, mls_4, mls_5, kd_0, kd_1, kd_2, kd_3, ln_0, ln_1, ln_2, ln_3, gf_0, gf_1, gf_2, gf_3, gf_4, gf_7, gf_21, gf_63, dy_0, dy_1, dy_2, dy_3, dy_7, dy_21, px_brT, px_brF, true_and, and_true, and_false, false_and, and_self, true_implies, false_implies, or_true, true_or, or_false, false_or, eq_self, ne_eq, not_false_eq_true, not_true_eq_false, if_true, if_false, List.mem_cons, List.not_mem_nil, List.length_cons, List.length_nil, Nat.reduceEqDiff, Nat.reduceAdd, Nat.reduceSub, Nat.reduceLeDiff, Nat.reduceLT, Int.reduceEq, Int.reduceLT, Int.reduceLE, Int.reduceNeg, Int.reduceAdd, Int.reduceSub, Int.reduceToNat, ↓reduceIte, one_ne_zero_, zero_ne_one_, px_in32L, cd_234, cd_214, cd_205, cd_204, cd_206, cd_207]
          exact h0 M2 (fun z => w (z i i0 (by omega)).2.2) g2
      · simp only [px_go, px_Q0_at, px_sx_0, px_sx_s, px_cl, px_step, ↓px_ll, px_lg, f4_, ↓px_r1, ↓px_r2, ↓px_r4, ↓px_r5, ↓px_p1, ↓px_p2, ↓px_p3, ↓px_pop, px_k_0, px_k_s, px_k3_0, px_stk_, px_cats, px_ent, px_st1, px_st2, px_mask, ↓px_tsw, ↓px_lsw, ct_, mls_0, mls_1, mls_2, mls_3, mls_4, mls_5, kd_0, kd_1, kd_2, kd_3, ln_0, ln_1, ln_2, ln_3, gf_0, gf_1, gf_2, gf_3, gf_4, gf_7, gf_21, gf_63, dy_0, dy_1, dy_2, dy_3, dy_7, dy_21, px_brT, px_brF, true_and, and_true, and_false, false_and, and_self, true_implies, false_implies, or_true, true_or, or_false, false_or, eq_self, ne_eq, not_false_eq_true, not_true_eq_false, if_true, if_false, List.mem_cons, List.not_mem_nil, List.length_cons, List.length_nil, Nat.reduceEqDiff, Nat.reduceAdd, Nat.reduceSub, Nat.reduceLeDiff, Nat.reduceLT, Int.reduceEq, Int.reduceLT, Int.reduceLE, Int.reduceNeg, Int.reduceAdd, Int.reduceSub, Int.reduceToNat, ↓reduceIte, one_ne_zero_, zero_ne_one_, px_in32L, cd_234, cd_214, cd_205, cd_204, cd_206, cd_207]
        exact h0 M2 (fun z => (z i i0 (by omega)).2.1 b1') (frE_trans (frd_E b4) g1)
    · exact h0 M (fun z => c2 (r2.mpr (z i i0 (by omega)).1.symm)) hfr
set_option maxHeartbeats 600000 in
set_option maxRecDepth 100000 in
theorem sp_isAs {Mc : px_mem} {N s : Int} {g : Int → fe} {pl : Int → Int → List Int} {nm : Int → List Int} (hT : TE Mc pl nm (M 128)) (hst : sR (M 128) N g) (hs : 0 ≤ s ∧ s < Mc 20 1) (h1 : ∀ M', asS Mc (Mc 21 s) N (pl s) g → frE M' M → Q (some (0, 1)) M') (h0 : ∀ M', ¬ asS Mc (Mc 21 s) N (pl s) g → frE M' M → Q (some (0, 0)) M') : px_Ok 234 [(2, 127), (0, s)] LAY M Q := by
  have hF0 := hst.1
  have hTn := TE_n hT
  have he := TE_e hT hs.1 hs.2
  have e17 : M 128 (1294 + 186 * s + 17) = Mc (Mc 21 s) 2 := he.2.2.2.2.1
  refine px_ok_go (inl := [204, 206]) (ls0 := [(2, 127), (0, s), (9, 0)]) 60 (by decide) (Nat.le_of_ble_eq_true rfl) rfl ?_
  simp only [px_go, px_Q0_at, px_sx_0, px_sx_s, px_cl, px_step, ↓px_ll, px_lg, f4_, ↓px_r1, ↓px_r2, ↓px_r4, ↓px_r5, ↓px_p1, ↓px_p2, ↓px_p3, ↓px_pop, px_k_0, px_k_s, px_k3_0, px_stk_, px_cats, px_ent, px_st1, px_st2, px_mask, ↓px_tsw, ↓px_lsw, ct_, mls_0, mls_1, mls_2, mls_3, mls_4, mls_5, kd_0, kd_1, kd_2, kd_3, ln_0, ln_1, ln_2, ln_3, gf_0, gf_1, gf_2, gf_3, gf_4, gf_7, gf_21, gf_63, dy_0, dy_1, dy_2, dy_3, dy_7, dy_21, px_brT, px_brF, true_and, and_true, and_false, false_and, and_self, true_implies, false_implies, or_true, true_or, or_false, false_or, eq_self, ne_eq, not_false_eq_true, not_true_eq_false, if_true, if_false, List.mem_cons, List.not_mem_nil, List.length_cons, List.length_nil, Nat.reduceEqDiff, Nat.reduceAdd, Nat.reduceSub, Nat.reduceLeDiff, Nat.reduceLT, Int.reduceEq, Int.reduceLT, Int.reduceLE, Int.reduceNeg, Int.reduceAdd, Int.reduceSub, Int.reduceToNat, ↓reduceIte, one_ne_zero_, zero_ne_one_, px_in32L, cd_234, cd_204, cd_206, hF0, e17]
  repeat' (first | (with_reducible apply And.intro) | (with_reducible refine px_br_intro (fun _ => ?_) (fun _ => ?_)))
  all_goals (try (first | (unfold px_in32; omega) | omega))
  · rename_i c1
    exact lp_isAs (M0 := M) hT hst hs c1 (fun M' z f => h1 M' ⟨c1, z⟩ f) (fun M' z f => h0 M' (fun y => z y.2) f) 0 hst.2.1 M (Int.le_refl 0) (fun j j0 j1 => by omega) (frE_refl M)
  · rename_i c1
    exact h0 M (fun z => c1 z.1) (frE_refl M)
end PS
