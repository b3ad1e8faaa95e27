set_option maxRecDepth 100000 in
/-- X12_comes -/
theorem cd_236 : px_at 236 0 = some (1, [], .aload_n 0, []) ∧ px_at 236 1 = some (2, [], .aload_n 0, []) ∧ px_at 236 2 = some (5, [], .getfield 7, [11, 0, 2, 1, 125]) ∧ px_at 236 5 = some (6, [], .iload_n 1, []) ∧ px_at 236 6 = some (9, [], .invokevirtual 228, [217, 2, 11, 234]) ∧ px_at 236 9 = some (10, [], .istore_n 3, []) ∧ px_at 236 10 = some (11, [], .aload_n 0, []) ∧ px_at 236 11 = some (12, [], .iload_n 2, []) ∧ px_at 236 12 = some (15, [], .invokevirtual 122, [193, 1, 11, 258]) ∧ px_at 236 15 = some (16, [], .pop, []) ∧ px_at 236 16 = some (17, [], .aload_n 0, []) ∧ px_at 236 17 = some (18, [], .iload_n 3, []) ∧ px_at 236 18 = some (19, [], .aload_n 0, []) ∧ px_at 236 19 = some (22, [], .getfield 29, [11, 7, 2, 1, 132]) ∧ px_at 236 22 = some (23, [], .aload_n 0, []) ∧ px_at 236 23 = some (26, [], .getfield 115, [11, 9, 0, 0, 134]) ∧ px_at 236 26 = some (29, [], .invokevirtual 231, [219, 3, 11, 237]) ∧ px_at 236 29 = some (30, [], .return_, []) := ⟨rfl, rfl, rfl, rfl, rfl, rfl, rfl, rfl, rfl, rfl, rfl, rfl, rfl, rfl, rfl, rfl, rfl, rfl⟩
set_option maxRecDepth 100000 in
/-- X12_rebuild -/
theorem cd_237 : px_at 237 0 = some (1, [], .aload_n 0, []) ∧ px_at 237 1 = some (2, [], .iload_n 1, []) ∧ px_at 237 2 = some (5, [], .invokevirtual 267, [208, 1, 11, 250]) ∧ px_at 237 5 = some (6, [], .istore_n 2, []) ∧ px_at 237 6 = some (7, [], .iload_n 2, []) ∧ px_at 237 7 = some (8, [], .iconst (-1), []) ∧ px_at 237 8 = some (11, [], .if_icmp .ne 6, [14]) ∧ px_at 237 11 = some (13, [], .bipush (-2), []) ∧ px_at 237 13 = some (14, [], .ireturn, [0]) ∧ px_at 237 14 = some (15, [], .iconst 0, []) ∧ px_at 237 15 = some (16, [], .istore_n 3, []) ∧ px_at 237 16 = some (17, [1, 1, 1, 1], .iload_n 3, []) ∧ px_at 237 17 = some (18, [], .aload_n 0, []) ∧ px_at 237 18 = some (19, [], .iload_n 2, []) ∧ px_at 237 19 = some (22, [], .invokevirtual 180, [206, 1, 11, 253]) ∧ px_at 237 22 = some (25, [], .if_icmp .ge 25, [47]) ∧ px_at 237 25 = some (26, [], .aload_n 0, []) ∧ px_at 237 26 = some (27, [], .aload_n 0, []) ∧ px_at 237 27 = some (28, [], .iload_n 2, []) ∧ px_at 237 28 = some (29, [], .iload_n 3, []) ∧ px_at 237 29 = some (32, [], .invokevirtual 187, [207, 2, 11, 256]) ∧ px_at 237 32 = some (35, [], .invokevirtual 141, [194, 1, 11, 257]) ∧ px_at 237 35 = some (38, [], .ifCond .ne 6, [41]) ∧ px_at 237 38 = some (40, [], .bipush (-3), []) ∧ px_at 237 40 = some (41, [], .ireturn, [0]) ∧ px_at 237 41 = some (44, [], .iinc 3 1, []) ∧ px_at 237 44 = some (47, [], .goto (-28), [16]) ∧ px_at 237 47 = some (48, [], .aload_n 0, []) ∧ px_at 237 48 = some (51, [], .getfield 7, [11, 0, 2, 1, 125]) ∧ px_at 237 51 = some (52, [], .iconst 0, []) ∧ px_at 237 52 = some (53, [], .iconst 0, []) ∧ px_at 237 53 = some (54, [], .iastore, []) ∧ px_at 237 54 = some (55, [], .iconst 0, []) ∧ px_at 237 55 = some (56, [], .istore_n 3, []) ∧ px_at 237 56 = some (57, [1, 1, 1, 1], .iload_n 3, []) ∧ px_at 237 57 = some (58, [], .aload_n 0, []) ∧ px_at 237 58 = some (59, [], .iload_n 2, []) ∧ px_at 237 59 = some (62, [], .invokevirtual 180, [206, 1, 11, 253]) ∧ px_at 237 62 = some (65, [], .if_icmp .ge 25, [87]) ∧ px_at 237 65 = some (66, [], .aload_n 0, []) ∧ px_at 237 66 = some (67, [], .aload_n 0, []) ∧ px_at 237 67 = some (68, [], .iload_n 2, []) ∧ px_at 237 68 = some (69, [], .iload_n 3, []) ∧ px_at 237 69 = some (72, [], .invokevirtual 177, [205, 2, 11, 254]) ∧ px_at 237 72 = some (73, [], .aload_n 0, []) ∧ px_at 237 73 = some (74, [], .iload_n 2, []) ∧ px_at 237 74 = some (75, [], .iload_n 3, []) ∧ px_at 237 75 = some (78, [], .invokevirtual 187, [207, 2, 11, 256]) ∧ px_at 237 78 = some (81, [], .invokevirtual 286, [236, 2, 11, 277]) ∧ px_at 237 81 = some (84, [], .iinc 3 1, []) ∧ px_at 237 84 = some (87, [], .goto (-28), [56]) ∧ px_at 237 87 = some (88, [], .aload_n 0, []) ∧ px_at 237 88 = some (91, [], .getfield 7, [11, 0, 2, 1, 125]) ∧ px_at 237 91 = some (92, [], .iconst 1, []) ∧ px_at 237 92 = some (93, [], .iload_n 1, []) ∧ px_at 237 93 = some (94, [], .iastore, []) ∧ px_at 237 94 = some (95, [], .aload_n 0, []) ∧ px_at 237 95 = some (98, [], .getfield 7, [11, 0, 2, 1, 125]) ∧ px_at 237 98 = some (99, [], .iconst 2, []) ∧ px_at 237 99 = some (101, [], .bipush (-2), []) ∧ px_at 237 101 = some (102, [], .iastore, []) ∧ px_at 237 102 = some (103, [], .aload_n 0, []) ∧ px_at 237 103 = some (104, [], .iload_n 2, []) ∧ px_at 237 104 = some (107, [], .invokevirtual 180, [206, 1, 11, 253]) ∧ px_at 237 107 = some (108, [], .ireturn, [0]) := ⟨rfl, rfl, rfl, rfl, rfl, rfl, rfl, rfl, rfl, rfl, rfl, rfl, rfl, rfl, rfl, rfl, rfl, rfl, rfl, rfl, rfl, rfl, rfl, rfl, rfl, rfl, rfl, rfl, rfl, rfl, rfl, rfl, rfl, rfl, rfl, rfl, rfl, rfl, rfl, rfl, rfl, rfl, rfl, rfl, rfl, rfl, rfl, rfl, rfl, rfl, rfl, rfl, rfl, rfl, rfl, rfl, rfl, rfl, rfl, rfl, rfl, rfl, rfl, rfl, rfl⟩
/-! the reference: files come to the stage; rebuild -/
theorem rdC_rngT {Mc : px_mem} {F : Int → Int} (h : tieC Mc F) {c : Int} (c0 : 0 ≤ c) (c1 : c < 40) (c2 : 0 ≤ Mc 62 c) (hw : Mc 105 c ≠ 0) : ∀ b ∈ rdC Mc c, 0 ≤ b ∧ b < 256 :=
  (rB_len (tieC_rok h) c0 c1 c2 (tieC_bl h c0 c1 c2 hw).1).2.2
theorem tieC_f {Mc : px_mem} {F F' : Int → Int} (h : tieC Mc F) (hf : frf F' F) : tieC Mc F' := tieC_frame h (fun x x0 x1 => hf x (by omega) (by omega))
theorem TE_f {Mc : px_mem} {pl : Int → Int → List Int} {nm : Int → List Int} {F F' : Int → Int} (h : TE Mc pl nm F) (hf : frf F' F) : TE Mc pl nm F' := TE_frame h (hf 5 (by decide) (by omega)) (fun x x0 => hf x (by omega) (by omega))
section PS
variable {M : px_mem} {Q : Option pv → px_mem → Prop}
set_option maxHeartbeats 600000 in
set_option maxRecDepth 100000 in
theorem sp_comes {Mc : px_mem} {N a c : Int} {g : Int → fe} {p : List Int} (hT : tieC Mc (M 128)) (hst : sR (M 128) N g) (hso : srt N g) (hN : N < 12) (ha : pok (M 128) a 3154) (ha2 : 654 ≤ a) (hp : fp (M 128) a = p) (hok : okp p) (hpn : p ≠ []) (hne : ∀ j, 0 ≤ j → j < N → (g j).1 ≠ p) (hc : 0 ≤ c ∧ c < 40 ∧ 0 ≤ Mc 62 c) (hw : Mc 105 c ≠ 0) (h : ∀ M' g', sR (M' 128) (N + 1) g' → srt (N + 1) g' → (∀ y, isM (N + 1) g' y ↔ (isM N g y ∨ y = (p, rdC Mc c))) → frf (M' 128) (M 128) → frC M' M → Q none M') : px_Ok 236 [(2, 127), (0, a), (0, c)] LAY M Q := by
  refine px_ok_go (inl := []) (ls0 := [(2, 127), (0, a), (0, c), (9, 0)]) 60 (by decide) (Nat.le_of_ble_eq_true rfl) rfl ?_
  simp only [px_go, px_Q0_at, px_sx_0, px_sx_s, px_cl, px_step, ↓px_ll, px_lg, f4_, ↓px_r1, ↓px_r2, ↓px_r4, ↓px_r5, ↓px_p1, ↓px_p2, ↓px_p3, ↓px_pop, px_k_0, px_k_s, px_k3_0, px_stk_, px_cats, px_ent, px_st1, px_st2, px_mask, ↓px_tsw, ↓px_lsw, ct_, mls_0, mls_1, mls_2, mls_3, mls_4, mls_5, kd_0, kd_1, kd_2, kd_3, ln_0, ln_1, ln_2, ln_3, gf_0, gf_1, gf_2, gf_3, gf_4, gf_7, gf_21, gf_63, dy_0, dy_1, dy_2, dy_3, dy_7, dy_21, px_brT, px_brF, true_and, and_true, and_false, false_and, and_self, true_implies, false_implies, or_true, true_or, or_false, false_or, eq_self, ne_eq, not_false_eq_true, not_true_eq_false, if_true, if_false, List.mem_cons, List.not_mem_nil, List.length_cons, List.length_nil, Nat.reduceEqDiff, Nat.reduceAdd, Nat.reduceSub, Nat.reduceLeDiff, Nat.reduceLT, Int.reduceEq, Int.reduceLT, Int.reduceLE, Int.reduceNeg, Int.reduceAdd, Int.reduceSub, Int.reduceToNat, ↓reduceIte, one_ne_zero_, zero_ne_one_, px_in32L, cd_236]
  repeat' (first | (with_reducible apply And.intro) | (with_reducible refine px_br_intro (fun _ => ?_) (fun _ => ?_)))
  all_goals (try (first | (unfold px_in32; omega) | omega))
  refine sp_opens hst hso hN rfl ha (by decide) (Or.inr ha2) (by rw [hp]; exact hok) (fun M1 i i0 i1 a1 a2 a3 a4 => ?_)
  rw [hp] at a1 a2
  simp only [px_go, px_Q0_at, px_sx_0, px_sx_s, px_cl, px_step, ↓px_ll, px_lg, f4_, ↓px_r1, ↓px_r2, ↓px_r4, ↓px_r5, ↓px_p1, ↓px_p2, ↓px_p3, ↓px_pop, px_k_0, px_k_s, px_k3_0, px_stk_, px_cats, px_ent, px_st1, px_st2, px_mask, ↓px_tsw, ↓px_lsw, ct_, mls_0, mls_1, mls_2, mls_3, mls_4, mls_5, kd_0, kd_1, kd_2, kd_3, ln_0, ln_1, ln_2, ln_3, gf_0, gf_1, gf_2, gf_3, gf_4, gf_7, gf_21, gf_63, dy_0, dy_1, dy_2, dy_3, dy_7, dy_21, px_brT, px_brF, true_and, and_true, and_false, false_and, and_self, true_implies, false_implies, or_true, true_or, or_false, false_or, eq_self, ne_eq, not_false_eq_true, not_true_eq_false, if_true, if_false, List.mem_cons, List.not_mem_nil, List.length_cons, List.length_nil, Nat.reduceEqDiff, Nat.reduceAdd, Nat.reduceSub, Nat.reduceLeDiff, Nat.reduceLT, Int.reduceEq, Int.reduceLT, Int.reduceLE, Int.reduceNeg, Int.reduceAdd, Int.reduceSub, Int.reduceToNat, ↓reduceIte, one_ne_zero_, zero_ne_one_, px_in32L, cd_236]
  have ht1 : tieC Mc (M1 128) := tieC_f hT a3.2.2.2.2
  have hrl := rdC_len hT.1 hc.1 hc.2.1 hc.2.2
  refine sp_readsT ht1 hc (fun M2 _ b2 b3 b4 => ?_) (fun M2 b1' b4 => ?_)
  · have e128 := frd_128 b4
    simp only [px_go, px_Q0_at, px_sx_0, px_sx_s, px_cl, px_step, ↓px_ll, px_lg, f4_, ↓px_r1, ↓px_r2, ↓px_r4, ↓px_r5, ↓px_p1, ↓px_p2, ↓px_p3, ↓px_pop, px_k_0, px_k_s, px_k3_0, px_stk_, px_cats, px_ent, px_st1, px_st2, px_mask, ↓px_tsw, ↓px_lsw, ct_, mls_0, mls_1, mls_2, mls_3, mls_4, mls_5, kd_0, kd_1, kd_2, kd_3, ln_0, ln_1, ln_2, ln_3, gf_0, gf_1, gf_2, gf_3, gf_4, gf_7, gf_21, gf_63, dy_0, dy_1, dy_2, dy_3, dy_7, dy_21, px_brT, px_brF, true_and, and_true, and_false, false_and, and_self, true_implies, false_implies, or_true, true_or, or_false, false_or, eq_self, ne_eq, not_false_eq_true, not_true_eq_false, if_true, if_false, List.mem_cons, List.not_mem_nil, List.length_cons, List.length_nil, Nat.reduceEqDiff, Nat.reduceAdd, Nat.reduceSub, Nat.reduceLeDiff, Nat.reduceLT, Int.reduceEq, Int.reduceLT, Int.reduceLE, Int.reduceNeg, Int.reduceAdd, Int.reduceSub, Int.reduceToNat, ↓reduceIte, one_ne_zero_, zero_ne_one_, px_in32L, cd_236, b3]
    refine sp_fills ⟨i0, by omega⟩ rfl ⟨by rw [show px_ln LAY 134 = 40 from rfl]; omega, by decide⟩ (by decide) ⟨by omega, by omega⟩ (fun M3 d1 d2 => ?_)
    rw [b2, e128] at d1
    have hA := ins_all (x := (p, rdC Mc c)) hst hso hN i0 i1 a1 a2 hne a3 d1 ⟨hok, hpn, hrl.2, rdC_rngT hT hc.1 hc.2.1 hc.2.2 hw⟩ (pok_congr (b := a) (fun y y0 y1 => by rw [Int.zero_add]) ha ⟨Int.le_refl 0, by decide⟩) (by rw [← hp]; exact fp_congr (fun y y0 y1 => by rw [Int.zero_add]) ha.2.2.1)
    simp only [px_go, px_Q0_at, px_sx_0, px_sx_s, px_cl, px_step, ↓px_ll, px_lg, f4_, ↓px_r1, ↓px_r2, ↓px_r4, ↓px_r5, ↓px_p1, ↓px_p2, ↓px_p3, ↓px_pop, px_k_0, px_k_s, px_k3_0, px_stk_, px_cats, px_ent, px_st1, px_st2, px_mask, ↓px_tsw, ↓px_lsw, ct_, mls_0, mls_1, mls_2, mls_3, mls_4, mls_5, kd_0, kd_1, kd_2, kd_3, ln_0, ln_1, ln_2, ln_3, gf_0, gf_1, gf_2, gf_3, gf_4, gf_7, gf_21, gf_63, dy_0, dy_1, dy_2, dy_3, dy_7, dy_21, px_brT, px_brF, true_and, and_true, and_false, false_and, and_self, true_implies, false_implies, or_true, true_or, or_false, false_or, eq_self, ne_eq, not_false_eq_true, not_true_eq_false, if_true, if_false, List.mem_cons, List.not_mem_nil, List.length_cons, List.length_nil, Nat.reduceEqDiff, Nat.reduceAdd, Nat.reduceSub, Nat.reduceLeDiff, Nat.reduceLT, Int.reduceEq, Int.reduceLT, Int.reduceLE, Int.reduceNeg, Int.reduceAdd, Int.reduceSub, Int.reduceToNat, ↓reduceIte, one_ne_zero_, zero_ne_one_, px_in32L, cd_236]
    exact h M3 _ hA.1 hA.2.1 hA.2.2.1 hA.2.2.2 (frC_trans (fr8_C d2) (frC_trans (frE_C (frd_E b4)) (fr8_C a4)))
  · exfalso
    have := (tieC_bl hT hc.1 hc.2.1 hc.2.2 hw).1
    have hr := (tieC_read hT hc.1 hc.2.1 hc.2.2).1 _ this
    exact hr.1 b1'
def allW (Mc : px_mem) (s : Int) : Prop := ∀ j, 0 ≤ j → j < Mc (Mc 21 s) 2 → Mc 105 (Mc (Mc 21 s + 2) j) ≠ 0
set_option maxHeartbeats 600000 in
set_option maxRecDepth 100000 in
theorem lp_reb1 {M0 Mc : px_mem} {s num : Int} {pl : Int → Int → List Int} {nm : Int → List Int} (hT : TE Mc pl nm (M0 128)) (hs : 0 ≤ s ∧ s < Mc 20 1) (h3 : ∀ M', ¬ allW Mc s → frE M' M0 → Q (some (0, -3)) M') (hx : ∀ M', allW Mc s → frE M' M0 → px_WP 237 0 0 (px_Q0 LAY Q) 56 [(2, 127), (0, num), (0, s), (0, 0)] [] LAY (px_up M' 128 0 0) 0 0) (k : Int) (hk_k : k ≤ Mc (Mc 21 s) 2) : ∀ (M : px_mem), 0 ≤ k → (∀ j, 0 ≤ j → j < k → Mc 105 (Mc (Mc 21 s + 2) j) ≠ 0) → frE M M0 → px_WP 237 0 0 (px_Q0 LAY Q) 16 [(2, 127), (0, num), (0, s), (0, k)] [] LAY M 0 0 := by
  refine up_ind (P := fun k => ∀ (M : px_mem), 0 ≤ k → (∀ j, 0 ≤ j → j < k → Mc 105 (Mc (Mc 21 s + 2) j) ≠ 0) → frE M M0 → px_WP 237 0 0 (px_Q0 LAY Q) 16 [(2, 127), (0, num), (0, s), (0, k)] [] LAY M 0 0) (Mc (Mc 21 s) 2) (fun k hk_k ih => ?_) k hk_k
  intro M k0 hj hfr
  have e128 := frE_128 hfr
  have hTn := TE_n hT
  have he := TE_e hT hs.1 hs.2
  have e17 : M0 128 (1294 + 186 * s + 17) = Mc (Mc 21 s) 2 := he.2.2.2.2.1
  refine px_go_ok (inl := [204,205,206,207]) 60 ?_
  simp only [px_go, px_Q0_at, px_sx_0, px_sx_s, px_cl, px_step, ↓px_ll, px_lg, f4_, ↓px_r1, ↓px_r2, ↓px_r4, ↓px_r5, ↓px_p1, ↓px_p2, ↓px_p3, ↓px_pop, px_k_0, px_k_s, px_k3_0, px_stk_, px_cats, px_ent, px_st1, px_st2, px_mask, ↓px_tsw, ↓px_lsw, ct_, mls_0, mls_1, mls_2, mls_3, mls_4, mls_5, kd_0, kd_1, kd_2, kd_3, ln_0, ln_1, ln_2, ln_3, gf_0, gf_1, gf_2, gf_3, gf_4, gf_7, gf_21, gf_63, dy_0, dy_1, dy_2, dy_3, dy_7, dy_21, px_brT, px_brF, true_and, and_true, and_false, false_and, and_self, true_implies, false_implies, or_true, true_or, or_false, false_or, eq_self, ne_eq, not_false_eq_true, not_true_eq_false, if_true, if_false, List.mem_cons, List.not_mem_nil, List.length_cons, List.length_nil, Nat.reduceEqDiff, Nat.reduceAdd, Nat.reduceSub, Nat.reduceLeDiff, Nat.reduceLT, Int.reduceEq, Int.reduceLT, Int.reduceLE, Int.reduceNeg, Int.reduceAdd, Int.reduceSub, Int.reduceToNat, ↓reduceIte, one_ne_zero_, zero_ne_one_, px_in32L, cd_237, cd_204, cd_205, cd_206, cd_207, e128, e17]
  repeat' (first | (with_reducible apply And.intro) | (with_reducible refine px_br_intro (fun _ => ?_) (fun _ => ?_)))
  all_goals (try (first | (unfold px_in32; omega) | omega))
  · rename_i c1
    exact hx M (fun j j0 j1 => hj j j0 (by omega)) hfr
  · rename_i c1
    have en := TE_ent hT hs.1 hs.2 k0 (by omega)
    have ec : M0 128 (1294 + 186 * s + 18 + 14 * k + 13) = Mc (Mc 21 s + 2) k := en.1.2.2
    rw [ec]
    refine sp_wholeT (Mc := Mc) (by rw [e128]; exact hT.1) en.2.2.2 (fun M1 a1 _ _ a4 => ?_) (fun M1 a1 a4 => ?_)
    · simp only [px_go, px_Q0_at, px_sx_0, px_sx_s, px_cl, px_step, ↓px_ll, px_lg, f4_, ↓px_r1, ↓px_r2, ↓px_r4, ↓px_r5, ↓px_p1, ↓px_p2, ↓px_p3, ↓px_pop, px_k_0, px_k_s, px_k3_0, px_stk_, px_cats, px_ent, px_st1, px_st2, px_mask, ↓px_tsw, ↓px_lsw, ct_, mls_0, mls_1, mls_2, mls_3, mls_4, mls_5, kd_0, kd_1, kd_2, kd_3, ln_0, ln_1, ln_2, ln_3, gf_0, gf_1, gf_2, gf_3, gf_4, gf_7, gf_21, gf_63, dy_0, dy_1, dy_2, dy_3, dy_7, dy_21, px_brT, px_brF, true_and, and_true, and_false, false_and, and_self, true_implies, false_implies, or_true, true_or, or_false, false_or, eq_self, ne_eq, not_false_eq_true, not_true_eq_false, if_true, if_false, List.mem_cons, List.not_mem_nil, List.length_cons, List.length_nil, Nat.reduceEqDiff, Nat.reduceAdd, Nat.reduceSub, Nat.reduceLeDiff, Nat.reduceLT, Int.reduceEq, Int.reduceLT, Int.reduceLE, Int.reduceNeg, Int.reduceAdd, Int.reduceSub, Int.reduceToNat, ↓reduceIte, one_ne_zero_, zero_ne_one_, px_in32L, cd_237, cd_204, cd_205, cd_206, cd_207]
      repeat' (first | (with_reducible apply And.intro) | (with_reducible refine px_br_intro (fun _ => ?_) (fun _ => ?_)))
      all_goals (try (first | (unfold px_in32; omega) | omega))
      refine ih (by omega) M1 (by omega) (fun j j0 j1 => ?_) (frE_trans (frd_E a4) hfr)
      by_cases q : j = k
      · rw [q]; exact a1
      · exact hj j j0 (by omega)
    · simp only [px_go, px_Q0_at, px_sx_0, px_sx_s, px_cl, px_step, ↓px_ll, px_lg, f4_, ↓px_r1, ↓px_r2, ↓px_r4, ↓px_r5, ↓px_p1, ↓px_p2, ↓px_p3, ↓px_pop, px_k_0, px_k_s, px_k3_0, px_stk_, px_cats, px_ent, px_st1, px_st2, px_mask, ↓px_tsw, ↓px_lsw, ct_, mls_0, mls_1, mls_2, mls_3, mls_4, mls_5, kd_0, kd_1, kd_2, kd_3, ln_0, ln_1, ln_2, ln_3, gf_0, gf_1, gf_2, gf_3, gf_4, gf_7, gf_21, gf_63, dy_0, dy_1, dy_2, dy_3, dy_7, dy_21, px_brT, px_brF, true_and, and_true, and_false, false_and, and_self, true_implies, false_implies, or_true, true_or, or_false, false_or, eq_self, ne_eq, not_false_eq_true, not_true_eq_false, if_true, if_false, List.mem_cons, List.not_mem_nil, List.length_cons, List.length_nil, Nat.reduceEqDiff, Nat.reduceAdd, Nat.reduceSub, Nat.reduceLeDiff, Nat.reduceLT, Int.reduceEq, Int.reduceLT, Int.reduceLE, Int.reduceNeg, Int.reduceAdd, Int.reduceSub, Int.reduceToNat, ↓reduceIte, one_ne_zero_, zero_ne_one_, px_in32L, cd_237, cd_204, cd_205, cd_206, cd_207]
      exact h3 M1 (fun z => z k k0 (by omega) a1) (frE_trans (frd_E a4) hfr)
def rbG (Mc : px_mem) (pl : Int → Int → List Int) (s j : Int) : fe := (pl s j, rdC Mc (Mc (Mc 21 s + 2) j))
theorem rbG_srt {Mc : px_mem} {pl : Int → Int → List Int} {nm : Int → List Int} (hed : edA Mc pl nm) {s : Int} (s0 : 0 ≤ s) (s1 : s < Mc 20 1) : srt (Mc (Mc 21 s) 2) (rbG Mc pl s) := by
  intro a b a0 a1 b1'
  have h := hed.2 s s0 s1
  have ha := h.1.2.2 a a0 (by omega)
  have hb := h.1.2.2 b (by omega) b1'
  have hs := h.2.1 a b a0 a1 b1'
  rw [ha.2.1, hb.2.1] at hs
  exact hs
theorem pl_ne {Mc : px_mem} {pl : Int → Int → List Int} {nm : Int → List Int} (hed : edA Mc pl nm) {s a b : Int} (s0 : 0 ≤ s) (s1 : s < Mc 20 1) (a0 : 0 ≤ a) (a1 : a < b) (b1' : b < Mc (Mc 21 s) 2) : pl s a ≠ pl s b := fun e => by
  have := rbG_srt hed s0 s1 a b a0 a1 b1'
  unfold rbG at this
  simp only [e] at this
  omega
set_option maxHeartbeats 600000 in
set_option maxRecDepth 100000 in
theorem lp_reb2 {M0 Mc : px_mem} {s num : Int} {pl : Int → Int → List Int} {nm : Int → List Int} (hT : TE Mc pl nm (M0 128)) (hs : 0 ≤ s ∧ s < Mc 20 1) (hw : allW Mc s) (h1 : ∀ M', sR (M' 128) (Mc (Mc 21 s) 2) (rbG Mc pl s) → M' 128 1 = num → M' 128 2 = -2 → (∀ x, x ≠ 0 → x ≠ 1 → x ≠ 2 → ¬ (6 ≤ x ∧ x < 654) → M' 128 x = M0 128 x) → frC M' M0 → Q (some (0, Mc (Mc 21 s) 2)) M') (k : Int) (hk_k : k ≤ Mc (Mc 21 s) 2) : ∀ (M : px_mem) (g' : Int → fe), 0 ≤ k → sR (M 128) k g' → srt k g' → (∀ y, isM k g' y ↔ ∃ j, 0 ≤ j ∧ j < k ∧ y = rbG Mc pl s j) → frf (M 128) (M0 128) → frC M M0 → px_WP 237 0 0 (px_Q0 LAY Q) 56 [(2, 127), (0, num), (0, s), (0, k)] [] LAY M 0 0 := by
  refine up_ind (P := fun k => ∀ (M : px_mem) (g' : Int → fe), 0 ≤ k → sR (M 128) k g' → srt k g' → (∀ y, isM k g' y ↔ ∃ j, 0 ≤ j ∧ j < k ∧ y = rbG Mc pl s j) → frf (M 128) (M0 128) → frC M M0 → px_WP 237 0 0 (px_Q0 LAY Q) 56 [(2, 127), (0, num), (0, s), (0, k)] [] LAY M 0 0) (Mc (Mc 21 s) 2) (fun k hk_k ih => ?_) k hk_k
  intro M g' k0 hst hso hm hff hfr
  have hTM := TE_f hT hff
  have hTn := TE_n hTM
  have he := TE_e hTM hs.1 hs.2
  have e17 : M 128 (1294 + 186 * s + 17) = Mc (Mc 21 s) 2 := he.2.2.2.2.1
  refine px_go_ok (inl := [204,205,206,207]) 60 ?_
  simp only [px_go, px_Q0_at, px_sx_0, px_sx_s, px_cl, px_step, ↓px_ll, px_lg, f4_, ↓px_r1, ↓px_r2, ↓px_r4, ↓px_r5, ↓px_p1, ↓px_p2, ↓px_p3, ↓px_pop, px_k_0, px_k_s, px_k3_0, px_stk_, px_cats, px_ent, px_st1, px_st2, px_mask, ↓px_tsw, ↓px_lsw, ct_, mls_0, mls_1, mls_2, mls_3, mls_4, mls_5, kd_0, kd_1, kd_2, kd_3, ln_0, ln_1, ln_2, ln_3, gf_0, gf_1, gf_2, gf_3, gf_4, gf_7, gf_21, gf_63, dy_0, dy_1, dy_2, dy_3, dy_7, dy_21, px_brT, px_brF, true_and, and_true, and_false, false_and, and_self, true_implies, false_implies, or_true, true_or, or_false, false_or, eq_self, ne_eq, not_false_eq_true, not_true_eq_false, if_true, if_false, List.mem_cons, List.not_mem_nil, List.length_cons, List.length_nil, Nat.reduceEqDiff, Nat.reduceAdd, Nat.reduceSub, Nat.reduceLeDiff, Nat.reduceLT, Int.reduceEq, Int.reduceLT, Int.reduceLE, Int.reduceNeg, Int.reduceAdd, Int.reduceSub, Int.reduceToNat, ↓reduceIte, one_ne_zero_, zero_ne_one_, px_in32L, cd_237, cd_204, cd_205, cd_206, cd_207, e17]
  repeat' (first | (with_reducible apply And.intro) | (with_reducible refine px_br_intro (fun _ => ?_) (fun _ => ?_)))
  all_goals (try (first | (unfold px_in32; omega) | omega))
  · rename_i c1
    have e : k = Mc (Mc 21 s) 2 := by omega
    subst e
    have hsr := rbG_srt hT.2.1 hs.1 hs.2
    have hu := srt_uniq hst.2.1 hst.2.1 hsr hso (fun y => by
      rw [hm y]
      exact ⟨fun ⟨j, j0, j1, j2⟩ => ⟨j, j0, j1, j2.symm⟩, fun ⟨j, j0, j1, j2⟩ => ⟨j, j0, j1, j2.symm⟩⟩)
    have hst' := sR_congr hst hu.2
    have e18 : px_up (px_up M 128 1 num) 128 2 (-2) 128 (1294 + 186 * s + 17) = Mc (Mc 21 s) 2 := by
      rw [px_up_at, if_neg (by omega), px_up_at, if_neg (by omega)]; exact e17
    rw [e18]
    refine h1 _ (sR_frame hst' ?_ (fun x x0 x1 => ?_)) ?_ ?_ (fun x x0 x1 x2 x3 => ?_) (frC_trans (fr8_C (fun b b0 => by rw [row_ne b0, row_ne b0])) hfr)
    · rw [px_up_at, if_neg (by decide), px_up_at, if_neg (by decide)]
    · rw [px_up_at, if_neg (by omega), px_up_at, if_neg (by omega)]
    · rw [px_up_at, if_neg (by decide), px_up_at, if_pos ⟨rfl, rfl⟩]
    · rw [px_up_at, if_pos ⟨rfl, rfl⟩]
    · rw [px_up_at, if_neg (fun z => x2 z.2), px_up_at, if_neg (fun z => x1 z.2)]; exact hff x x0 x3
  · rename_i c1
    have en := TE_ent hTM hs.1 hs.2 k0 (by omega)
    have ec : M 128 (1294 + 186 * s + 18 + 14 * k + 13) = Mc (Mc 21 s + 2) k := en.1.2.2
    rw [ec]
    refine sp_comes (Mc := Mc) hTM.1 hst hso (by omega) en.1.1 (by omega) en.1.2.1 en.2.1 (isP_ne en.2.2.1) (fun j j0 j1 => ?_) en.2.2.2 (hw k k0 (by omega)) (fun M1 g1 a1 a2 a3 a4 a5 => ?_)
    · obtain ⟨i, i0, i1, i2⟩ := (hm (g' j)).mp ⟨j, j0, j1, rfl⟩
      rw [i2]
      exact pl_ne hT.2.1 hs.1 hs.2 i0 i1 (by omega)
    · simp only [px_go, px_Q0_at, px_sx_0, px_sx_s, px_cl, px_step, ↓px_ll, px_lg, f4_, ↓px_r1, ↓px_r2, ↓px_r4, ↓px_r5, ↓px_p1, ↓px_p2, ↓px_p3, ↓px_pop, px_k_0, px_k_s, px_k3_0, px_stk_, px_cats, px_ent, px_st1, px_st2, px_mask, ↓px_tsw, ↓px_lsw, ct_, mls_0, mls_1, mls_2, mls_3, mls_4, mls_5, kd_0, kd_1, kd_2, kd_3, ln_0, ln_1, ln_2, ln_3, gf_0, gf_1, gf_2, gf_3, gf_4, gf_7, gf_21, gf_63, dy_0, dy_1, dy_2, dy_3, dy_7, dy_21, px_brT, px_brF, true_and, and_true, and_false, false_and, and_self, true_implies, false_implies, or_true, true_or, or_false, false_or, eq_self, ne_eq, not_false_eq_true, not_true_eq_false, if_true, if_false, List.mem_cons, List.not_mem_nil, List.length_cons, List.length_nil, Nat.reduceEqDiff, Nat.reduceAdd, Nat.reduceSub, Nat.reduceLeDiff, Nat.reduceLT, Int.reduceEq, Int.reduceLT, Int.reduceLE, Int.reduceNeg, Int.reduceAdd, Int.reduceSub, Int.reduceToNat, ↓reduceIte, one_ne_zero_, zero_ne_one_, px_in32L, cd_237, cd_204, cd_205, cd_206, cd_207]
      repeat' (first | (with_reducible apply And.intro) | (with_reducible refine px_br_intro (fun _ => ?_) (fun _ => ?_)))
      all_goals (try (first | (unfold px_in32; omega) | omega))
      refine ih (by omega) M1 g1 (by omega) a1 a2 (fun y => ?_) (frf_trans a4 hff) (frC_trans a5 hfr)
      rw [a3 y, hm y]
      constructor
      · rintro (⟨j, j0, j1, j2⟩ | z)
        · exact ⟨j, j0, by omega, j2⟩
        · exact ⟨k, k0, by omega, z⟩
      · rintro ⟨j, j0, j1, j2⟩
        by_cases q : j = k
        · right; rw [q] at j2; exact j2
        · exact Or.inl ⟨j, j0, by omega, j2⟩
set_option maxHeartbeats 600000 in
set_option maxRecDepth 100000 in
theorem sp_rrebuild {Mc : px_mem} {num N0 : Int} {pl : Int → Int → List Int} {nm : Int → List Int} {g0 : Int → fe} (hT : TE Mc pl nm (M 128)) (hst : sR (M 128) N0 g0) (h2 : slot Mc num < 0 → Q (some (0, -2)) M) (h3 : ∀ M', 0 ≤ slot Mc num → ¬ allW Mc (slot Mc num) → M' 128 = M 128 → out M' M → Q (some (0, -3)) M') (h1 : ∀ M', 0 ≤ slot Mc num → slot Mc num < Mc 20 1 → allW Mc (slot Mc num) → sR (M' 128) (Mc (Mc 21 (slot Mc num)) 2) (rbG Mc pl (slot Mc num)) → M' 128 1 = num → M' 128 2 = -2 → (∀ x, x ≠ 0 → x ≠ 1 → x ≠ 2 → ¬ (6 ≤ x ∧ x < 654) → M' 128 x = M 128 x) → out M' M → Q (some (0, Mc (Mc 21 (slot Mc num)) 2)) M') : px_Ok 237 [(2, 127), (0, num)] LAY M Q := by
  have hsb := slot_bd Mc num
  refine px_ok_go (inl := []) (ls0 := [(2, 127), (0, num), (9, 0), (9, 0)]) 60 (by decide) (Nat.le_of_ble_eq_true rfl) rfl ?_
  simp only [px_go, px_Q0_at, px_sx_0, px_sx_s, px_cl, px_step, ↓px_ll, px_lg, f4_, ↓px_r1, ↓px_r2, ↓px_r4, ↓px_r5, ↓px_p1, ↓px_p2, ↓px_p3, ↓px_pop, px_k_0, px_k_s, px_k3_0, px_stk_, px_cats, px_ent, px_st1, px_st2, px_mask, ↓px_tsw, ↓px_lsw, ct_, mls_0, mls_1, mls_2, mls_3, mls_4, mls_5, kd_0, kd_1, kd_2, kd_3, ln_0, ln_1, ln_2, ln_3, gf_0, gf_1, gf_2, gf_3, gf_4, gf_7, gf_21, gf_63, dy_0, dy_1, dy_2, dy_3, dy_7, dy_21, px_brT, px_brF, true_and, and_true, and_false, false_and, and_self, true_implies, false_implies, or_true, true_or, or_false, false_or, eq_self, ne_eq, not_false_eq_true, not_true_eq_false, if_true, if_false, List.mem_cons, List.not_mem_nil, List.length_cons, List.length_nil, Nat.reduceEqDiff, Nat.reduceAdd, Nat.reduceSub, Nat.reduceLeDiff, Nat.reduceLT, Int.reduceEq, Int.reduceLT, Int.reduceLE, Int.reduceNeg, Int.reduceAdd, Int.reduceSub, Int.reduceToNat, ↓reduceIte, one_ne_zero_, zero_ne_one_, px_in32L, cd_237]
  repeat' (first | (with_reducible apply And.intro) | (with_reducible refine px_br_intro (fun _ => ?_) (fun _ => ?_)))
  all_goals (try (first | (unfold px_in32; omega) | omega))
  refine sp_slotT hT ?_
  generalize slot Mc num = s at *
  simp only [px_go, px_Q0_at, px_sx_0, px_sx_s, px_cl, px_step, ↓px_ll, px_lg, f4_, ↓px_r1, ↓px_r2, ↓px_r4, ↓px_r5, ↓px_p1, ↓px_p2, ↓px_p3, ↓px_pop, px_k_0, px_k_s, px_k3_0, px_stk_, px_cats, px_ent, px_st1, px_st2, px_mask, ↓px_tsw, ↓px_lsw, ct_, mls_0, mls_1, mls_2, mls_3, mls_4, mls_5, kd_0, kd_1, kd_2, kd_3, ln_0, ln_1, ln_2, ln_3, gf_0, gf_1, gf_2, gf_3, gf_4, gf_7, gf_21, gf_63, dy_0, dy_1, dy_2, dy_3, dy_7, dy_21, px_brT, px_brF, true_and, and_true, and_false, false_and, and_self, true_implies, false_implies, or_true, true_or, or_false, false_or, eq_self, ne_eq, not_false_eq_true, not_true_eq_false, if_true, if_false, List.mem_cons, List.not_mem_nil, List.length_cons, List.length_nil, Nat.reduceEqDiff, Nat.reduceAdd, Nat.reduceSub, Nat.reduceLeDiff, Nat.reduceLT, Int.reduceEq, Int.reduceLT, Int.reduceLE, Int.reduceNeg, Int.reduceAdd, Int.reduceSub, Int.reduceToNat, ↓reduceIte, one_ne_zero_, zero_ne_one_, px_in32L, cd_237]
  repeat' (first | (with_reducible apply And.intro) | (with_reducible refine px_br_intro (fun _ => ?_) (fun _ => ?_)))
  · rename_i c1
    exact h2 (by omega)
  · rename_i c1
    have hs : 0 ≤ s ∧ s < Mc 20 1 := by omega
    refine lp_reb1 (M0 := M) hT hs (fun M' z f => h3 M' hs.1 z (frE_128 f) (frE_out f)) (fun M' z f => ?_) 0 (TE_e hT hs.1 hs.2).2.2.2.2.2.1 M (Int.le_refl 0) (fun j j0 j1 => by omega) (frE_refl M)
    have e128 := frE_128 f
    refine lp_reb2 (M0 := M) hT hs z (fun M2 a1 a2 a3 a4 a5 => h1 M2 hs.1 hs.2 z a1 a2 a3 a4 (frC_out a5)) 0 (TE_e hT hs.1 hs.2).2.2.2.2.2.1 _ (fun _ => ([], [])) (Int.le_refl 0) ⟨by rw [px_up_at, if_pos ⟨rfl, rfl⟩], Int.le_refl 0, by decide, fun i i0 i1 => by omega⟩ (fun a b a0 a1 b1' => by omega) (fun y => ⟨fun ⟨j, j0, j1, _⟩ => by omega, fun ⟨j, j0, j1, _⟩ => by omega⟩) (fun x x0 x1 => by rw [px_up_at, if_neg (fun z => x0 z.2), e128]) (frC_trans (fr8_C (fun b b0 => row_ne b0)) (frE_C f))
end PS
