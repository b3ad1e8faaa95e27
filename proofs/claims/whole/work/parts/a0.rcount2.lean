set_option maxRecDepth 100000 in
/-- X12_longestFree -/
theorem cd_284 : px_at 284 0 = some (1, [], .aload_n 0, []) ∧ px_at 284 1 = some (4, [], .invokevirtual 161, [201, 0, 11, 273]) ∧ px_at 284 4 = some (5, [], .iconst 0, []) ∧ px_at 284 5 = some (6, [], .istore_n 1, []) ∧ px_at 284 6 = some (7, [], .iconst 0, []) ∧ px_at 284 7 = some (8, [], .istore_n 2, []) ∧ px_at 284 8 = some (9, [], .iconst 0, []) ∧ px_at 284 9 = some (10, [], .istore_n 3, []) ∧ px_at 284 10 = some (11, [1, 1, 1, 1], .iload_n 3, []) ∧ px_at 284 11 = some (14, [], .sipush 400, []) ∧ px_at 284 14 = some (17, [], .if_icmp .ge 32, [46]) ∧ px_at 284 17 = some (18, [], .aload_n 0, []) ∧ px_at 284 18 = some (21, [], .getfield 47, [11, 18, 2, 1, 143]) ∧ px_at 284 21 = some (22, [], .iload_n 3, []) ∧ px_at 284 22 = some (23, [], .baload, []) ∧ px_at 284 23 = some (26, [], .ifCond .eq 7, [30]) ∧ px_at 284 26 = some (27, [], .iconst 0, []) ∧ px_at 284 27 = some (30, [], .goto 6, [33]) ∧ px_at 284 30 = some (31, [], .iload_n 2, []) ∧ px_at 284 31 = some (32, [], .iconst 1, []) ∧ px_at 284 32 = some (33, [], .iadd, []) ∧ px_at 284 33 = some (34, [], .istore_n 2, []) ∧ px_at 284 34 = some (35, [], .iload_n 1, []) ∧ px_at 284 35 = some (36, [], .iload_n 2, []) ∧ px_at 284 36 = some (39, [], .invokestatic 383, [172, 2, 11, 332]) ∧ px_at 284 39 = some (40, [], .istore_n 1, []) ∧ px_at 284 40 = some (43, [], .iinc 3 1, []) ∧ px_at 284 43 = some (46, [], .goto (-33), [10]) ∧ px_at 284 46 = some (47, [], .iload_n 1, []) ∧ px_at 284 47 = some (48, [], .ireturn, [0]) := ⟨rfl, rfl, rfl, rfl, rfl, rfl, rfl, rfl, rfl, rfl, rfl, rfl, rfl, rfl, rfl, rfl, rfl, rfl, rfl, rfl, rfl, rfl, rfl, rfl, rfl, rfl, rfl, rfl, rfl, rfl⟩
set_option maxRecDepth 100000 in
/-- X12_bytesOf -/
theorem cd_286 : px_at 286 0 = some (1, [], .iconst 0, []) ∧ px_at 286 1 = some (2, [], .istore_n 2, []) ∧ px_at 286 2 = some (3, [], .iconst 0, []) ∧ px_at 286 3 = some (4, [], .istore_n 3, []) ∧ px_at 286 4 = some (5, [1, 1, 1, 1], .iload_n 3, []) ∧ px_at 286 5 = some (6, [], .aload_n 0, []) ∧ px_at 286 6 = some (7, [], .iload_n 1, []) ∧ px_at 286 7 = some (10, [], .invokevirtual 180, [206, 1, 11, 253]) ∧ px_at 286 10 = some (13, [], .if_icmp .ge 23, [33]) ∧ px_at 286 13 = some (14, [], .iload_n 2, []) ∧ px_at 286 14 = some (15, [], .aload_n 0, []) ∧ px_at 286 15 = some (16, [], .aload_n 0, []) ∧ px_at 286 16 = some (17, [], .iload_n 1, []) ∧ px_at 286 17 = some (18, [], .iload_n 3, []) ∧ px_at 286 18 = some (21, [], .invokevirtual 187, [207, 2, 11, 256]) ∧ px_at 286 21 = some (22, [], .iconst 1, []) ∧ px_at 286 22 = some (25, [], .invokevirtual 109, [187, 2, 11, 259]) ∧ px_at 286 25 = some (26, [], .iadd, []) ∧ px_at 286 26 = some (27, [], .istore_n 2, []) ∧ px_at 286 27 = some (30, [], .iinc 3 1, []) ∧ px_at 286 30 = some (33, [], .goto (-26), [4]) ∧ px_at 286 33 = some (34, [], .iload_n 2, []) ∧ px_at 286 34 = some (35, [], .ireturn, [0]) := ⟨rfl, rfl, rfl, rfl, rfl, rfl, rfl, rfl, rfl, rfl, rfl, rfl, rfl, rfl, rfl, rfl, rfl, rfl, rfl, rfl, rfl, rfl, rfl⟩
/-! the reference: counts, second half -/
noncomputable def cntR (M Mc : px_mem) (w : Int) : Int := if w = 0 then M 128 0 else if w = 1 then M 128 1 else if w = 2 then M 128 2 else if w = 3 then Mc 20 1 else if w = 4 then M 128 3 else if w = 5 then sm 40 (cbF Mc 0) else if w = 6 then sm 40 (fun c => if 0 ≤ Mc 62 c then Mc 60 c else 0) else if w = 7 then lg (fun k => Mc 54 k < 0) 400 else if w = 8 then sm 40 (cbF Mc 1) else if w = 9 then tcN Mc (Mc 20 1) else if w = 10 then cbN Mc (Mc 20 1) else if w = 11 then M 127 3 else if w = 12 then sm 40 (cbF Mc 2) else if w = 13 then mx (Mc 62) 40 else if w = 14 then M 128 4 else -1
theorem cbN_s9 {M : px_mem} {i : Int} (h : 0 ≤ i) : cbN M (i + 1) = cbN M i + cbJ M i (nfC M i) := sm_s h _
section PS
variable {M : px_mem} {Q : Option pv → px_mem → Prop}
set_option maxHeartbeats 600000 in
set_option maxRecDepth 100000 in
theorem lp_longF {p : Int → Prop} (hm : mkd M p) (h : Q (some (0, lg (fun x => ¬ p x) 400)) M) (k : Int) (hk_k : k ≤ 400) : 0 ≤ k → px_WP 284 0 0 (px_Q0 LAY Q) 10 [(2, 127), (0, lg (fun x => ¬ p x) k), (0, fr (fun x => ¬ p x) k), (0, k)] [] LAY M 0 0 := by
  refine up_ind (P := fun k => 0 ≤ k → px_WP 284 0 0 (px_Q0 LAY Q) 10 [(2, 127), (0, lg (fun x => ¬ p x) k), (0, fr (fun x => ¬ p x) k), (0, k)] [] LAY M 0 0) (400) (fun k hk_k ih => ?_) k hk_k
  intro k0
  have hs := lg_s (p := fun x => ¬ p x) k0
  have hr := lg_rng (fun x => ¬ p x) k0
  have hfr := fr_rng (fun x => ¬ p x) k0
  have hmk := hm k k0
  have ht := fun z => fr_t (p := fun x => ¬ p x) k0 z
  have hf := fun z => fr_f (p := fun x => ¬ p x) k0 z
  have hgo : k < 400 → ∀ x y, y = fr (fun x => ¬ p x) (k + 1) → x = max (lg (fun x => ¬ p x) k) y → px_WP 284 0 0 (px_Q0 LAY Q) 10 [(2, 127), (0, x), (0, y), (0, k + 1)] [] LAY M 0 0 := fun q x y ey ex => by
    have := ih q (by omega)
    rw [hs, ← ey, ← ex] at this
    exact this
  refine px_go_ok (inl := [172]) 60 ?_
  simp only [px_go, px_Q0_at, px_sx_0, px_sx_s, px_cl, px_step, ↓px_ll, px_lg, f4_, ↓px_r1, ↓px_r2, ↓px_r4, ↓px_r5, ↓px_p1, ↓px_p2, ↓px_p3, ↓px_pop, px_k_0, px_k_s, px_k3_0, px_stk_, px_cats, px_ent, px_st1, px_st2, px_mask, ↓px_tsw, ↓px_lsw, ct_, mls_0, mls_1, mls_2, mls_3, mls_4, mls_5, kd_0, kd_1, kd_2, kd_3, ln_0, ln_1, ln_2, ln_3, gf_0, gf_1, gf_2, gf_3, gf_4, gf_7, gf_21, gf_63, dy_0, dy_1, dy_2, dy_3, dy_7, dy_21, px_brT, px_brF, true_and, and_true, and_false, false_and, and_self, true_implies, false_implies, or_true, true_or, or_false, false_or, eq_self, ne_eq, not_false_eq_true, not_true_eq_false, if_true, if_false, List.mem_cons, List.not_mem_nil, List.length_cons, List.length_nil, Nat.reduceEqDiff, Nat.reduceAdd, Nat.reduceSub, Nat.reduceLeDiff, Nat.reduceLT, Int.reduceEq, Int.reduceLT, Int.reduceLE, Int.reduceNeg, Int.reduceAdd, Int.reduceSub, Int.reduceToNat, ↓reduceIte, one_ne_zero_, zero_ne_one_, px_in32L, cd_284, cd_172]
  repeat' (first | (with_reducible apply And.intro) | (with_reducible refine px_br_intro (fun _ => ?_) (fun _ => ?_)))
  all_goals (try (first | (unfold px_in32; omega) | omega))
  · rename_i c1
    rw [show k = 400 by omega]; exact h
  all_goals
    have hmk2 := hmk (by omega)
  · rename_i c1 c2 c3
    have e := ht (fun z => by rcases hmk2 with y | y
                              · exact y.2 z
                              · omega)
    exact hgo (by omega) _ _ e.symm (by omega)
  · rename_i c1 c2 c3
    have e := ht (fun z => by rcases hmk2 with y | y
                              · exact y.2 z
                              · omega)
    exact hgo (by omega) _ _ e.symm (by omega)
  · rename_i c1 c2 c3
    have e := hf (fun z => by rcases hmk2 with y | y
                              · omega
                              · exact z y.2)
    exact hgo (by omega) _ _ e.symm (by omega)
  · rename_i c1 c2 c3
    have e := hf (fun z => by rcases hmk2 with y | y
                              · omega
                              · exact z y.2)
    exact hgo (by omega) _ _ e.symm (by omega)
set_option maxHeartbeats 600000 in
set_option maxRecDepth 100000 in
theorem sp_longF {Mc : px_mem} (hT : tieC Mc (M 128)) (h : ∀ M', M' 128 = M 128 → out M' M → Q (some (0, lg (fun k => Mc 54 k < 0) 400)) M') : px_Ok 284 [(2, 127)] LAY M Q := by
  refine px_ok_go (inl := []) (ls0 := [(2, 127), (9, 0), (9, 0), (9, 0)]) 60 (by decide) (Nat.le_of_ble_eq_true rfl) rfl ?_
  simp only [px_go, px_Q0_at, px_sx_0, px_sx_s, px_cl, px_step, ↓px_ll, px_lg, f4_, ↓px_r1, ↓px_r2, ↓px_r4, ↓px_r5, ↓px_p1, ↓px_p2, ↓px_p3, ↓px_pop, px_k_0, px_k_s, px_k3_0, px_stk_, px_cats, px_ent, px_st1, px_st2, px_mask, ↓px_tsw, ↓px_lsw, ct_, mls_0, mls_1, mls_2, mls_3, mls_4, mls_5, kd_0, kd_1, kd_2, kd_3, ln_0, ln_1, ln_2, ln_3, gf_0, gf_1, gf_2, gf_3, gf_4, gf_7, gf_21, gf_63, dy_0, dy_1, dy_2, dy_3, dy_7, dy_21, px_brT, px_brF, true_and, and_true, and_false, false_and, and_self, true_implies, false_implies, or_true, true_or, or_false, false_or, eq_self, ne_eq, not_false_eq_true, not_true_eq_false, if_true, if_false, List.mem_cons, List.not_mem_nil, List.length_cons, List.length_nil, Nat.reduceEqDiff, Nat.reduceAdd, Nat.reduceSub, Nat.reduceLeDiff, Nat.reduceLT, Int.reduceEq, Int.reduceLT, Int.reduceLE, Int.reduceNeg, Int.reduceAdd, Int.reduceSub, Int.reduceToNat, ↓reduceIte, one_ne_zero_, zero_ne_one_, px_in32L, cd_284]
  repeat' (first | (with_reducible apply And.intro) | (with_reducible refine px_br_intro (fun _ => ?_) (fun _ => ?_)))
  all_goals (try (first | (unfold px_in32; omega) | omega))
  refine sp_marksTaken (tieC_rok hT) (tieC_rus hT) (fun M1 a1 a2 => ?_)
  simp only [px_go, px_Q0_at, px_sx_0, px_sx_s, px_cl, px_step, ↓px_ll, px_lg, f4_, ↓px_r1, ↓px_r2, ↓px_r4, ↓px_r5, ↓px_p1, ↓px_p2, ↓px_p3, ↓px_pop, px_k_0, px_k_s, px_k3_0, px_stk_, px_cats, px_ent, px_st1, px_st2, px_mask, ↓px_tsw, ↓px_lsw, ct_, mls_0, mls_1, mls_2, mls_3, mls_4, mls_5, kd_0, kd_1, kd_2, kd_3, ln_0, ln_1, ln_2, ln_3, gf_0, gf_1, gf_2, gf_3, gf_4, gf_7, gf_21, gf_63, dy_0, dy_1, dy_2, dy_3, dy_7, dy_21, px_brT, px_brF, true_and, and_true, and_false, false_and, and_self, true_implies, false_implies, or_true, true_or, or_false, false_or, eq_self, ne_eq, not_false_eq_true, not_true_eq_false, if_true, if_false, List.mem_cons, List.not_mem_nil, List.length_cons, List.length_nil, Nat.reduceEqDiff, Nat.reduceAdd, Nat.reduceSub, Nat.reduceLeDiff, Nat.reduceLT, Int.reduceEq, Int.reduceLT, Int.reduceLE, Int.reduceNeg, Int.reduceAdd, Int.reduceSub, Int.reduceToNat, ↓reduceIte, one_ne_zero_, zero_ne_one_, px_in32L, cd_284]
  have e : lg (fun x => ¬ occ (M 128) (Mc 62) x) 400 = lg (fun k => Mc 54 k < 0) 400 := lg_congr (by decide) (fun j j0 j1 => tieC_occ hT j0 j1)
  refine lp_longF a1 ?_ 0 (by decide) (Int.le_refl 0)
  rw [e]
  exact h M1 (a2 128 (by decide)) ⟨fun b b0 => a2 b (by omega), a2 130 (by decide), by rw [a2 127 (by decide)]⟩
set_option maxHeartbeats 600000 in
set_option maxRecDepth 100000 in
theorem lp_bytesOf {Mc : px_mem} {i : Int} {pl : Int → Int → List Int} {nm : Int → List Int} (hT : TE Mc pl nm (M 128)) (hi : 0 ≤ i ∧ i < Mc 20 1) (h : Q (some (0, cbJ Mc i (nfC Mc i))) M) (j : Int) (hk_j : j ≤ nfC Mc i) : 0 ≤ j → px_WP 286 0 0 (px_Q0 LAY Q) 4 [(2, 127), (0, i), (0, cbJ Mc i j), (0, j)] [] LAY M 0 0 := by
  refine up_ind (P := fun j => 0 ≤ j → px_WP 286 0 0 (px_Q0 LAY Q) 4 [(2, 127), (0, i), (0, cbJ Mc i j), (0, j)] [] LAY M 0 0) (nfC Mc i) (fun j hk_j ih => ?_) j hk_j
  intro j0
  have hTn := TE_n hT
  have hl := TE_lsA hT hi.1 hi.2
  have e17 : M 128 (1294 + 186 * i + 17) = nfC Mc i := hl.1
  have hs : cbJ Mc i (j + 1) = cbJ Mc i j + Mc 57 (cfC Mc i j) := sm_s j0 _
  have hlk : ∀ k, 0 ≤ k → k < nfC Mc i → 0 ≤ Mc 57 (cfC Mc i k) ∧ Mc 57 (cfC Mc i k) ≤ 40 := fun k k0 k1 => by
    have en := TE_ent hT hi.1 hi.2 k0 k1
    have := cokC (hT.1.1.1 _ en.2.2.2.1 en.2.2.2.2.1 en.2.2.2.2.2)
    have e : cfC Mc i k = Mc (Mc 21 i + 2) k := rfl
    rw [e]
    exact ⟨by omega, by omega⟩
  have hb : 0 ≤ cbJ Mc i j ∧ cbJ Mc i j ≤ j * 40 := sm_bnd j0 (fun k k0 k1 => hlk k k0 (by omega))
  refine px_go_ok (inl := [204,205,206,207,187]) 60 ?_
  simp only [px_go, px_Q0_at, px_sx_0, px_sx_s, px_cl, px_step, ↓px_ll, px_lg, f4_, ↓px_r1, ↓px_r2, ↓px_r4, ↓px_r5, ↓px_p1, ↓px_p2, ↓px_p3, ↓px_pop, px_k_0, px_k_s, px_k3_0, px_stk_, px_cats, px_ent, px_st1, px_st2, px_mask, ↓px_tsw, ↓px_lsw, ct_, mls_0, mls_1, mls_2, mls_3, mls_4, mls_5, kd_0, kd_1, kd_2, kd_3, ln_0, ln_1, ln_2, ln_3, gf_0, gf_1, gf_2, gf_3, gf_4, gf_7, gf_21, gf_63, dy_0, dy_1, dy_2, dy_3, dy_7, dy_21, px_brT, px_brF, true_and, and_true, and_false, false_and, and_self, true_implies, false_implies, or_true, true_or, or_false, false_or, eq_self, ne_eq, not_false_eq_true, not_true_eq_false, if_true, if_false, List.mem_cons, List.not_mem_nil, List.length_cons, List.length_nil, Nat.reduceEqDiff, Nat.reduceAdd, Nat.reduceSub, Nat.reduceLeDiff, Nat.reduceLT, Int.reduceEq, Int.reduceLT, Int.reduceLE, Int.reduceNeg, Int.reduceAdd, Int.reduceSub, Int.reduceToNat, ↓reduceIte, one_ne_zero_, zero_ne_one_, px_in32L, cd_286, cd_204, cd_205, cd_206, cd_207, cd_187, e17]
  repeat' (first | (with_reducible apply And.intro) | (with_reducible refine px_br_intro (fun _ => ?_) (fun _ => ?_)))
  all_goals (try (first | (unfold px_in32; omega) | omega))
  · rename_i c1
    rw [show j = nfC Mc i by omega]; exact h
  all_goals
    have en := TE_ent hT hi.1 hi.2 j0 (show j < Mc (Mc 21 i) 2 by have : nfC Mc i = Mc (Mc 21 i) 2 := rfl; omega)
    have ec : M 128 (1294 + 186 * i + 18 + 14 * j + 13) = cfC Mc i j := en.1.2.2
    have en4 : 0 ≤ cfC Mc i j ∧ cfC Mc i j < 40 := ⟨en.2.2.2.1, en.2.2.2.2.1⟩
    have e57 : M 128 (654 + 6 * cfC Mc i j + 1) = Mc 57 (cfC Mc i j) := (tieC_p hT.1 en.2.2.2.1 en.2.2.2.2.1 en.2.2.2.2.2).1
    have hlj := hlk j j0 (by omega)
    rw [ec]
  all_goals (try (first | (unfold px_in32; omega) | omega))
  all_goals rw [e57]
  · have := ih (by omega) (by omega)
    rw [hs] at this
    exact this
set_option maxHeartbeats 600000 in
set_option maxRecDepth 100000 in
theorem sp_bytesOf {Mc : px_mem} {i : Int} {pl : Int → Int → List Int} {nm : Int → List Int} (hT : TE Mc pl nm (M 128)) (hi : 0 ≤ i ∧ i < Mc 20 1) (h : Q (some (0, cbJ Mc i (nfC Mc i))) M) : px_Ok 286 [(2, 127), (0, i)] LAY M Q := by
  refine px_ok_go (inl := []) (ls0 := [(2, 127), (0, i), (9, 0), (9, 0)]) 60 (by decide) (Nat.le_of_ble_eq_true rfl) rfl ?_
  simp only [px_go, px_Q0_at, px_sx_0, px_sx_s, px_cl, px_step, ↓px_ll, px_lg, f4_, ↓px_r1, ↓px_r2, ↓px_r4, ↓px_r5, ↓px_p1, ↓px_p2, ↓px_p3, ↓px_pop, px_k_0, px_k_s, px_k3_0, px_stk_, px_cats, px_ent, px_st1, px_st2, px_mask, ↓px_tsw, ↓px_lsw, ct_, mls_0, mls_1, mls_2, mls_3, mls_4, mls_5, kd_0, kd_1, kd_2, kd_3, ln_0, ln_1, ln_2, ln_3, gf_0, gf_1, gf_2, gf_3, gf_4, gf_7, gf_21, gf_63, dy_0, dy_1, dy_2, dy_3, dy_7, dy_21, px_brT, px_brF, true_and, and_true, and_false, false_and, and_self, true_implies, false_implies, or_true, true_or, or_false, false_or, eq_self, ne_eq, not_false_eq_true, not_true_eq_false, if_true, if_false, List.mem_cons, List.not_mem_nil, List.length_cons, List.length_nil, Nat.reduceEqDiff, Nat.reduceAdd, Nat.reduceSub, Nat.reduceLeDiff, Nat.reduceLT, Int.reduceEq, Int.reduceLT, Int.reduceLE, Int.reduceNeg, Int.reduceAdd, Int.reduceSub, Int.reduceToNat, ↓reduceIte, one_ne_zero_, zero_ne_one_, px_in32L, cd_286]
  repeat' (first | (with_reducible apply And.intro) | (with_reducible refine px_br_intro (fun _ => ?_) (fun _ => ?_)))
  all_goals (try (first | (unfold px_in32; omega) | omega))
  exact lp_bytesOf hT hi h 0 (TE_lsA hT hi.1 hi.2).2.1 (Int.le_refl 0)
end PS
