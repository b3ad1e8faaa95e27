set_option maxRecDepth 100000 in
/-- X12_thrift -/
theorem cd_269 : px_at 269 0 = some (1, [], .aload_n 0, []) ∧ px_at 269 1 = some (4, [], .invokevirtual 362, [267, 0, 11, 314]) ∧ px_at 269 4 = some (5, [], .istore_n 1, []) ∧ px_at 269 5 = some (6, [], .aload_n 0, []) ∧ px_at 269 6 = some (9, [], .invokevirtual 273, [175, 0, 11, 264]) ∧ px_at 269 9 = some (10, [], .iconst 0, []) ∧ px_at 269 10 = some (11, [], .istore_n 2, []) ∧ px_at 269 11 = some (12, [1, 1, 1, 0], .iload_n 2, []) ∧ px_at 269 12 = some (14, [], .bipush 40, []) ∧ px_at 269 14 = some (17, [], .if_icmp .ge 16, [30]) ∧ px_at 269 17 = some (18, [], .aload_n 0, []) ∧ px_at 269 18 = some (19, [], .iload_n 2, []) ∧ px_at 269 19 = some (20, [], .iconst 0, []) ∧ px_at 269 20 = some (21, [], .iconst 0, []) ∧ px_at 269 21 = some (24, [], .invokevirtual 170, [188, 3, 11, 274]) ∧ px_at 269 24 = some (27, [], .iinc 2 1, []) ∧ px_at 269 27 = some (30, [], .goto (-16), [11]) ∧ px_at 269 30 = some (31, [], .iload_n 1, []) ∧ px_at 269 31 = some (34, [], .ifCond .eq 7, [38]) ∧ px_at 269 34 = some (35, [], .iconst 0, []) ∧ px_at 269 35 = some (38, [], .goto 5, [40]) ∧ px_at 269 38 = some (40, [], .bipush (-2), []) ∧ px_at 269 40 = some (41, [], .istore_n 2, []) ∧ px_at 269 41 = some (42, [], .iconst 0, []) ∧ px_at 269 42 = some (43, [], .istore_n 3, []) ∧ px_at 269 43 = some (44, [1, 0, 1, 1], .iload_n 3, []) ∧ px_at 269 44 = some (45, [], .aload_n 0, []) ∧ px_at 269 45 = some (48, [], .getfield 356, [11, 31, 0, 0, 156]) ∧ px_at 269 48 = some (51, [], .if_icmp .ge 26, [74]) ∧ px_at 269 51 = some (52, [], .iload_n 2, []) ∧ px_at 269 52 = some (54, [], .bipush (-3), []) ∧ px_at 269 54 = some (57, [], .if_icmp .le 20, [74]) ∧ px_at 269 57 = some (58, [], .aload_n 0, []) ∧ px_at 269 58 = some (59, [], .iload_n 3, []) ∧ px_at 269 59 = some (62, [], .invokevirtual 365, [268, 1, 11, 315]) ∧ px_at 269 62 = some (65, [], .ifCond .ne 6, [68]) ∧ px_at 269 65 = some (67, [], .bipush (-3), []) ∧ px_at 269 67 = some (68, [], .istore_n 2, []) ∧ px_at 269 68 = some (71, [], .iinc 3 1, []) ∧ px_at 269 71 = some (74, [], .goto (-28), [43]) ∧ px_at 269 74 = some (75, [], .iload_n 2, []) ∧ px_at 269 75 = some (78, [], .ifCond .ne 8, [83]) ∧ px_at 269 78 = some (79, [], .aload_n 0, []) ∧ px_at 269 79 = some (82, [], .invokevirtual 368, [213, 0, 11, 316]) ∧ px_at 269 82 = some (83, [], .istore_n 2, []) ∧ px_at 269 83 = some (84, [], .aload_n 0, []) ∧ px_at 269 84 = some (87, [], .invokevirtual 283, [176, 0, 11, 275]) ∧ px_at 269 87 = some (88, [], .iload_n 2, []) ∧ px_at 269 88 = some (89, [], .ireturn, [0]) := ⟨rfl, rfl, rfl, rfl, rfl, rfl, rfl, rfl, rfl, rfl, rfl, rfl, rfl, rfl, rfl, rfl, rfl, rfl, rfl, rfl, rfl, rfl, rfl, rfl, rfl, rfl, rfl, rfl, rfl, rfl, rfl, rfl, rfl, rfl, rfl, rfl, rfl, rfl, rfl, rfl, rfl, rfl, rfl, rfl, rfl, rfl, rfl, rfl, rfl⟩
/-! the reference: thrift, whole -/
section PS
variable {M : px_mem} {Q : Option pv → px_mem → Prop}
theorem stepA_nn {Mc : px_mem} {v c : Int} {D S : Int → Int} (h : stepA Mc v D S c) (hl : 0 ≤ Mc 57 c) : 0 ≤ S c := by
  obtain ⟨b, q, _⟩ := h
  rcases q with z | z
  · omega
  · have h1 : ((pcs Mc (64 + c) (Mc 57 c) b).length : Int) = S c := z.2.2.2.1
    have h2 : (0 : Int) ≤ ((pcs Mc (64 + c) (Mc 57 c) b).length : Int) := Int.natCast_nonneg _
    rw [h1] at h2
    exact h2
theorem sumA_mono {Mc : px_mem} {v k : Int} {D S : Int → Int} (hci : ci Mc) (hok : okA Mc v D S k) (hk : k ≤ 40) {i : Int} (i0 : 0 ≤ i) (i1 : i ≤ k) : sumA Mc v S i ≤ sumA Mc v S k := by
  refine sm_mono (n := k) (fun j j0 j1 => ?_) i0 i1
  by_cases q : 0 ≤ Mc 62 j ∧ 0 < Mc v j
  · rw [if_pos q]
    have := cokC (hci.1 j j0 (by omega) q.1)
    exact stepA_nn (hok j j0 j1 q).2 (by omega)
  · rw [if_neg q]; exact Int.le_refl 0
theorem cntS_mono {M : px_mem} {v i j : Int} (i0 : 0 ≤ i) (i1 : i ≤ j) : cntS M v i ≤ cntS M v j := sm_mono (f := fun d => b1 (selA M v d)) (n := j) (fun _ _ _ => (b1_rng _).1) i0 i1
theorem sumA_to {Mc : px_mem} {v : Int} {S : Int → Int} {c : Int} (c0 : 0 ≤ c) : ∀ (n : Nat), cntS Mc v (c + n) = cntS Mc v c → sumA Mc v S (c + n) = sumA Mc v S c := by
  intro n
  induction n with
  | zero => intro _; rw [show c + ((0 : Nat) : Int) = c by omega]
  | succ n ih =>
    intro e
    rw [Int.natCast_succ, ← Int.add_assoc] at e ⊢
    have hns : ¬ selA Mc v (c + n) := fun z => by
      have h1 := cntS_t (show 0 ≤ c + n by omega) z
      have h3 := cntS_mono (M := Mc) (v := v) c0 (show c ≤ c + n by omega)
      omega
    rw [cntS_f (by omega) hns] at e
    rw [sumA_f (by omega) hns]; exact ih e
set_option maxHeartbeats 600000 in
set_option maxRecDepth 100000 in
theorem lp_th1 {M0 : px_mem} {al : Int} (hx : ∀ M', (∀ c, 0 ≤ c → c < 40 → rC (M' 128) c 0 = 0) → (∀ y, (∀ c, 0 ≤ c → c < 40 → y ≠ 654 + 6 * c) → M' 128 y = M0 128 y) → (∀ b, b ≠ 128 → M' b = M0 b) → px_WP 269 0 0 (px_Q0 LAY Q) 43 [(2, 127), (9, 0), (0, if al = 0 then -2 else 0), (0, 0)] [] LAY M' 0 0) (k : Int) (hk_k : k ≤ 40) : ∀ (M : px_mem), 0 ≤ k → (∀ c, 0 ≤ c → c < k → rC (M 128) c 0 = 0) → (∀ y, (∀ c, 0 ≤ c → c < 40 → y ≠ 654 + 6 * c) → M 128 y = M0 128 y) → (∀ b, b ≠ 128 → M b = M0 b) → px_WP 269 0 0 (px_Q0 LAY Q) 11 [(2, 127), (0, al), (0, k), (9, 0)] [] LAY M 0 0 := by
  refine up_ind (P := fun k => ∀ (M : px_mem), 0 ≤ k → (∀ c, 0 ≤ c → c < k → rC (M 128) c 0 = 0) → (∀ y, (∀ c, 0 ≤ c → c < 40 → y ≠ 654 + 6 * c) → M 128 y = M0 128 y) → (∀ b, b ≠ 128 → M b = M0 b) → px_WP 269 0 0 (px_Q0 LAY Q) 11 [(2, 127), (0, al), (0, k), (9, 0)] [] LAY M 0 0) (40) (fun k hk_k ih => ?_) k hk_k
  intro M k0 hz ho hf
  refine px_go_ok (inl := []) 60 ?_
  simp only [px_go, px_Q0_at, px_sx_0, px_sx_s, px_cl, px_step, ↓px_ll, px_lg, f4_, ↓px_r1, ↓px_r2, ↓px_r4, ↓px_r5, ↓px_p1, ↓px_p2, ↓px_p3, ↓px_pop, px_k_0, px_k_s, px_k3_0, px_stk_, px_cats, px_ent, px_st1, px_st2, px_mask, ↓px_tsw, ↓px_lsw, ct_, mls_0, mls_1, mls_2, mls_3, mls_4, mls_5, kd_0, kd_1, kd_2, kd_3, ln_0, ln_1, ln_2, ln_3, gf_0, gf_1, gf_2, gf_3, gf_4, gf_7, gf_21, gf_63, dy_0, dy_1, dy_2, dy_3, dy_7, dy_21, px_brT, px_brF, true_and, and_true, and_false, false_and, and_self, true_implies, false_implies, or_true, true_or, or_false, false_or, eq_self, ne_eq, not_false_eq_true, not_true_eq_false, if_true, if_false, List.mem_cons, List.not_mem_nil, List.length_cons, List.length_nil, Nat.reduceEqDiff, Nat.reduceAdd, Nat.reduceSub, Nat.reduceLeDiff, Nat.reduceLT, Int.reduceEq, Int.reduceLT, Int.reduceLE, Int.reduceNeg, Int.reduceAdd, Int.reduceSub, Int.reduceToNat, ↓reduceIte, one_ne_zero_, zero_ne_one_, px_in32L, cd_269]
  repeat' (first | (with_reducible apply And.intro) | (with_reducible refine px_br_intro (fun _ => ?_) (fun _ => ?_)))
  all_goals (try (first | (unfold px_in32; omega) | omega))
  · rename_i c1 c2
    have := hx M (fun c c0 c1 => hz c c0 (by omega)) ho hf
    rw [if_pos c2] at this; exact this
  · rename_i c1 c2
    have := hx M (fun c c0 c1 => hz c c0 (by omega)) ho hf
    rw [if_neg c2] at this; exact this
  · rename_i c1
    refine sp_sets ⟨k0, by omega⟩ (by decide) ?_
    simp only [px_go, px_Q0_at, px_sx_0, px_sx_s, px_cl, px_step, ↓px_ll, px_lg, f4_, ↓px_r1, ↓px_r2, ↓px_r4, ↓px_r5, ↓px_p1, ↓px_p2, ↓px_p3, ↓px_pop, px_k_0, px_k_s, px_k3_0, px_stk_, px_cats, px_ent, px_st1, px_st2, px_mask, ↓px_tsw, ↓px_lsw, ct_, mls_0, mls_1, mls_2, mls_3, mls_4, mls_5, kd_0, kd_1, kd_2, kd_3, ln_0, ln_1, ln_2, ln_3, gf_0, gf_1, gf_2, gf_3, gf_4, gf_7, gf_21, gf_63, dy_0, dy_1, dy_2, dy_3, dy_7, dy_21, px_brT, px_brF, true_and, and_true, and_false, false_and, and_self, true_implies, false_implies, or_true, true_or, or_false, false_or, eq_self, ne_eq, not_false_eq_true, not_true_eq_false, if_true, if_false, List.mem_cons, List.not_mem_nil, List.length_cons, List.length_nil, Nat.reduceEqDiff, Nat.reduceAdd, Nat.reduceSub, Nat.reduceLeDiff, Nat.reduceLT, Int.reduceEq, Int.reduceLT, Int.reduceLE, Int.reduceNeg, Int.reduceAdd, Int.reduceSub, Int.reduceToNat, ↓reduceIte, one_ne_zero_, zero_ne_one_, px_in32L, cd_269]
    repeat' (first | (with_reducible apply And.intro) | (with_reducible refine px_br_intro (fun _ => ?_) (fun _ => ?_)))
    all_goals (try (first | (unfold px_in32; omega) | omega))
    refine ih (by omega) _ (by omega) (fun c c0 c1 => ?_) (fun y y0 => ?_) (fun b b0 => by rw [row_ne b0]; exact hf b b0)
    · show px_up M 128 (654 + 6 * k + 0) 0 128 (654 + 6 * c + 0) = 0
      rw [px_up_at]
      by_cases q : c = k
      · rw [if_pos ⟨rfl, by omega⟩]
      · rw [if_neg (fun z => q (by have := z.2; omega))]; exact hz c c0 (by omega)
    · rw [px_up_at, if_neg (fun z => by have := z.2; exact y0 k k0 (by omega) (by omega))]; exact ho y y0
set_option maxHeartbeats 600000 in
set_option maxRecDepth 100000 in
theorem lp_th2 {M0 Mc : px_mem} {v k1 kk is0 r : Int} {D S : Int → Int} (hci : ci Mc) (hk1 : 0 ≤ k1 ∧ k1 ≤ 40) (hkk : 0 ≤ kk ∧ kk ≤ 40) (hok : okA Mc v D S kk) (hbyA : ∀ d, 0 ≤ d → d < 40 → selA Mc v d → Mc 105 d ≠ 0 → ∀ b ∈ rdC Mc d, 0 ≤ b ∧ b < 256) (his : is0 = 0 ∨ is0 = -2) (hreach : ∀ c d, 0 ≤ c → c ≤ kk → sumA Mc v S c ≤ 400 → 0 ≤ d → d < k1 → selA Mc v d → cntS Mc v d = cntS Mc v c → d < kk) (hfail : ∀ d, 0 ≤ d → d < kk → selA Mc v d → 400 < sumA Mc v S (d + 1) → r = -3) (hend : ∀ c, 0 ≤ c → c ≤ kk → sumA Mc v S c ≤ 400 → cntS Mc v c = cntS Mc v k1 → (is0 = 0 → r = sumA Mc v S c) ∧ (is0 = -2 → r = -2)) (h : ∀ M', (∀ x, 0 ≤ x → x < 3154 → M' 128 x = M0 129 x) → (∀ x, ¬ (0 ≤ x ∧ x < 3154) → M' 128 x = M0 128 x) → out M' M0 → Q (some (0, r)) M') (k : Int) (hk_k : k ≤ cntS Mc v k1) : ∀ (M : px_mem) (c : Int) (dd : Int → Int), 0 ≤ k → (0 ≤ c ∧ c ≤ kk ∧ cntS Mc v c = k) → thS Mc v D S (M 128) dd c → sumA Mc v S c ≤ 400 → M 127 31 = cntS Mc v k1 → anR Mc v (M 149) k1 → (∀ y, ¬ (654 ≤ y ∧ y < 1294) → M 128 y = M0 128 y) → M 129 = M0 129 → out M M0 → px_WP 269 0 0 (px_Q0 LAY Q) 43 [(2, 127), (9, 0), (0, is0), (0, k)] [] LAY M 0 0 := by
  refine up_ind (P := fun k => ∀ (M : px_mem) (c : Int) (dd : Int → Int), 0 ≤ k → (0 ≤ c ∧ c ≤ kk ∧ cntS Mc v c = k) → thS Mc v D S (M 128) dd c → sumA Mc v S c ≤ 400 → M 127 31 = cntS Mc v k1 → anR Mc v (M 149) k1 → (∀ y, ¬ (654 ≤ y ∧ y < 1294) → M 128 y = M0 128 y) → M 129 = M0 129 → out M M0 → px_WP 269 0 0 (px_Q0 LAY Q) 43 [(2, 127), (9, 0), (0, is0), (0, k)] [] LAY M 0 0) (cntS Mc v k1) (fun k hk_k ih => ?_) k hk_k
  intro M c dd k0 hc hth hsum h31 han hff hf ho
  have hkr := cntS_rng Mc v hk1.1
  have hcr := cntS_rng Mc v hc.1
  have hrk : ∀ c, 0 ≤ c → c < 40 → rC (M 128) c 0 = 1 → 0 ≤ rC (M 128) c 4 ∧ rC (M 128) c 4 ≤ 40 := fun c c0 c1 c2 => by
    have h1 := hth.2.1 c c0 c1
    have h2 := hth.1.1 c c0 c1 (by omega)
    unfold cok at h2
    omega
  have hbk : ∀ M', (∀ x, 0 ≤ x → x < 3154 → M' 128 x = M 129 x) → (∀ x, ¬ (0 ≤ x ∧ x < 3154) → M' 128 x = M 128 x) → (∀ c, c ≠ 128 → M' c = M c) → Q (some (0, r)) M' := fun M' a1 a2 a3 =>
    h M' (fun x x0 x1 => by rw [a1 x x0 x1, hf]) (fun x x0 => by rw [a2 x x0]; exact hff x (by omega)) (out_trans (out_128 a3) ho)
  refine px_go_ok (inl := []) 60 ?_
  simp only [px_go, px_Q0_at, px_sx_0, px_sx_s, px_cl, px_step, ↓px_ll, px_lg, f4_, ↓px_r1, ↓px_r2, ↓px_r4, ↓px_r5, ↓px_p1, ↓px_p2, ↓px_p3, ↓px_pop, px_k_0, px_k_s, px_k3_0, px_stk_, px_cats, px_ent, px_st1, px_st2, px_mask, ↓px_tsw, ↓px_lsw, ct_, mls_0, mls_1, mls_2, mls_3, mls_4, mls_5, kd_0, kd_1, kd_2, kd_3, ln_0, ln_1, ln_2, ln_3, gf_0, gf_1, gf_2, gf_3, gf_4, gf_7, gf_21, gf_63, dy_0, dy_1, dy_2, dy_3, dy_7, dy_21, px_brT, px_brF, true_and, and_true, and_false, false_and, and_self, true_implies, false_implies, or_true, true_or, or_false, false_or, eq_self, ne_eq, not_false_eq_true, not_true_eq_false, if_true, if_false, List.mem_cons, List.not_mem_nil, List.length_cons, List.length_nil, Nat.reduceEqDiff, Nat.reduceAdd, Nat.reduceSub, Nat.reduceLeDiff, Nat.reduceLT, Int.reduceEq, Int.reduceLT, Int.reduceLE, Int.reduceNeg, Int.reduceAdd, Int.reduceSub, Int.reduceToNat, ↓reduceIte, one_ne_zero_, zero_ne_one_, px_in32L, cd_269, h31]
  repeat' (first | (with_reducible apply And.intro) | (with_reducible refine px_br_intro (fun _ => ?_) (fun _ => ?_)))
  all_goals (try (first | (unfold px_in32; omega) | omega))
  · rename_i c1 c2
    have hk : k = cntS Mc v k1 := by omega
    have he := (hend c hc.1 hc.2.1 hsum (by omega)).1 c2
    refine sp_rkept hrk ?_
    rw [hth.2.2.2.2.2.1, ← he]
    simp only [px_go, px_Q0_at, px_sx_0, px_sx_s, px_cl, px_step, ↓px_ll, px_lg, f4_, ↓px_r1, ↓px_r2, ↓px_r4, ↓px_r5, ↓px_p1, ↓px_p2, ↓px_p3, ↓px_pop, px_k_0, px_k_s, px_k3_0, px_stk_, px_cats, px_ent, px_st1, px_st2, px_mask, ↓px_tsw, ↓px_lsw, ct_, mls_0, mls_1, mls_2, mls_3, mls_4, mls_5, kd_0, kd_1, kd_2, kd_3, ln_0, ln_1, ln_2, ln_3, gf_0, gf_1, gf_2, gf_3, gf_4, gf_7, gf_21, gf_63, dy_0, dy_1, dy_2, dy_3, dy_7, dy_21, px_brT, px_brF, true_and, and_true, and_false, false_and, and_self, true_implies, false_implies, or_true, true_or, or_false, false_or, eq_self, ne_eq, not_false_eq_true, not_true_eq_false, if_true, if_false, List.mem_cons, List.not_mem_nil, List.length_cons, List.length_nil, Nat.reduceEqDiff, Nat.reduceAdd, Nat.reduceSub, Nat.reduceLeDiff, Nat.reduceLT, Int.reduceEq, Int.reduceLT, Int.reduceLE, Int.reduceNeg, Int.reduceAdd, Int.reduceSub, Int.reduceToNat, ↓reduceIte, one_ne_zero_, zero_ne_one_, px_in32L, cd_269]
    refine sp_back2 (fun M' a1 a2 a3 => ?_)
    simp only [px_go, px_Q0_at, px_sx_0, px_sx_s, px_cl, px_step, ↓px_ll, px_lg, f4_, ↓px_r1, ↓px_r2, ↓px_r4, ↓px_r5, ↓px_p1, ↓px_p2, ↓px_p3, ↓px_pop, px_k_0, px_k_s, px_k3_0, px_stk_, px_cats, px_ent, px_st1, px_st2, px_mask, ↓px_tsw, ↓px_lsw, ct_, mls_0, mls_1, mls_2, mls_3, mls_4, mls_5, kd_0, kd_1, kd_2, kd_3, ln_0, ln_1, ln_2, ln_3, gf_0, gf_1, gf_2, gf_3, gf_4, gf_7, gf_21, gf_63, dy_0, dy_1, dy_2, dy_3, dy_7, dy_21, px_brT, px_brF, true_and, and_true, and_false, false_and, and_self, true_implies, false_implies, or_true, true_or, or_false, false_or, eq_self, ne_eq, not_false_eq_true, not_true_eq_false, if_true, if_false, List.mem_cons, List.not_mem_nil, List.length_cons, List.length_nil, Nat.reduceEqDiff, Nat.reduceAdd, Nat.reduceSub, Nat.reduceLeDiff, Nat.reduceLT, Int.reduceEq, Int.reduceLT, Int.reduceLE, Int.reduceNeg, Int.reduceAdd, Int.reduceSub, Int.reduceToNat, ↓reduceIte, one_ne_zero_, zero_ne_one_, px_in32L, cd_269]
    exact hbk M' a1 a2 a3
  · rename_i c1 c2
    have hk : k = cntS Mc v k1 := by omega
    have he := (hend c hc.1 hc.2.1 hsum (by omega)).2 (by omega)
    refine sp_back2 (fun M' a1 a2 a3 => ?_)
    simp only [px_go, px_Q0_at, px_sx_0, px_sx_s, px_cl, px_step, ↓px_ll, px_lg, f4_, ↓px_r1, ↓px_r2, ↓px_r4, ↓px_r5, ↓px_p1, ↓px_p2, ↓px_p3, ↓px_pop, px_k_0, px_k_s, px_k3_0, px_stk_, px_cats, px_ent, px_st1, px_st2, px_mask, ↓px_tsw, ↓px_lsw, ct_, mls_0, mls_1, mls_2, mls_3, mls_4, mls_5, kd_0, kd_1, kd_2, kd_3, ln_0, ln_1, ln_2, ln_3, gf_0, gf_1, gf_2, gf_3, gf_4, gf_7, gf_21, gf_63, dy_0, dy_1, dy_2, dy_3, dy_7, dy_21, px_brT, px_brF, true_and, and_true, and_false, false_and, and_self, true_implies, false_implies, or_true, true_or, or_false, false_or, eq_self, ne_eq, not_false_eq_true, not_true_eq_false, if_true, if_false, List.mem_cons, List.not_mem_nil, List.length_cons, List.length_nil, Nat.reduceEqDiff, Nat.reduceAdd, Nat.reduceSub, Nat.reduceLeDiff, Nat.reduceLT, Int.reduceEq, Int.reduceLT, Int.reduceLE, Int.reduceNeg, Int.reduceAdd, Int.reduceSub, Int.reduceToNat, ↓reduceIte, one_ne_zero_, zero_ne_one_, px_in32L, cd_269]
    rw [show is0 = r by omega]
    exact hbk M' a1 a2 a3
  · rename_i c1 c2
    have hex := cntS_ex (M := Mc) (v := v) k1.toNat k k0 (by rw [Int.toNat_of_nonneg hk1.1]; omega)
    rw [Int.toNat_of_nonneg hk1.1] at hex
    obtain ⟨d, d0, d1, d2, d3⟩ := hex
    have hdk := hreach c d hc.1 hc.2.1 hsum d0 d1 d2 (by omega)
    have hcd : c ≤ d := by
      rcases (by omega : c ≤ d ∨ d < c) with q | q
      · exact q
      · have := cntS_lt d0 q d2; omega
    have hto := th_to hc.1 hth (d - c).toNat (by rw [Int.toNat_of_nonneg (by omega), show c + (d - c) = d by omega]; omega)
    rw [Int.toNat_of_nonneg (by omega), show c + (d - c) = d by omega] at hto
    obtain ⟨hthd, hsd⟩ := hto
    have hokd := hok d d0 hdk d2
    have hokD : okA Mc v D S d := fun x x0 x1 x2 => hok x x0 (by omega) x2
    have hrl := rdC_len hci d0 (by omega) d2.1
    have an := han d d0 d1 d2
    rw [d3, ← hrl.1] at an
    have hby : ∀ b ∈ rdC Mc d, 0 ≤ b ∧ b < 256 := hbyA d d0 (by omega) d2 hokd.1
    refine sp_keepsAnew (dd := dd) (D := rdC Mc d) hthd.1 hthd.2.1 ⟨k0, by omega⟩ an.1 an.2 hrl.2 hby (fun M1 a1 a2 a3 => ?_) (fun M1 c' b l p P a1 a2 a3 a4 a5 a6 a7 a8 a9 => ?_)
    · have hlong : 400 < sumA Mc v S (d + 1) := by
        rcases a1 with z | ⟨b, l, z1, z2⟩
        · exfalso
          have hk40 : k < 40 := by omega
          have hdd := hthd.2.2.1 k k0 hk40
          rcases fnd_spec 40 (fun c => dd c < 0) with y | y
          · exact y.2 k k0 hk40 (by omega)
          · omega
        · exact th_fail hci d0 (by omega) hthd hokD d2 hokd.2 z1 z2
      have hr := hfail d d0 hdk d2 hlong
      have g31 : M1 127 31 = cntS Mc v k1 := by rw [a3.1 31 (by decide) (by decide) (by decide) (by decide) (by decide)]; exact h31
      simp only [px_go, px_Q0_at, px_sx_0, px_sx_s, px_cl, px_step, ↓px_ll, px_lg, f4_, ↓px_r1, ↓px_r2, ↓px_r4, ↓px_r5, ↓px_p1, ↓px_p2, ↓px_p3, ↓px_pop, px_k_0, px_k_s, px_k3_0, px_stk_, px_cats, px_ent, px_st1, px_st2, px_mask, ↓px_tsw, ↓px_lsw, ct_, mls_0, mls_1, mls_2, mls_3, mls_4, mls_5, kd_0, kd_1, kd_2, kd_3, ln_0, ln_1, ln_2, ln_3, gf_0, gf_1, gf_2, gf_3, gf_4, gf_7, gf_21, gf_63, dy_0, dy_1, dy_2, dy_3, dy_7, dy_21, px_brT, px_brF, true_and, and_true, and_false, false_and, and_self, true_implies, false_implies, or_true, true_or, or_false, false_or, eq_self, ne_eq, not_false_eq_true, not_true_eq_false, if_true, if_false, List.mem_cons, List.not_mem_nil, List.length_cons, List.length_nil, Nat.reduceEqDiff, Nat.reduceAdd, Nat.reduceSub, Nat.reduceLeDiff, Nat.reduceLT, Int.reduceEq, Int.reduceLT, Int.reduceLE, Int.reduceNeg, Int.reduceAdd, Int.reduceSub, Int.reduceToNat, ↓reduceIte, one_ne_zero_, zero_ne_one_, px_in32L, cd_269]
      repeat' (first | (with_reducible apply And.intro) | (with_reducible refine px_br_intro (fun _ => ?_) (fun _ => ?_)))
      all_goals (try (first | (unfold px_in32; omega) | omega))
      refine px_go_ok (inl := []) 60 ?_
      simp only [px_go, px_Q0_at, px_sx_0, px_sx_s, px_cl, px_step, ↓px_ll, px_lg, f4_, ↓px_r1, ↓px_r2, ↓px_r4, ↓px_r5, ↓px_p1, ↓px_p2, ↓px_p3, ↓px_pop, px_k_0, px_k_s, px_k3_0, px_stk_, px_cats, px_ent, px_st1, px_st2, px_mask, ↓px_tsw, ↓px_lsw, ct_, mls_0, mls_1, mls_2, mls_3, mls_4, mls_5, kd_0, kd_1, kd_2, kd_3, ln_0, ln_1, ln_2, ln_3, gf_0, gf_1, gf_2, gf_3, gf_4, gf_7, gf_21, gf_63, dy_0, dy_1, dy_2, dy_3, dy_7, dy_21, px_brT, px_brF, true_and, and_true, and_false, false_and, and_self, true_implies, false_implies, or_true, true_or, or_false, false_or, eq_self, ne_eq, not_false_eq_true, not_true_eq_false, if_true, if_false, List.mem_cons, List.not_mem_nil, List.length_cons, List.length_nil, Nat.reduceEqDiff, Nat.reduceAdd, Nat.reduceSub, Nat.reduceLeDiff, Nat.reduceLT, Int.reduceEq, Int.reduceLT, Int.reduceLE, Int.reduceNeg, Int.reduceAdd, Int.reduceSub, Int.reduceToNat, ↓reduceIte, one_ne_zero_, zero_ne_one_, px_in32L, cd_269, g31]
      have hfin : px_Ok 176 [(2, 127)] LAY M1 (fun r M' => r = none ∧ Q (some (0, -3)) M') := by
        refine sp_back2 (fun M' b1' b2 b3 => ⟨rfl, ?_⟩)
        rw [← hr]
        refine h M' (fun x x0 x1 => by rw [b1' x x0 x1, a3.2 129 (by decide) (by decide) (by decide) (by decide) (by decide) (by decide) (by decide) (by decide) (by decide), hf]) (fun x x0 => by rw [b2 x x0, a2]; exact hff x (by omega)) (out_trans (out_128 b3) (out_trans (frY_out a3) ho))
      refine px_br_intro (fun _ => hfin.mono (fun r M' hh => ?_)) (fun _ => hfin.mono (fun r M' hh => ?_))
      · obtain ⟨e, hh⟩ := hh
        subst e
        simp only [px_go, px_Q0_at, px_sx_0, px_sx_s, px_cl, px_step, ↓px_ll, px_lg, f4_, ↓px_r1, ↓px_r2, ↓px_r4, ↓px_r5, ↓px_p1, ↓px_p2, ↓px_p3, ↓px_pop, px_k_0, px_k_s, px_k3_0, px_stk_, px_cats, px_ent, px_st1, px_st2, px_mask, ↓px_tsw, ↓px_lsw, ct_, mls_0, mls_1, mls_2, mls_3, mls_4, mls_5, kd_0, kd_1, kd_2, kd_3, ln_0, ln_1, ln_2, ln_3, gf_0, gf_1, gf_2, gf_3, gf_4, gf_7, gf_21, gf_63, dy_0, dy_1, dy_2, dy_3, dy_7, dy_21, px_brT, px_brF, true_and, and_true, and_false, false_and, and_self, true_implies, false_implies, or_true, true_or, or_false, false_or, eq_self, ne_eq, not_false_eq_true, not_true_eq_false, if_true, if_false, List.mem_cons, List.not_mem_nil, List.length_cons, List.length_nil, Nat.reduceEqDiff, Nat.reduceAdd, Nat.reduceSub, Nat.reduceLeDiff, Nat.reduceLT, Int.reduceEq, Int.reduceLT, Int.reduceLE, Int.reduceNeg, Int.reduceAdd, Int.reduceSub, Int.reduceToNat, ↓reduceIte, one_ne_zero_, zero_ne_one_, px_in32L, cd_269]
        exact hh
      · obtain ⟨e, hh⟩ := hh
        subst e
        simp only [px_go, px_Q0_at, px_sx_0, px_sx_s, px_cl, px_step, ↓px_ll, px_lg, f4_, ↓px_r1, ↓px_r2, ↓px_r4, ↓px_r5, ↓px_p1, ↓px_p2, ↓px_p3, ↓px_pop, px_k_0, px_k_s, px_k3_0, px_stk_, px_cats, px_ent, px_st1, px_st2, px_mask, ↓px_tsw, ↓px_lsw, ct_, mls_0, mls_1, mls_2, mls_3, mls_4, mls_5, kd_0, kd_1, kd_2, kd_3, ln_0, ln_1, ln_2, ln_3, gf_0, gf_1, gf_2, gf_3, gf_4, gf_7, gf_21, gf_63, dy_0, dy_1, dy_2, dy_3, dy_7, dy_21, px_brT, px_brF, true_and, and_true, and_false, false_and, and_self, true_implies, false_implies, or_true, true_or, or_false, false_or, eq_self, ne_eq, not_false_eq_true, not_true_eq_false, if_true, if_false, List.mem_cons, List.not_mem_nil, List.length_cons, List.length_nil, Nat.reduceEqDiff, Nat.reduceAdd, Nat.reduceSub, Nat.reduceLeDiff, Nat.reduceLT, Int.reduceEq, Int.reduceLT, Int.reduceLE, Int.reduceNeg, Int.reduceAdd, Int.reduceSub, Int.reduceToNat, ↓reduceIte, one_ne_zero_, zero_ne_one_, px_in32L, cd_269]
        exact hh
    · have hfd : fnd 40 (fun c => dd c < 0) = k := fnd_hit k0 (by omega) (by have := hthd.2.2.1 k k0 (by omega); omega) (fun j j0 j1 z => by have := hthd.2.2.1 j j0 (by omega); omega)
      have ec : c' = k := by omega
      subst ec
      rw [← d3] at a8
      obtain ⟨s1, s2⟩ := th_step hci d0 (by omega) hthd hokD d2 hokd.2 a4 a5 a6 a7 a8 hby
      simp only [px_go, px_Q0_at, px_sx_0, px_sx_s, px_cl, px_step, ↓px_ll, px_lg, f4_, ↓px_r1, ↓px_r2, ↓px_r4, ↓px_r5, ↓px_p1, ↓px_p2, ↓px_p3, ↓px_pop, px_k_0, px_k_s, px_k3_0, px_stk_, px_cats, px_ent, px_st1, px_st2, px_mask, ↓px_tsw, ↓px_lsw, ct_, mls_0, mls_1, mls_2, mls_3, mls_4, mls_5, kd_0, kd_1, kd_2, kd_3, ln_0, ln_1, ln_2, ln_3, gf_0, gf_1, gf_2, gf_3, gf_4, gf_7, gf_21, gf_63, dy_0, dy_1, dy_2, dy_3, dy_7, dy_21, px_brT, px_brF, true_and, and_true, and_false, false_and, and_self, true_implies, false_implies, or_true, true_or, or_false, false_or, eq_self, ne_eq, not_false_eq_true, not_true_eq_false, if_true, if_false, List.mem_cons, List.not_mem_nil, List.length_cons, List.length_nil, Nat.reduceEqDiff, Nat.reduceAdd, Nat.reduceSub, Nat.reduceLeDiff, Nat.reduceLT, Int.reduceEq, Int.reduceLT, Int.reduceLE, Int.reduceNeg, Int.reduceAdd, Int.reduceSub, Int.reduceToNat, ↓reduceIte, one_ne_zero_, zero_ne_one_, px_in32L, cd_269]
      repeat' (first | (with_reducible apply And.intro) | (with_reducible refine px_br_intro (fun _ => ?_) (fun _ => ?_)))
      all_goals (try (first | (unfold px_in32; omega) | omega))
      refine ih (by omega) M1 (d + 1) _ (by omega) ⟨by omega, by omega, by rw [cntS_t d0 d2, d3]⟩ s1 (by rw [sumA_t d0 d2]; omega) (by rw [a9.1 31 (by decide) (by decide) (by decide) (by decide) (by decide)]; exact h31) (by rw [a9.2 149 (by decide) (by decide) (by decide) (by decide) (by decide) (by decide) (by decide) (by decide) (by decide)]; exact han) (fun y y0 => by rw [a8.2.2 y y0]; exact hff y y0) (by rw [a9.2 129 (by decide) (by decide) (by decide) (by decide) (by decide) (by decide) (by decide) (by decide) (by decide)]; exact hf) (out_trans (frY_out a9) ho)
set_option maxHeartbeats 600000 in
set_option maxRecDepth 100000 in
theorem sp_rthrift {Mc : px_mem} {v r : Int} {pl : Int → Int → List Int} {nm : Int → List Int} (hT : TE Mc pl nm (M 128)) (hsel : ∀ c, 0 ≤ c → c < 40 → (selA Mc v c ↔ 0 ≤ Mc 62 c ∧ rlsd (M 128) c)) (hthr : thrA Mc v r) (h : ∀ M', M' 128 = M 128 → out M' M → Q (some (0, r)) M') : px_Ok 269 [(2, 127)] LAY M Q := by
  refine px_ok_go (inl := []) (ls0 := [(2, 127), (9, 0), (9, 0), (9, 0)]) 60 (by decide) (Nat.le_of_ble_eq_true rfl) rfl ?_
  simp only [px_go, px_Q0_at, px_sx_0, px_sx_s, px_cl, px_step, ↓px_ll, px_lg, f4_, ↓px_r1, ↓px_r2, ↓px_r4, ↓px_r5, ↓px_p1, ↓px_p2, ↓px_p3, ↓px_pop, px_k_0, px_k_s, px_k3_0, px_stk_, px_cats, px_ent, px_st1, px_st2, px_mask, ↓px_tsw, ↓px_lsw, ct_, mls_0, mls_1, mls_2, mls_3, mls_4, mls_5, kd_0, kd_1, kd_2, kd_3, ln_0, ln_1, ln_2, ln_3, gf_0, gf_1, gf_2, gf_3, gf_4, gf_7, gf_21, gf_63, dy_0, dy_1, dy_2, dy_3, dy_7, dy_21, px_brT, px_brF, true_and, and_true, and_false, false_and, and_self, true_implies, false_implies, or_true, true_or, or_false, false_or, eq_self, ne_eq, not_false_eq_true, not_true_eq_false, if_true, if_false, List.mem_cons, List.not_mem_nil, List.length_cons, List.length_nil, Nat.reduceEqDiff, Nat.reduceAdd, Nat.reduceSub, Nat.reduceLeDiff, Nat.reduceLT, Int.reduceEq, Int.reduceLT, Int.reduceLE, Int.reduceNeg, Int.reduceAdd, Int.reduceSub, Int.reduceToNat, ↓reduceIte, one_ne_zero_, zero_ne_one_, px_in32L, cd_269]
  repeat' (first | (with_reducible apply And.intro) | (with_reducible refine px_br_intro (fun _ => ?_) (fun _ => ?_)))
  all_goals (try (first | (unfold px_in32; omega) | omega))
  obtain ⟨D, S, kk, kk0, kk1, hok, hcase⟩ := hthr
  have hci := hT.1.1
  have hmono := fun i i0 i1 => sumA_mono (i := i) hci hok kk1 i0 i1
  have hbyA : ∀ d, 0 ≤ d → d < 40 → selA Mc v d → Mc 105 d ≠ 0 → ∀ b ∈ rdC Mc d, 0 ≤ b ∧ b < 256 := fun d d0 d1 d2 d3 => (rB_len (tieC_rok hT.1) d0 d1 d2.1 (tieC_bl hT.1 d0 d1 d2.1 d3).1).2.2
  have hC : 400 < sumA Mc v S kk → selA Mc v (kk - 1) → 0 < kk → ∀ c d, 0 ≤ c → c ≤ kk → sumA Mc v S c ≤ 400 → kk ≤ d → cntS Mc v d = cntS Mc v c → False := fun z1 z2 z3 c d c0 c1 c2 d0 d1 => by
    have h1 : c ≤ kk - 1 := by
      rcases (by omega : c ≤ kk - 1 ∨ c = kk) with q | q
      · exact q
      · rw [q] at c2; omega
    have h2 := cntS_mono (M := Mc) (v := v) c0 h1
    have h3 := cntS_lt (M := Mc) (v := v) (show 0 ≤ kk - 1 by omega) (show kk - 1 < d by omega) z2
    omega
  have hmain : ∀ (M1 : px_mem) (k1 al is0 : Int), (0 ≤ k1 ∧ k1 ≤ 40) → is0 = (if al = 0 then -2 else 0) → (is0 = 0 ∨ is0 = -2) → M1 127 31 = cntS Mc v k1 → anR Mc v (M1 149) k1 → frZ M1 M → (∀ c d, 0 ≤ c → c ≤ kk → sumA Mc v S c ≤ 400 → 0 ≤ d → d < k1 → selA Mc v d → cntS Mc v d = cntS Mc v c → d < kk) → (∀ d, 0 ≤ d → d < kk → selA Mc v d → 400 < sumA Mc v S (d + 1) → r = -3) → (∀ c, 0 ≤ c → c ≤ kk → sumA Mc v S c ≤ 400 → cntS Mc v c = cntS Mc v k1 → (is0 = 0 → r = sumA Mc v S c) ∧ (is0 = -2 → r = -2)) → px_Ok 175 [(2, 127)] LAY M1 (fun rr M' => rr = none ∧ px_WP 269 0 0 (px_Q0 LAY Q) 11 [(2, 127), (0, al), (0, 0), (9, 0)] [] LAY M' 0 0) := by
    intro M1 k1 al is0 hk1 eis his g31 han hz hreach hfail hend
    have e128 := frZ_128 hz
    refine sp_beside (fun M2 a1 a2 => ?_)
    have g128 : M2 128 = M 128 := by rw [a2 128 (by decide), e128]
    refine ⟨rfl, ?_⟩
    refine lp_th1 (M0 := M2) (al := al) (fun M3 b1' b2 b3 => ?_) 0 (by decide) M2 (Int.le_refl 0) (fun c c0 c1 => by omega) (fun _ _ => rfl) (fun _ _ => rfl)
    rw [← eis]
    have hu0 : ∀ y, ¬ (654 ≤ y ∧ y < 1294) → M3 128 y = M 128 y := fun y y0 => by rw [b2 y (fun c c0 c1 => by omega), g128]
    have hrow : ∀ k, 0 ≤ k → k < 400 → M3 128 (894 + k) = M 128 (894 + k) := fun k k0 k1 => by rw [b2 _ (fun c c0 c1 => by omega), g128]
    have hth : thS Mc v D S (M3 128) (fun _ => -1) 0 := by
      refine ⟨⟨fun c _ _ z => absurd (show (0 : Int) ≤ -1 from z) (by decide), fun k k0 k1 => ?_⟩, fun c c0 c1 => Or.inr ⟨show (-1 : Int) < 0 by decide, b1' c c0 c1⟩, fun t t0 t1 => ?_, fun d d0 d1 => by omega, fun x x0 x1 => ?_, ?_, Int.le_refl 0⟩
      · show 0 ≤ M3 128 (894 + k) ∧ M3 128 (894 + k) < 256
        rw [hrow k k0 k1]
        exact (tieC_rok hT.1).2 k k0 k1
      · have e : cntS Mc v 0 = 0 := rfl
        rw [e]
        exact ⟨fun z => absurd (show (0 : Int) ≤ -1 from z) (by decide), fun z => by omega⟩
      · have e : sumA Mc v S 0 = 0 := rfl
        rw [e]
        exact ⟨fun ⟨c, _, _, z, _⟩ => absurd (show (0 : Int) ≤ -1 from z) (by decide), fun z => by omega⟩
      · have e : sumA Mc v S 0 = 0 := rfl
        rw [e, ← sm_zero 40]
        exact sm_congr (fun c c0 c1 => by
          unfold rkp
          rw [if_neg (by have := b1' c c0 c1; omega)])
    refine lp_th2 (M0 := M3) (D := D) (S := S) hci hk1 ⟨kk0, kk1⟩ hok hbyA his hreach hfail hend (fun M4 c1 c2 c3 => h M4 (funext (fun x => ?_)) (out_trans c3 (out_trans (out_128 b3) (out_trans ⟨fun b b0 => a2 b (by omega), a2 130 (by decide), by rw [a2 127 (by decide)]⟩ (frZ_out hz))))) 0 (cntS_rng Mc v hk1.1).1 M3 0 _ (Int.le_refl 0) ⟨Int.le_refl 0, kk0, rfl⟩ hth (by show (0 : Int) ≤ 400; decide) ?_ ?_ (fun _ _ => rfl) rfl (out_refl M3)
    · by_cases q : 0 ≤ x ∧ x < 3154
      · rw [c1 x q.1 q.2, b3 129 (by decide), a1 x q.1 q.2, e128]
      · rw [c2 x q]; exact hu0 x (by omega)
    · rw [b3 127 (by decide), a2 127 (by decide)]; exact g31
    · rw [b3 149 (by decide), a2 149 (by decide)]; exact han
  refine sp_laysAnew hT hsel (fun M1 w1 w2 w3 w4 => ?_) (fun M1 c w0 w1 w2 w3 w4 w5 w6 w7 => ?_)
  · simp only [px_go, px_Q0_at, px_sx_0, px_sx_s, px_cl, px_step, ↓px_ll, px_lg, f4_, ↓px_r1, ↓px_r2, ↓px_r4, ↓px_r5, ↓px_p1, ↓px_p2, ↓px_p3, ↓px_pop, px_k_0, px_k_s, px_k3_0, px_stk_, px_cats, px_ent, px_st1, px_st2, px_mask, ↓px_tsw, ↓px_lsw, ct_, mls_0, mls_1, mls_2, mls_3, mls_4, mls_5, kd_0, kd_1, kd_2, kd_3, ln_0, ln_1, ln_2, ln_3, gf_0, gf_1, gf_2, gf_3, gf_4, gf_7, gf_21, gf_63, dy_0, dy_1, dy_2, dy_3, dy_7, dy_21, px_brT, px_brF, true_and, and_true, and_false, false_and, and_self, true_implies, false_implies, or_true, true_or, or_false, false_or, eq_self, ne_eq, not_false_eq_true, not_true_eq_false, if_true, if_false, List.mem_cons, List.not_mem_nil, List.length_cons, List.length_nil, Nat.reduceEqDiff, Nat.reduceAdd, Nat.reduceSub, Nat.reduceLeDiff, Nat.reduceLT, Int.reduceEq, Int.reduceLT, Int.reduceLE, Int.reduceNeg, Int.reduceAdd, Int.reduceSub, Int.reduceToNat, ↓reduceIte, one_ne_zero_, zero_ne_one_, px_in32L, cd_269]
    refine (hmain M1 40 1 0 ⟨by decide, by decide⟩ rfl (Or.inl rfl) w2 w3 w4 (fun c d c0 c1 c2 d0 d1 d2 d3 => ?_) (fun d d0 d1 d2 d3 => ?_) (fun c c0 c1 c2 c3 => ⟨fun _ => ?_, fun z => by omega⟩)).mono (fun rr M' hh => by
      obtain ⟨e, hh⟩ := hh
      subst e
      simp only [px_go, px_Q0_at, px_sx_0, px_sx_s, px_cl, px_step, ↓px_ll, px_lg, f4_, ↓px_r1, ↓px_r2, ↓px_r4, ↓px_r5, ↓px_p1, ↓px_p2, ↓px_p3, ↓px_pop, px_k_0, px_k_s, px_k3_0, px_stk_, px_cats, px_ent, px_st1, px_st2, px_mask, ↓px_tsw, ↓px_lsw, ct_, mls_0, mls_1, mls_2, mls_3, mls_4, mls_5, kd_0, kd_1, kd_2, kd_3, ln_0, ln_1, ln_2, ln_3, gf_0, gf_1, gf_2, gf_3, gf_4, gf_7, gf_21, gf_63, dy_0, dy_1, dy_2, dy_3, dy_7, dy_21, px_brT, px_brF, true_and, and_true, and_false, false_and, and_self, true_implies, false_implies, or_true, true_or, or_false, false_or, eq_self, ne_eq, not_false_eq_true, not_true_eq_false, if_true, if_false, List.mem_cons, List.not_mem_nil, List.length_cons, List.length_nil, Nat.reduceEqDiff, Nat.reduceAdd, Nat.reduceSub, Nat.reduceLeDiff, Nat.reduceLT, Int.reduceEq, Int.reduceLT, Int.reduceLE, Int.reduceNeg, Int.reduceAdd, Int.reduceSub, Int.reduceToNat, ↓reduceIte, one_ne_zero_, zero_ne_one_, px_in32L, cd_269]
      exact hh)
    · rcases hcase with ⟨a1, a2, a3⟩ | ⟨a1, a2, a3, a4, a5⟩ | ⟨a1, a2, a3, a4, a5⟩
      · omega
      · exact absurd a4 (w1 kk kk0 a1 a3)
      · rcases (by omega : d < kk ∨ kk ≤ d) with q | q
        · exact q
        · exact (hC a3 a4 a1 c d c0 c1 c2 q d3).elim
    · have hm := hmono (d + 1) (by omega) (by omega)
      rcases hcase with ⟨a1, a2, a3⟩ | ⟨a1, a2, a3, a4, a5⟩ | ⟨a1, a2, a3, a4, a5⟩
      · rw [a1] at hm; omega
      · omega
      · exact a5
    · rcases hcase with ⟨a1, a2, a3⟩ | ⟨a1, a2, a3, a4, a5⟩ | ⟨a1, a2, a3, a4, a5⟩
      · have ht := sumA_to (Mc := Mc) (v := v) (S := S) c0 (40 - c).toNat (by rw [Int.toNat_of_nonneg (by omega), show c + (40 - c) = 40 by omega]; exact c3.symm)
        rw [Int.toNat_of_nonneg (by omega), show c + (40 - c) = 40 by omega] at ht
        omega
      · exact absurd a4 (w1 kk kk0 a1 a3)
      · exact (hC a3 a4 a1 c 40 c0 c1 c2 kk1 c3.symm).elim
  · simp only [px_go, px_Q0_at, px_sx_0, px_sx_s, px_cl, px_step, ↓px_ll, px_lg, f4_, ↓px_r1, ↓px_r2, ↓px_r4, ↓px_r5, ↓px_p1, ↓px_p2, ↓px_p3, ↓px_pop, px_k_0, px_k_s, px_k3_0, px_stk_, px_cats, px_ent, px_st1, px_st2, px_mask, ↓px_tsw, ↓px_lsw, ct_, mls_0, mls_1, mls_2, mls_3, mls_4, mls_5, kd_0, kd_1, kd_2, kd_3, ln_0, ln_1, ln_2, ln_3, gf_0, gf_1, gf_2, gf_3, gf_4, gf_7, gf_21, gf_63, dy_0, dy_1, dy_2, dy_3, dy_7, dy_21, px_brT, px_brF, true_and, and_true, and_false, false_and, and_self, true_implies, false_implies, or_true, true_or, or_false, false_or, eq_self, ne_eq, not_false_eq_true, not_true_eq_false, if_true, if_false, List.mem_cons, List.not_mem_nil, List.length_cons, List.length_nil, Nat.reduceEqDiff, Nat.reduceAdd, Nat.reduceSub, Nat.reduceLeDiff, Nat.reduceLT, Int.reduceEq, Int.reduceLT, Int.reduceLE, Int.reduceNeg, Int.reduceAdd, Int.reduceSub, Int.reduceToNat, ↓reduceIte, one_ne_zero_, zero_ne_one_, px_in32L, cd_269]
    have hck : kk ≤ c := by
      rcases (by omega : kk ≤ c ∨ c < kk) with q | q
      · exact q
      · exact absurd w3 (hok c w0 q w2).1
    refine (hmain M1 c 0 (-2) ⟨w0, by omega⟩ rfl (Or.inr rfl) w5 w6 w7 (fun c' d c0 c1 c2 d0 d1 d2 d3 => ?_) (fun d d0 d1 d2 d3 => ?_) (fun c' c0 c1 c2 c3 => ⟨fun z => by omega, fun _ => ?_⟩)).mono (fun rr M' hh => by
      obtain ⟨e, hh⟩ := hh
      subst e
      simp only [px_go, px_Q0_at, px_sx_0, px_sx_s, px_cl, px_step, ↓px_ll, px_lg, f4_, ↓px_r1, ↓px_r2, ↓px_r4, ↓px_r5, ↓px_p1, ↓px_p2, ↓px_p3, ↓px_pop, px_k_0, px_k_s, px_k3_0, px_stk_, px_cats, px_ent, px_st1, px_st2, px_mask, ↓px_tsw, ↓px_lsw, ct_, mls_0, mls_1, mls_2, mls_3, mls_4, mls_5, kd_0, kd_1, kd_2, kd_3, ln_0, ln_1, ln_2, ln_3, gf_0, gf_1, gf_2, gf_3, gf_4, gf_7, gf_21, gf_63, dy_0, dy_1, dy_2, dy_3, dy_7, dy_21, px_brT, px_brF, true_and, and_true, and_false, false_and, and_self, true_implies, false_implies, or_true, true_or, or_false, false_or, eq_self, ne_eq, not_false_eq_true, not_true_eq_false, if_true, if_false, List.mem_cons, List.not_mem_nil, List.length_cons, List.length_nil, Nat.reduceEqDiff, Nat.reduceAdd, Nat.reduceSub, Nat.reduceLeDiff, Nat.reduceLT, Int.reduceEq, Int.reduceLT, Int.reduceLE, Int.reduceNeg, Int.reduceAdd, Int.reduceSub, Int.reduceToNat, ↓reduceIte, one_ne_zero_, zero_ne_one_, px_in32L, cd_269]
      exact hh)
    · rcases hcase with ⟨a1, a2, a3⟩ | ⟨a1, a2, a3, a4, a5⟩ | ⟨a1, a2, a3, a4, a5⟩
      · omega
      · rcases (by omega : d < kk ∨ kk ≤ d) with q | q
        · exact q
        · exact absurd a4 (w4 kk kk0 (by omega) a3)
      · rcases (by omega : d < kk ∨ kk ≤ d) with q | q
        · exact q
        · exact (hC a3 a4 a1 c' d c0 c1 c2 q d3).elim
    · have hm := hmono (d + 1) (by omega) (by omega)
      rcases hcase with ⟨a1, a2, a3⟩ | ⟨a1, a2, a3, a4, a5⟩ | ⟨a1, a2, a3, a4, a5⟩
      · omega
      · omega
      · exact a5
    · rcases hcase with ⟨a1, a2, a3⟩ | ⟨a1, a2, a3, a4, a5⟩ | ⟨a1, a2, a3, a4, a5⟩
      · omega
      · exact a5
      · exact (hC a3 a4 a1 c' c c0 c1 c2 hck c3.symm).elim
end PS
