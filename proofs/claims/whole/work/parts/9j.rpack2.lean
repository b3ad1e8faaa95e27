/-! the reference: pack, whole -/
section PS
variable {M : px_mem} {Q : Option pv → px_mem → Prop}
set_option maxHeartbeats 600000 in
set_option maxRecDepth 100000 in
theorem lp_pk3 {M0 Mc : px_mem} {n : Int} (hT : tieC Mc (M0 128)) (hx : ∀ M', (∀ x, ((∃ d, 0 ≤ d ∧ d < 40 ∧ 0 ≤ Mc 62 d ∧ 0 < Mc 60 d ∧ x = 654 + 6 * d + 3) → M' 128 x = M0 136 ((x - 657) / 6)) ∧ (¬ (∃ d, 0 ≤ d ∧ d < 40 ∧ 0 ≤ Mc 62 d ∧ 0 < Mc 60 d ∧ x = 654 + 6 * d + 3) → M' 128 x = M0 128 x)) → (∀ b, b ≠ 128 → M' b = M0 b) → px_WP 250 0 0 (px_Q0 LAY Q) 185 [(2, 127), (0, n), (9, 0), (0, 0), (9, 0), (9, 0), (9, 0)] [] LAY M' 0 0) (c : Int) (hk_c : c ≤ 40) : ∀ (M : px_mem), 0 ≤ c → (∀ x, ((∃ d, 0 ≤ d ∧ d < c ∧ 0 ≤ Mc 62 d ∧ 0 < Mc 60 d ∧ x = 654 + 6 * d + 3) → M 128 x = M0 136 ((x - 657) / 6)) ∧ (¬ (∃ d, 0 ≤ d ∧ d < c ∧ 0 ≤ Mc 62 d ∧ 0 < Mc 60 d ∧ x = 654 + 6 * d + 3) → M 128 x = M0 128 x)) → (∀ b, b ≠ 128 → M b = M0 b) → px_WP 250 0 0 (px_Q0 LAY Q) 140 [(2, 127), (0, n), (9, 0), (0, c), (9, 0), (9, 0), (9, 0)] [] LAY M 0 0 := by
  refine up_ind (P := fun c => ∀ (M : px_mem), 0 ≤ c → (∀ x, ((∃ d, 0 ≤ d ∧ d < c ∧ 0 ≤ Mc 62 d ∧ 0 < Mc 60 d ∧ x = 654 + 6 * d + 3) → M 128 x = M0 136 ((x - 657) / 6)) ∧ (¬ (∃ d, 0 ≤ d ∧ d < c ∧ 0 ≤ Mc 62 d ∧ 0 < Mc 60 d ∧ x = 654 + 6 * d + 3) → M 128 x = M0 128 x)) → (∀ b, b ≠ 128 → M b = M0 b) → px_WP 250 0 0 (px_Q0 LAY Q) 140 [(2, 127), (0, n), (9, 0), (0, c), (9, 0), (9, 0), (9, 0)] [] LAY M 0 0) (40) (fun c hk_c ih => ?_) c hk_c
  intro M c0 hv hfr
  have hu := fun q => hT.2.1 c c0 q
  have hpp := fun q q2 => tieC_p hT c0 q q2
  have e136 := hfr 136 (by decide)
  have hs0 : M 128 (654 + 6 * c + 0) = M0 128 (654 + 6 * c + 0) := (hv _).2 (fun ⟨d, _, _, _, _, z⟩ => by omega)
  have hs4 : M 128 (654 + 6 * c + 4) = M0 128 (654 + 6 * c + 4) := (hv _).2 (fun ⟨d, _, _, _, _, z⟩ => by omega)
  have hskip : c < 40 → ¬ (0 ≤ Mc 62 c ∧ 0 < Mc 60 c) → px_WP 250 0 0 (px_Q0 LAY Q) 140 [(2, 127), (0, n), (9, 0), (0, c + 1), (9, 0), (9, 0), (9, 0)] [] LAY M 0 0 := fun q z => ih q M (by omega) (fun x => by
    refine ⟨fun ⟨d, d0, d1, d2, d3, d4⟩ => ?_, fun y => (hv x).2 (fun ⟨d, d0, d1, d2⟩ => y ⟨d, d0, by omega, d2⟩)⟩
    refine (hv x).1 ⟨d, d0, ?_, d2, d3, d4⟩
    have : d ≠ c := fun e => z ⟨by rw [← e]; exact d2, by rw [← e]; exact d3⟩
    omega) hfr
  refine px_go_ok (inl := [187,188]) 60 ?_
  simp only [px_go, px_Q0_at, px_sx_0, px_sx_s, px_cl, px_step, ↓px_ll, px_lg, f4_, ↓px_r1, ↓px_r2, ↓px_r4, ↓px_r5, ↓px_p1, ↓px_p2, ↓px_p3, ↓px_pop, px_k_0, px_k_s, px_k3_0, px_stk_, px_cats, px_ent, px_st1, px_st2, px_mask, ↓px_tsw, ↓px_lsw, ct_, mls_0, mls_1, mls_2, mls_3, mls_4, mls_5, kd_0, kd_1, kd_2, kd_3, ln_0, ln_1, ln_2, ln_3, gf_0, gf_1, gf_2, gf_3, gf_4, gf_7, gf_21, gf_63, dy_0, dy_1, dy_2, dy_3, dy_7, dy_21, px_brT, px_brF, true_and, and_true, and_false, false_and, and_self, true_implies, false_implies, or_true, true_or, or_false, false_or, eq_self, ne_eq, not_false_eq_true, not_true_eq_false, if_true, if_false, List.mem_cons, List.not_mem_nil, List.length_cons, List.length_nil, Nat.reduceEqDiff, Nat.reduceAdd, Nat.reduceSub, Nat.reduceLeDiff, Nat.reduceLT, Int.reduceEq, Int.reduceLT, Int.reduceLE, Int.reduceNeg, Int.reduceAdd, Int.reduceSub, Int.reduceToNat, ↓reduceIte, one_ne_zero_, zero_ne_one_, px_in32L, cd_250, cd_187, cd_188, e136, hs0, hs4]
  repeat' (first | (with_reducible apply And.intro) | (with_reducible refine px_br_intro (fun _ => ?_) (fun _ => ?_)))
  all_goals (try (first | (unfold px_in32; omega) | omega))
  · rename_i c1
    have ec : c = 40 := by omega
    subst ec
    exact hx M hv hfr
  all_goals
    have hc40 : c < 40 := by omega
    have hu2 := hu hc40
  · rename_i c1 c2 c3
    refine hskip hc40 (fun z => ?_)
    have e : M0 128 (654 + 6 * c + 4) = Mc 60 c := (hpp hc40 z.1).2.2.2.1
    omega
  · rename_i c1 c2 c3
    have e0 : rC (M0 128) c 0 = 1 := c2
    have hd : 0 ≤ Mc 62 c := by omega
    have e : M0 128 (654 + 6 * c + 4) = Mc 60 c := (hpp hc40 hd).2.2.2.1
    refine ih hc40 _ (by omega) (fun x => ⟨fun ⟨d, d0, d1, d2, d3, d4⟩ => ?_, fun y => ?_⟩) (fun b b0 => by rw [row_ne b0]; exact hfr b b0)
    · rw [px_up_at]
      by_cases q : d = c
      · rw [if_pos ⟨rfl, by omega⟩, d4, q, show (654 + 6 * c + 3 - 657) / 6 = c by omega]
      · rw [if_neg (by omega)]
        exact (hv x).1 ⟨d, d0, by omega, d2, d3, d4⟩
    · rw [px_up_at]
      by_cases q : x = 654 + 6 * c + 3
      · exact absurd ⟨c, c0, by omega, hd, by omega, q⟩ y
      · rw [if_neg (fun z => q z.2)]
        exact (hv x).2 (fun ⟨d, d0, d1, d2⟩ => y ⟨d, d0, by omega, d2⟩)
  · rename_i c1 c2
    refine hskip hc40 (fun z => c2 ?_)
    rcases hu2 with y | y
    · exact y.2
    · omega
set_option maxHeartbeats 600000 in
set_option maxRecDepth 100000 in
theorem lp_pk4 {M0 : px_mem} {n : Int} (h : ∀ M', (∀ x, M' 128 x = if 894 ≤ x ∧ x < 1294 then M0 147 (x - 894) else M0 128 x) → (∀ b, b ≠ 128 → M' b = M0 b) → Q (some (0, n)) M') (k : Int) (hk_k : k ≤ 400) : ∀ (M : px_mem), 0 ≤ k → (∀ x, M 128 x = if 894 ≤ x ∧ x < 894 + k then M0 147 (x - 894) else M0 128 x) → (∀ b, b ≠ 128 → M b = M0 b) → px_WP 250 0 0 (px_Q0 LAY Q) 185 [(2, 127), (0, n), (9, 0), (0, k), (9, 0), (9, 0), (9, 0)] [] LAY M 0 0 := by
  refine up_ind (P := fun k => ∀ (M : px_mem), 0 ≤ k → (∀ x, M 128 x = if 894 ≤ x ∧ x < 894 + k then M0 147 (x - 894) else M0 128 x) → (∀ b, b ≠ 128 → M b = M0 b) → px_WP 250 0 0 (px_Q0 LAY Q) 185 [(2, 127), (0, n), (9, 0), (0, k), (9, 0), (9, 0), (9, 0)] [] LAY M 0 0) (400) (fun k hk_k ih => ?_) k hk_k
  intro M k0 hv hfr
  have e147 := hfr 147 (by decide)
  refine px_go_ok (inl := []) 60 ?_
  simp only [px_go, px_Q0_at, px_sx_0, px_sx_s, px_cl, px_step, ↓px_ll, px_lg, f4_, ↓px_r1, ↓px_r2, ↓px_r4, ↓px_r5, ↓px_p1, ↓px_p2, ↓px_p3, ↓px_pop, px_k_0, px_k_s, px_k3_0, px_stk_, px_cats, px_ent, px_st1, px_st2, px_mask, ↓px_tsw, ↓px_lsw, ct_, mls_0, mls_1, mls_2, mls_3, mls_4, mls_5, kd_0, kd_1, kd_2, kd_3, ln_0, ln_1, ln_2, ln_3, gf_0, gf_1, gf_2, gf_3, gf_4, gf_7, gf_21, gf_63, dy_0, dy_1, dy_2, dy_3, dy_7, dy_21, px_brT, px_brF, true_and, and_true, and_false, false_and, and_self, true_implies, false_implies, or_true, true_or, or_false, false_or, eq_self, ne_eq, not_false_eq_true, not_true_eq_false, if_true, if_false, List.mem_cons, List.not_mem_nil, List.length_cons, List.length_nil, Nat.reduceEqDiff, Nat.reduceAdd, Nat.reduceSub, Nat.reduceLeDiff, Nat.reduceLT, Int.reduceEq, Int.reduceLT, Int.reduceLE, Int.reduceNeg, Int.reduceAdd, Int.reduceSub, Int.reduceToNat, ↓reduceIte, one_ne_zero_, zero_ne_one_, px_in32L, cd_250, e147]
  repeat' (first | (with_reducible apply And.intro) | (with_reducible refine px_br_intro (fun _ => ?_) (fun _ => ?_)))
  all_goals (try (first | (unfold px_in32; omega) | omega))
  · rename_i c1
    rw [show k = 400 by omega] at hv
    exact h M hv hfr
  · rename_i c1
    refine ih (by omega) _ (by omega) (fun x => ?_) (fun b b0 => by rw [row_ne b0]; exact hfr b b0)
    rw [px_up_at, hv x]
    by_cases q : x = 894 + k
    · rw [if_pos ⟨rfl, q⟩, if_pos (by omega), show x - 894 = k by omega]
    · rw [if_neg (fun z => q z.2)]
      by_cases r : 894 ≤ x ∧ x < 894 + k
      · rw [if_pos r, if_pos (by omega)]
      · rw [if_neg r, if_neg (by omega)]
theorem pk_row {Mc Mc' M : px_mem} (hci : ci Mc) (hI : pI Mc M 400) (hpk : pkd (Mc 62) (Mc 59) (Mc 60) (Mc 54) (Mc 53) (Mc' 59) (Mc' 53)) {y : Int} (y0 : 0 ≤ y) (y1 : y < 400) : M 147 y = Mc' 53 y := by
  have hr := ci_inR hci
  by_cases q : ∃ c, 0 ≤ c ∧ c < 40 ∧ 0 ≤ Mc 62 c ∧ 0 < Mc 60 c ∧ pkE (Mc 54) (Mc 59) (Mc 60) (Mc 59 c) ≤ y ∧ y < pkE (Mc 54) (Mc 59) (Mc 60) (Mc 59 c) + Mc 60 c
  · obtain ⟨c, c0, c1, c2, c3, c4, c5⟩ := q
    have hrr := hr c c0 c1 c2
    have h1 := (hI.1 c c0 c1 c2 c3 (by omega)).2 (y - pkE (Mc 54) (Mc 59) (Mc 60) (Mc 59 c)) (by omega) (by omega)
    have h2 := hpk.2.1 c c0 c1 c2 (y - pkE (Mc 54) (Mc 59) (Mc 60) (Mc 59 c)) (by omega) (by omega)
    rw [hpk.1 c c0 c1 c2, if_pos c3, show pkE (Mc 54) (Mc 59) (Mc 60) (Mc 59 c) + (y - pkE (Mc 54) (Mc 59) (Mc 60) (Mc 59 c)) = y by omega] at h2
    rw [show pkE (Mc 54) (Mc 59) (Mc 60) (Mc 59 c) + (y - pkE (Mc 54) (Mc 59) (Mc 60) (Mc 59 c)) = y by omega] at h1
    rw [h1, h2]
  · rw [hI.2 y y0 y1 (fun c c0 c1 c2 c3 _ z => q ⟨c, c0, c1, c2, c3, z.1, z.2⟩), hpk.2.2 y y0 y1 (fun c c0 c1 c2 z => ?_)]
    rw [hpk.1 c c0 c1 c2] at z
    by_cases c3 : 0 < Mc 60 c
    · rw [if_pos c3] at z
      exact q ⟨c, c0, c1, c2, c3, z.1, z.2⟩
    · omega
set_option maxHeartbeats 600000 in
set_option maxRecDepth 100000 in
theorem sp_rpack {Mc Mc' : px_mem} (hT : tieC Mc (M 128)) (hpk : pkd (Mc 62) (Mc 59) (Mc 60) (Mc 54) (Mc 53) (Mc' 59) (Mc' 53)) (hci' : ci Mc') (hf : ∀ b, b ≠ 53 → b ≠ 54 → b ≠ 59 → Mc' b = Mc b) (h : ∀ M', tieC Mc' (M' 128) → (∀ x, ¬ (654 ≤ x ∧ x < 1294) → M' 128 x = M 128 x) → out M' M → Q (some (0, pkN (Mc 54) (Mc 59) (Mc 60) 400)) M') : px_Ok 250 [(2, 127)] LAY M Q := by
  refine px_ok_go (inl := []) (ls0 := [(2, 127), (9, 0), (9, 0), (9, 0), (9, 0), (9, 0), (9, 0)]) 60 (by decide) (Nat.le_of_ble_eq_true rfl) rfl ?_
  simp only [px_go, px_Q0_at, px_sx_0, px_sx_s, px_cl, px_step, ↓px_ll, px_lg, f4_, ↓px_r1, ↓px_r2, ↓px_r4, ↓px_r5, ↓px_p1, ↓px_p2, ↓px_p3, ↓px_pop, px_k_0, px_k_s, px_k3_0, px_stk_, px_cats, px_ent, px_st1, px_st2, px_mask, ↓px_tsw, ↓px_lsw, ct_, mls_0, mls_1, mls_2, mls_3, mls_4, mls_5, kd_0, kd_1, kd_2, kd_3, ln_0, ln_1, ln_2, ln_3, gf_0, gf_1, gf_2, gf_3, gf_4, gf_7, gf_21, gf_63, dy_0, dy_1, dy_2, dy_3, dy_7, dy_21, px_brT, px_brF, true_and, and_true, and_false, false_and, and_self, true_implies, false_implies, or_true, true_or, or_false, false_or, eq_self, ne_eq, not_false_eq_true, not_true_eq_false, if_true, if_false, List.mem_cons, List.not_mem_nil, List.length_cons, List.length_nil, Nat.reduceEqDiff, Nat.reduceAdd, Nat.reduceSub, Nat.reduceLeDiff, Nat.reduceLT, Int.reduceEq, Int.reduceLT, Int.reduceLE, Int.reduceNeg, Int.reduceAdd, Int.reduceSub, Int.reduceToNat, ↓reduceIte, one_ne_zero_, zero_ne_one_, px_in32L, cd_250]
  repeat' (first | (with_reducible apply And.intro) | (with_reducible refine px_br_intro (fun _ => ?_) (fun _ => ?_)))
  all_goals (try (first | (unfold px_in32; omega) | omega))
  refine lp_pk0 (M0 := M) (fun M1 a1 a2 => ?_) 0 (by decide) M (Int.le_refl 0) (fun y y0 y1 => by omega) (fun _ _ => rfl)
  have e128 : M1 128 = M 128 := a2 128 (by decide)
  have hT1 : tieC Mc (M1 128) := by rw [e128]; exact hT
  have hr := ci_inR hT.1
  refine lp_pk1 (M0 := M1) (Mc := Mc) hT1 (fun M2 hI b2 => ?_) 0 (by decide) M1 (Int.le_refl 0) ⟨fun c c0 c1 c2 c3 c4 => by have := hr c c0 c1 c2; omega, fun y y0 y1 _ => a1 y y0 y1⟩ (fun _ _ _ => rfl)
  have e2 : M2 128 = M 128 := by rw [b2 128 (by decide) (by decide), e128]
  have hT2 : tieC Mc (M2 128) := by rw [e2]; exact hT
  refine lp_pk3 (M0 := M2) (Mc := Mc) hT2 (fun M3 d1 d2 => ?_) 0 (by decide) M2 (Int.le_refl 0) (fun x => ⟨fun ⟨d, d0, d1, _⟩ => by omega, fun _ => rfl⟩) (fun _ _ => rfl)
  refine lp_pk4 (M0 := M3) (fun M4 f1 f2 => ?_) 0 (by decide) M3 (Int.le_refl 0) (fun x => by rw [if_neg (by omega)]) (fun _ _ => rfl)
  have hpart : ∀ c p, 0 ≤ c → c < 40 → 0 ≤ p → p < 6 → p ≠ 3 → rC (M4 128) c p = rC (M 128) c p := fun c p c0 c1 p0 p1 p3 => by
    unfold rC
    rw [f1, if_neg (by omega), (d1 _).2 (fun ⟨d, d0, d1, d2, d3, d4⟩ => by omega), e2]
  have h62 : Mc' 62 = Mc 62 := hf 62 (by decide) (by decide) (by decide)
  refine h M4 ⟨hci', fun c c0 c1 => by rw [h62, hpart c 0 c0 c1 (by decide) (by decide) (by decide)]; exact hT.2.1 c c0 c1, fun c p c0 c1 c2 p0 p1 => ?_, fun k k0 k1 => ?_⟩ (fun x x0 => ?_) ⟨fun b b0 => by rw [f2 b (by omega), d2 b (by omega), b2 b (by omega) (by omega), a2 b (by omega)], by rw [f2 130 (by decide), d2 130 (by decide), b2 130 (by decide) (by decide), a2 130 (by decide)], by rw [f2 127 (by decide), d2 127 (by decide), b2 127 (by decide) (by decide), a2 127 (by decide)]⟩
  · rw [h62] at c2
    by_cases q : p = 3
    · subst q
      show M4 128 (654 + 6 * c + 3) = Mc' 59 c
      rw [f1, if_neg (by omega), hpk.1 c c0 c1 c2]
      have hrr := hr c c0 c1 c2
      by_cases r : 0 < Mc 60 c
      · rw [(d1 _).1 ⟨c, c0, c1, c2, r, rfl⟩, if_pos r, show (654 + 6 * c + 3 - 657) / 6 = c by omega]
        exact (hI.1 c c0 c1 c2 r (by omega)).1
      · rw [(d1 _).2 (fun ⟨d, d0, d1, d2, d3, d4⟩ => r (by rw [show c = d by omega]; exact d3)), if_neg r, e2]
        exact (tieC_p hT c0 c1 c2).2.2.1
    · rw [hpart c p c0 c1 (by omega) (by omega) q, hT.2.2.1 c p c0 c1 c2 p0 p1]
      unfold cC
      rw [hf (56 + p) (by omega) (by omega) (by omega)]
  · rw [f1, if_pos (by omega), show 894 + k - 894 = k by omega, d2 147 (by decide)]
    exact pk_row hT.1 hI hpk k0 k1
  · rw [f1, if_neg (by omega), (d1 _).2 (fun ⟨d, d0, d1, d2, d3, d4⟩ => by omega), e2]
end PS
