set_option maxRecDepth 100000 in
/-- X11_move -/
theorem cd_116 : px_at 116 0 = some (1, [], .aload_n 0, []) ∧ px_at 116 1 = some (2, [], .iload_n 1, []) ∧ px_at 116 2 = some (3, [], .iload_n 2, []) ∧ px_at 116 3 = some (4, [], .iconst 1, []) ∧ px_at 116 4 = some (7, [], .invokevirtual 110, [118, 3, 10, 49]) ∧ px_at 116 7 = some (8, [], .ireturn, [0]) := ⟨rfl, rfl, rfl, rfl, rfl, rfl⟩
set_option maxRecDepth 100000 in
/-- X11_copy -/
theorem cd_117 : px_at 117 0 = some (1, [], .aload_n 0, []) ∧ px_at 117 1 = some (2, [], .iload_n 1, []) ∧ px_at 117 2 = some (3, [], .iload_n 2, []) ∧ px_at 117 3 = some (4, [], .iconst 0, []) ∧ px_at 117 4 = some (7, [], .invokevirtual 110, [118, 3, 10, 49]) ∧ px_at 117 7 = some (8, [], .ireturn, [0]) := ⟨rfl, rfl, rfl, rfl, rfl, rfl⟩
/-! both sides: move, copy -/
theorem wi_app {c a b : List Int} (hc : c ≠ []) : wi (c ++ a) (c ++ b) ↔ (a = b ∨ (a.take b.length = b ∧ a[b.length]? = some 47)) := by
  have e1 : (c ++ a).take (c ++ b).length = c ++ a.take b.length := by
    rw [List.length_append, List.take_append, List.take_of_length_le (by omega), show c.length + b.length - c.length = b.length by omega]
  have e2 : (c ++ a)[(c ++ b).length]? = a[b.length]? := by
    rw [List.length_append, List.getElem?_append_right (by omega), show c.length + b.length - c.length = b.length by omega]
  unfold wi ab
  rw [e1, e2, List.append_cancel_left_eq, List.append_cancel_left_eq]
  constructor
  · rintro (z | z)
    · exact Or.inl z
    · exact Or.inr ⟨z.2.1, z.2.2⟩
  · rintro (z | z)
    · exact Or.inl z
    · exact Or.inr ⟨fun y => hc (List.append_eq_nil_iff.mp y).1, z.1, z.2⟩
theorem wi_cut {x f : List Int} (h : wi x f) : x = f ++ x.drop f.length := by
  have h1 := wi_take h
  have h2 := List.take_append_drop f.length x
  rw [h1] at h2
  exact h2.symm
theorem rnp_wi {f t x y : List Int} (hf : f ≠ []) (ht : t ≠ []) (hx : wi x f) (hy : wi y f) : wi (rnp f t x) (rnp f t y) ↔ wi x y := by
  have h2 : wi x y ↔ wi (f ++ x.drop f.length) (f ++ y.drop f.length) := by rw [← wi_cut hx, ← wi_cut hy]
  unfold rnp
  rw [h2, wi_app hf, wi_app ht]
theorem rnp_mt {f t x y : List Int} (hf : f ≠ []) (ht : t ≠ []) (hx : wi x f) (hy : wi y f) (h : mt (rnp f t x) (rnp f t y)) : mt x y := by
  rcases h with z | z
  · exact Or.inl ((rnp_wi hf ht hx hy).mp z)
  · exact Or.inr ((rnp_wi hf ht hy hx).mp z)
theorem pthF_app : ∀ (l m : List Int) (b : Int), pthF b (l ++ 47 :: m) ↔ pthF b l ∧ pthF 1 m := by
  intro l
  induction l with
  | nil =>
    intro m b
    have e : sg 47 = 1 := by decide
    show (sg 47 ≠ 0 ∧ ¬ (sg 47 = 1 ∧ b = 1) ∧ pthF (sg 47) m) ↔ b ≠ 1 ∧ pthF 1 m
    rw [e]
    exact ⟨fun z => ⟨fun y => z.2.1 ⟨rfl, y⟩, z.2.2⟩, fun z => ⟨by decide, fun y => z.1 y.2, z.2⟩⟩
  | cons x l ih =>
    intro m b
    show (sg x ≠ 0 ∧ ¬ (sg x = 1 ∧ b = 1) ∧ pthF (sg x) (l ++ 47 :: m)) ↔ (sg x ≠ 0 ∧ ¬ (sg x = 1 ∧ b = 1) ∧ pthF (sg x) l) ∧ pthF 1 m
    rw [ih m (sg x)]
    exact ⟨fun z => ⟨⟨z.1, z.2.1, z.2.2.1⟩, z.2.2.2⟩, fun z => ⟨z.1.1, z.1.2.1, z.1.2.2, z.2⟩⟩
theorem rnp_isP {f t x : List Int} (ht : isP t) (hx : isP x) (hw : wi x f) : isP (rnp f t x) := by
  unfold rnp
  rcases hw with e | e
  · rw [e, List.drop_length, List.append_nil]; exact ht
  · have hd : x.drop f.length = 47 :: x.drop (f.length + 1) := by
      obtain ⟨h1, h2⟩ := List.getElem?_eq_some_iff.mp e.2.2
      rw [List.drop_eq_getElem_cons h1, h2]
    have hx2 : isP (f ++ 47 :: x.drop (f.length + 1)) := by
      have := wi_cut (Or.inr e : wi x f)
      rw [hd] at this
      rw [← this]; exact hx
    rw [hd]
    exact (pthF_app t _ 1).mpr ⟨ht, ((pthF_app f _ 1).mp hx2).2⟩
section PS
variable {M : px_mem} {Q : Option pv → px_mem → Prop}
set_option maxHeartbeats 600000 in
set_option maxRecDepth 100000 in
theorem sp_mv {p q : Int} (h : px_Ok 118 [(2, 1), (0, p), (0, q), (0, 1)] LAY M (fun r M' => ∃ v, r = some (0, v) ∧ Q (some (0, v)) M')) : px_Ok 116 [(2, 1), (0, p), (0, q)] LAY M Q := by
  refine px_ok_go (inl := []) (ls0 := [(2, 1), (0, p), (0, q)]) 60 (by decide) (Nat.le_of_ble_eq_true rfl) rfl ?_
  simp only [px_go, px_Q0_at, px_sx_0, px_sx_s, px_cl, px_step, ↓px_ll, px_lg, f4_, ↓px_r1, ↓px_r2, ↓px_r4, ↓px_r5, ↓px_p1, ↓px_p2, ↓px_p3, ↓px_pop, px_k_0, px_k_s, px_k3_0, px_stk_, px_cats, px_ent, px_st1, px_st2, px_mask, ↓px_tsw, ↓px_lsw, ct_, mls_0, mls_1, mls_2, mls_3, mls_4, mls_5, kd_0, kd_1, kd_2, kd_3, ln_0, ln_1, ln_2, ln_3, gf_0, gf_1, gf_2, gf_3, gf_4, gf_7, gf_21, gf_63, dy_0, dy_1, dy_2, dy_3, dy_7, dy_21, px_brT, px_brF, true_and, and_true, and_false, false_and, and_self, true_implies, false_implies, or_true, true_or, or_false, false_or, eq_self, ne_eq, not_false_eq_true, not_true_eq_false, if_true, if_false, List.mem_cons, List.not_mem_nil, List.length_cons, List.length_nil, Nat.reduceEqDiff, Nat.reduceAdd, Nat.reduceSub, Nat.reduceLeDiff, Nat.reduceLT, Int.reduceEq, Int.reduceLT, Int.reduceLE, Int.reduceNeg, Int.reduceAdd, Int.reduceSub, Int.reduceToNat, ↓reduceIte, one_ne_zero_, zero_ne_one_, px_in32L, cd_116]
  repeat' (first | (with_reducible apply And.intro) | (with_reducible refine px_br_intro (fun _ => ?_) (fun _ => ?_)))
  all_goals (try (first | (unfold px_in32; omega) | omega))
  refine h.mono (fun r M' hh => ?_)
  obtain ⟨v, e, hq⟩ := hh
  subst e
  simp only [px_go, px_Q0_at, px_sx_0, px_sx_s, px_cl, px_step, ↓px_ll, px_lg, f4_, ↓px_r1, ↓px_r2, ↓px_r4, ↓px_r5, ↓px_p1, ↓px_p2, ↓px_p3, ↓px_pop, px_k_0, px_k_s, px_k3_0, px_stk_, px_cats, px_ent, px_st1, px_st2, px_mask, ↓px_tsw, ↓px_lsw, ct_, mls_0, mls_1, mls_2, mls_3, mls_4, mls_5, kd_0, kd_1, kd_2, kd_3, ln_0, ln_1, ln_2, ln_3, gf_0, gf_1, gf_2, gf_3, gf_4, gf_7, gf_21, gf_63, dy_0, dy_1, dy_2, dy_3, dy_7, dy_21, px_brT, px_brF, true_and, and_true, and_false, false_and, and_self, true_implies, false_implies, or_true, true_or, or_false, false_or, eq_self, ne_eq, not_false_eq_true, not_true_eq_false, if_true, if_false, List.mem_cons, List.not_mem_nil, List.length_cons, List.length_nil, Nat.reduceEqDiff, Nat.reduceAdd, Nat.reduceSub, Nat.reduceLeDiff, Nat.reduceLT, Int.reduceEq, Int.reduceLT, Int.reduceLE, Int.reduceNeg, Int.reduceAdd, Int.reduceSub, Int.reduceToNat, ↓reduceIte, one_ne_zero_, zero_ne_one_, px_in32L, cd_116]
  exact hq
set_option maxHeartbeats 600000 in
set_option maxRecDepth 100000 in
theorem sp_cp {p q : Int} (h : px_Ok 118 [(2, 1), (0, p), (0, q), (0, 0)] LAY M (fun r M' => ∃ v, r = some (0, v) ∧ Q (some (0, v)) M')) : px_Ok 117 [(2, 1), (0, p), (0, q)] LAY M Q := by
  refine px_ok_go (inl := []) (ls0 := [(2, 1), (0, p), (0, q)]) 60 (by decide) (Nat.le_of_ble_eq_true rfl) rfl ?_
  simp only [px_go, px_Q0_at, px_sx_0, px_sx_s, px_cl, px_step, ↓px_ll, px_lg, f4_, ↓px_r1, ↓px_r2, ↓px_r4, ↓px_r5, ↓px_p1, ↓px_p2, ↓px_p3, ↓px_pop, px_k_0, px_k_s, px_k3_0, px_stk_, px_cats, px_ent, px_st1, px_st2, px_mask, ↓px_tsw, ↓px_lsw, ct_, mls_0, mls_1, mls_2, mls_3, mls_4, mls_5, kd_0, kd_1, kd_2, kd_3, ln_0, ln_1, ln_2, ln_3, gf_0, gf_1, gf_2, gf_3, gf_4, gf_7, gf_21, gf_63, dy_0, dy_1, dy_2, dy_3, dy_7, dy_21, px_brT, px_brF, true_and, and_true, and_false, false_and, and_self, true_implies, false_implies, or_true, true_or, or_false, false_or, eq_self, ne_eq, not_false_eq_true, not_true_eq_false, if_true, if_false, List.mem_cons, List.not_mem_nil, List.length_cons, List.length_nil, Nat.reduceEqDiff, Nat.reduceAdd, Nat.reduceSub, Nat.reduceLeDiff, Nat.reduceLT, Int.reduceEq, Int.reduceLT, Int.reduceLE, Int.reduceNeg, Int.reduceAdd, Int.reduceSub, Int.reduceToNat, ↓reduceIte, one_ne_zero_, zero_ne_one_, px_in32L, cd_117]
  repeat' (first | (with_reducible apply And.intro) | (with_reducible refine px_br_intro (fun _ => ?_) (fun _ => ?_)))
  all_goals (try (first | (unfold px_in32; omega) | omega))
  refine h.mono (fun r M' hh => ?_)
  obtain ⟨v, e, hq⟩ := hh
  subst e
  simp only [px_go, px_Q0_at, px_sx_0, px_sx_s, px_cl, px_step, ↓px_ll, px_lg, f4_, ↓px_r1, ↓px_r2, ↓px_r4, ↓px_r5, ↓px_p1, ↓px_p2, ↓px_p3, ↓px_pop, px_k_0, px_k_s, px_k3_0, px_stk_, px_cats, px_ent, px_st1, px_st2, px_mask, ↓px_tsw, ↓px_lsw, ct_, mls_0, mls_1, mls_2, mls_3, mls_4, mls_5, kd_0, kd_1, kd_2, kd_3, ln_0, ln_1, ln_2, ln_3, gf_0, gf_1, gf_2, gf_3, gf_4, gf_7, gf_21, gf_63, dy_0, dy_1, dy_2, dy_3, dy_7, dy_21, px_brT, px_brF, true_and, and_true, and_false, false_and, and_self, true_implies, false_implies, or_true, true_or, or_false, false_or, eq_self, ne_eq, not_false_eq_true, not_true_eq_false, if_true, if_false, List.mem_cons, List.not_mem_nil, List.length_cons, List.length_nil, Nat.reduceEqDiff, Nat.reduceAdd, Nat.reduceSub, Nat.reduceLeDiff, Nat.reduceLT, Int.reduceEq, Int.reduceLT, Int.reduceLE, Int.reduceNeg, Int.reduceAdd, Int.reduceSub, Int.reduceToNat, ↓reduceIte, one_ne_zero_, zero_ne_one_, px_in32L, cd_117]
  exact hq
theorem op_move (p q : Int) : opO 116 232 [(0, p), (0, q)] := by
  intro M hR
  have hR2 := hR
  obtain ⟨pl, nm, N, g, hR3⟩ := hR
  have hR4 := hR3
  obtain ⟨hC, hT, hS, hP, hs⟩ := hR3
  have htb := tp_b hP hC.1
  have e3 := hP.1
  have hw : twq M p q ↔ twoOk M p q := by unfold twq twoOk; rw [e3]
  have f127 : px_up M 2 1 0 127 = M 127 := row_ne (by decide)
  have f128 : px_up M 2 1 0 128 = M 128 := row_ne (by decide)
  have f130 : px_up M 2 1 0 130 = M 130 := row_ne (by decide)
  have hw0 : twq (px_up M 2 1 0) p q ↔ twq M p q := by unfold twq; rw [f127]
  have ha := hC.2.2.1
  have et : twoOk M p q → tw (M 130) 0 p = cfr M p := fun z => tp_w0 hP (by unfold twoOk at z; omega)
  have et2 : twoOk M p q → tw (M 130) p q = cto M p q := fun z => tp_w hP (by unfold twoOk at z; omega) (by unfold twoOk at z; omega)
  have hfn : ∀ i, 0 ≤ i → i < N → okp (g i).1 := fun i i0 i1 => (hC.2.1.2.2.2.2 i i0 i1).1
  refine sp_mv ?_
  refine sp_carry hC.1 hC.2.1 ha (Or.inr rfl) (fun z => ⟨_, rfl, ⟨_, rfl, ?_⟩⟩) (fun z1 z2 => ⟨_, rfl, ⟨_, rfl, ?_⟩⟩) (fun z1 z2 z3 z4 => ⟨_, rfl, ⟨_, rfl, ?_⟩⟩) (fun z1 z2 z3 z4 z5 => ⟨_, rfl, ⟨_, rfl, ?_⟩⟩) (fun z1 z2 z3 z4 z5 => absurd z5 (by decide)) (fun M1 g1 z1 z2 z3 z4 _ z5 z6 z7 z8 z9 => ⟨_, rfl, ⟨_, rfl, ?_⟩⟩) (fun M1 g1 z1 z2 z3 z4 z5 => absurd z5 (by decide))
  · exact sp_rmove htb hS ha (fun _ => ⟨rfl, hR2⟩) (fun M2 q1 => absurd (hw.mp q1) z) (fun M2 q1 => absurd (hw.mp q1) z) (fun M2 q1 => absurd (hw.mp q1) z) (fun M2 g2 q1 => absurd (hw.mp q1) z)
  · refine sp_rmove (by rw [f127]; exact htb) (by rw [f128]; exact hS) ha (fun y => absurd (hw0.mpr (hw.mpr z1)) y) (fun M2 q1 q2 q3 q4 => ⟨rfl, RR_t0 hR4 q3 q4⟩) (fun M2 q1 q2 q3 => ?_) (fun M2 q1 q2 q3 => ?_) (fun M2 g2 q1 q2 q3 => ?_) <;>
      (rw [f130, et z1] at q2; rw [f130, et2 z1] at q3; exact absurd ⟨q2, q3⟩ z2)
  · refine sp_rmove (by rw [f127]; exact htb) (by rw [f128]; exact hS) ha (fun y => absurd (hw0.mpr (hw.mpr z1)) y) (fun M2 q1 q2 q3 q4 => ?_) (fun M2 q1 q2 q3 q4 q5 q6 => ⟨rfl, RR_t0 hR4 q5 q6⟩) (fun M2 q1 q2 q3 q4 => ?_) (fun M2 g2 q1 q2 q3 q4 => ?_)
    · rw [f130, et z1, et2 z1] at q2; exact absurd ⟨z2, z3⟩ q2
    · rw [f130, et z1] at q4; exact absurd z4 q4
    · rw [f130, et z1] at q4; exact absurd z4 q4
  · rw [if_pos rfl] at z5
    refine sp_rmove (by rw [f127]; exact htb) (by rw [f128]; exact hS) ha (fun y => absurd (hw0.mpr (hw.mpr z1)) y) (fun M2 q1 q2 q3 q4 => ?_) (fun M2 q1 q2 q3 q4 q5 q6 => ?_) (fun M2 q1 q2 q3 q4 q5 q6 q7 => ⟨rfl, RR_t0 hR4 q6 q7⟩) (fun M2 g2 q1 q2 q3 q4 q5 => ?_)
    · rw [f130, et z1, et2 z1] at q2; exact absurd ⟨z2, z3⟩ q2
    · rw [f130, et z1] at q4; exact absurd q4 z4
    · rw [f130, et z1, et2 z1] at q5; exact absurd q5 z5
  · have g127 : M1 127 = M 127 := z9.2.2.2 127 (by decide) (by decide) (by decide) (by decide) (by decide) (by decide)
    have g128 : M1 128 = M 128 := z9.2.2.2 128 (by decide) (by decide) (by decide) (by decide) (by decide) (by decide)
    have g130 : M1 130 = M 130 := z9.2.2.2 130 (by decide) (by decide) (by decide) (by decide) (by decide) (by decide)
    have hw1 : twq M1 p q := by unfold twq; rw [g127, e3]; exact z1
    refine sp_rmove (by rw [g127]; exact htb) (by rw [g128]; exact hS) ha (fun y => absurd hw1 y) (fun M2 q1 q2 q3 q4 => ?_) (fun M2 q1 q2 q3 q4 q5 q6 => ?_) (fun M2 q1 q2 q3 q4 q5 q6 q7 => ?_) (fun M2 g2 q1 q2 q3 q4 q5 q6 q7 q8 q9 q10 => ?_)
    · rw [g130, et z1, et2 z1] at q2; exact absurd ⟨z2, z3⟩ q2
    · rw [g130, et z1] at q4; exact absurd q4 z4
    · rw [g130, et z1, et2 z1] at q5; exact absurd z5 q5
    · rw [g130, et z1, et2 z1] at q8
      obtain ⟨_, hsR⟩ := st_same z6 z7 q6 q7 (fun x => by rw [z8 x, q8 x])
      refine ⟨by rw [g130, et z1], RR_stg hR4 z9 z6 (sgI_of z7 (fun x y hx hy hm => ?_) (fun x hx => ?_)) hsR q9 q10⟩
      · rw [z8 x] at hx
        rw [z8 y] at hy
        obtain ⟨i, i0, i1, rfl⟩ := hx
        obtain ⟨j, j0, j1, rfl⟩ := hy
        have hcr : ∀ i j, 0 ≤ i → i < N → 0 ≤ j → j < N → wi (g i).1 (cfr M p) → ¬ wi (g j).1 (cfr M p) → mt (g j).1 (rnp (cfr M p) (cto M p q) (g i).1) → False := fun i j i0 i1 j0 j1 w1 w2 hm => (z5 i i0 i1 w1).2 ⟨j, j0, j1, w2, hm⟩
        have hij : i = j := by
          dsimp only at hm
          by_cases w1 : wi (g i).1 (cfr M p)
          · rw [rnF_t w1] at hm
            by_cases w2 : wi (g j).1 (cfr M p)
            · rw [rnF_t w2] at hm
              exact ha.2.1 i j i0 i1 j0 j1 (rnp_mt (isP_ne z2) (isP_ne z3) w1 w2 hm)
            · rw [rnF_f w2] at hm
              exact (hcr i j i0 i1 j0 j1 w1 w2 (mt_sym hm)).elim
          · rw [rnF_f w1] at hm
            by_cases w2 : wi (g j).1 (cfr M p)
            · rw [rnF_t w2] at hm
              exact (hcr j i j0 j1 i0 i1 w2 w1 hm).elim
            · rw [rnF_f w2] at hm
              exact ha.2.1 i j i0 i1 j0 j1 hm
        rw [hij]
      · rw [z8 x] at hx
        obtain ⟨i, i0, i1, rfl⟩ := hx
        dsimp only
        by_cases w1 : wi (g i).1 (cfr M p)
        · rw [rnF_t w1]; exact rnp_isP z3 (ha.2.2 i i0 i1) w1
        · rw [rnF_f w1]; exact ha.2.2 i i0 i1
theorem op_copy (p q : Int) : opO 117 233 [(0, p), (0, q)] := by
  intro M hR
  have hR2 := hR
  obtain ⟨pl, nm, N, g, hR3⟩ := hR
  have hR4 := hR3
  obtain ⟨hC, hT, hS, hP, hs⟩ := hR3
  have htb := tp_b hP hC.1
  have e3 := hP.1
  have hw : twq M p q ↔ twoOk M p q := by unfold twq twoOk; rw [e3]
  have f127 : px_up M 2 1 0 127 = M 127 := row_ne (by decide)
  have f128 : px_up M 2 1 0 128 = M 128 := row_ne (by decide)
  have f130 : px_up M 2 1 0 130 = M 130 := row_ne (by decide)
  have hw0 : twq (px_up M 2 1 0) p q ↔ twq M p q := by unfold twq; rw [f127]
  have ha := hC.2.2.1
  have et : twoOk M p q → tw (M 130) 0 p = cfr M p := fun z => tp_w0 hP (by unfold twoOk at z; omega)
  have et2 : twoOk M p q → tw (M 130) p q = cto M p q := fun z => tp_w hP (by unfold twoOk at z; omega) (by unfold twoOk at z; omega)
  refine sp_cp ?_
  refine sp_carry hC.1 hC.2.1 ha (Or.inl rfl) (fun z => ⟨_, rfl, ⟨_, rfl, ?_⟩⟩) (fun z1 z2 => ⟨_, rfl, ⟨_, rfl, ?_⟩⟩) (fun z1 z2 z3 z4 => ⟨_, rfl, ⟨_, rfl, ?_⟩⟩) (fun z1 z2 z3 z4 z5 => ⟨_, rfl, ⟨_, rfl, ?_⟩⟩) (fun z1 z2 z3 z4 _ z5 z6 => ⟨_, rfl, ⟨_, rfl, ?_⟩⟩) (fun M1 g1 z1 z2 z3 z4 z5 => absurd z5 (by decide)) (fun M1 g1 z1 z2 z3 z4 _ z5 z10 z6 z7 z8 z9 => ⟨_, rfl, ⟨_, rfl, ?_⟩⟩)
  · exact sp_rcopy htb hS ha (fun _ => ⟨rfl, hR2⟩) (fun M2 q1 => absurd (hw.mp q1) z) (fun M2 q1 => absurd (hw.mp q1) z) (fun M2 q1 => absurd (hw.mp q1) z) (fun M2 q1 => absurd (hw.mp q1) z) (fun M2 g2 q1 => absurd (hw.mp q1) z)
  · refine sp_rcopy (by rw [f127]; exact htb) (by rw [f128]; exact hS) ha (fun y => absurd (hw0.mpr (hw.mpr z1)) y) (fun M2 q1 q2 q3 q4 => ⟨rfl, RR_t0 hR4 q3 q4⟩) (fun M2 q1 q2 q3 => ?_) (fun M2 q1 q2 q3 => ?_) (fun M2 q1 q2 q3 => ?_) (fun M2 g2 q1 q2 q3 => ?_) <;>
      (rw [f130, et z1] at q2; rw [f130, et2 z1] at q3; exact absurd ⟨q2, q3⟩ z2)
  · refine sp_rcopy (by rw [f127]; exact htb) (by rw [f128]; exact hS) ha (fun y => absurd (hw0.mpr (hw.mpr z1)) y) (fun M2 q1 q2 q3 q4 => ?_) (fun M2 q1 q2 q3 q4 q5 q6 => ⟨rfl, RR_t0 hR4 q5 q6⟩) (fun M2 q1 q2 q3 q4 => ?_) (fun M2 q1 q2 q3 q4 => ?_) (fun M2 g2 q1 q2 q3 q4 => ?_)
    · rw [f130, et z1, et2 z1] at q2; exact absurd ⟨z2, z3⟩ q2
    · rw [f130, et z1] at q4; exact absurd z4 q4
    · rw [f130, et z1] at q4; exact absurd z4 q4
    · rw [f130, et z1] at q4; exact absurd z4 q4
  · rw [if_neg (by decide)] at z5
    refine sp_rcopy (by rw [f127]; exact htb) (by rw [f128]; exact hS) ha (fun y => absurd (hw0.mpr (hw.mpr z1)) y) (fun M2 q1 q2 q3 q4 => ?_) (fun M2 q1 q2 q3 q4 q5 q6 => ?_) (fun M2 q1 q2 q3 q4 q5 q6 q7 => ⟨rfl, RR_t0 hR4 q6 q7⟩) (fun M2 q1 q2 q3 q4 q5 => ?_) (fun M2 g2 q1 q2 q3 q4 q5 => ?_)
    · rw [f130, et z1, et2 z1] at q2; exact absurd ⟨z2, z3⟩ q2
    · rw [f130, et z1] at q4; exact absurd q4 z4
    · rw [f130, et z1, et2 z1] at q5; exact absurd q5 z5
    · rw [f130, et z1, et2 z1] at q5; exact absurd q5 z5
  · refine sp_rcopy (by rw [f127]; exact htb) (by rw [f128]; exact hS) ha (fun y => absurd (hw0.mpr (hw.mpr z1)) y) (fun M2 q1 q2 q3 q4 => ?_) (fun M2 q1 q2 q3 q4 q5 q6 => ?_) (fun M2 q1 q2 q3 q4 q5 q6 q7 => ?_) (fun M2 q1 q2 q3 q4 q5 q6 q7 q8 => ⟨rfl, RR_t0 hR4 q7 q8⟩) (fun M2 g2 q1 q2 q3 q4 q5 q6 => ?_)
    · rw [f130, et z1, et2 z1] at q2; exact absurd ⟨z2, z3⟩ q2
    · rw [f130, et z1] at q4; exact absurd q4 z4
    · rw [f130, et z1, et2 z1] at q5; exact absurd z5 q5
    · rw [f130, et z1] at q6; omega
  · have g127 : M1 127 = M 127 := z9.2.2.2 127 (by decide) (by decide) (by decide) (by decide) (by decide) (by decide)
    have g128 : M1 128 = M 128 := z9.2.2.2 128 (by decide) (by decide) (by decide) (by decide) (by decide) (by decide)
    have g130 : M1 130 = M 130 := z9.2.2.2 130 (by decide) (by decide) (by decide) (by decide) (by decide) (by decide)
    have hw1 : twq M1 p q := by unfold twq; rw [g127, e3]; exact z1
    refine sp_rcopy (by rw [g127]; exact htb) (by rw [g128]; exact hS) ha (fun y => absurd hw1 y) (fun M2 q1 q2 q3 q4 => ?_) (fun M2 q1 q2 q3 q4 q5 q6 => ?_) (fun M2 q1 q2 q3 q4 q5 q6 q7 => ?_) (fun M2 q1 q2 q3 q4 q5 q6 q7 q8 => ?_) (fun M2 g2 q1 q2 q3 q4 q5 q11 q6 q7 q8 q9 q10 => ?_)
    · rw [g130, et z1, et2 z1] at q2; exact absurd ⟨z2, z3⟩ q2
    · rw [g130, et z1] at q4; exact absurd q4 z4
    · rw [g130, et z1, et2 z1] at q5; exact absurd z5 q5
    · rw [g130, et z1] at q6; omega
    · rw [g130, et z1] at q6 q7
      rw [g130, et z1, et2 z1] at q8
      obtain ⟨_, hsR⟩ := st_same z6 z7 q6 q7 (fun x => by rw [z8 x, q8 x])
      refine ⟨by rw [g130, et z1], RR_stg hR4 z9 z6 (sgI_of z7 (fun x y hx hy hm => ?_) (fun x hx => ?_)) hsR q9 q10⟩
      · rw [z8 x] at hx
        rw [z8 y] at hy
        have hcr : ∀ (w : fe) i, isM N g w → 0 ≤ i → i < N → wi (g i).1 (cfr M p) → mt w.1 (rnp (cfr M p) (cto M p q) (g i).1) → False := fun w i hw9 i0 i1 w1 hm => by
          obtain ⟨j, j0, j1, rfl⟩ := hw9
          exact (z5 i i0 i1 w1).2 ⟨j, j0, j1, wi_nil (isP_ne (ha.2.2 j j0 j1)), hm⟩
        rcases hx with hx | ⟨i, i0, i1, i2, rfl⟩
        · rcases hy with hy | ⟨j, j0, j1, j2, rfl⟩
          · rw [sgI_m ha hx hy hm]
          · exact (hcr x j hx j0 j1 j2 hm).elim
        · rcases hy with hy | ⟨j, j0, j1, j2, rfl⟩
          · exact (hcr y i hy i0 i1 i2 (mt_sym hm)).elim
          · have := ha.2.1 i j i0 i1 j0 j1 (rnp_mt (isP_ne z2) (isP_ne z3) i2 j2 hm)
            rw [this]
      · rw [z8 x] at hx
        rcases hx with hx | ⟨i, i0, i1, i2, rfl⟩
        · exact sgI_p ha hx
        · exact rnp_isP z3 (ha.2.2 i i0 i1) i2
end PS
