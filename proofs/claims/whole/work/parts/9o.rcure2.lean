/-! the reference: cure, whole -/
theorem crtr_le {N : Int} {g : Int → fe} {M : px_mem} : ∀ (k : Nat) (M' : px_mem) (n : Int), crtr N g M k M' n → 0 ≤ n ∧ n ≤ k := by
  intro k
  induction k with
  | zero => intro M' n h; have := h.2; omega
  | succ k ih =>
    intro M' n h
    obtain ⟨M1, n1, d, h1, h2, h3⟩ := h
    have h4 := ih M1 n1 h1
    have hd : d = 1 ∨ d = 0 := by
      rcases h2 with z | z
      · exact Or.inl z.2.2.1
      · exact Or.inr z.2.1
    omega
theorem rdtr_chain {N : Int} {g : Int → fe} {M : px_mem} : ∀ (k : Nat) (M' : px_mem) (n : Int), rdtr N g M k M' n → ∃ (Ms : Nat → px_mem) (ns : Nat → Int), Ms 0 = M ∧ ns 0 = 0 ∧ Ms k = M' ∧ ns k = n ∧ ∀ i : Nat, i < k → ∃ d, crtr N g (Ms i) 40 (Ms (i + 1)) d ∧ 0 < d ∧ ns (i + 1) = ns i + d := by
  intro k
  induction k with
  | zero =>
    intro M' n h
    exact ⟨fun _ => M, fun _ => 0, rfl, rfl, h.1.symm, h.2.symm, fun i hi => absurd hi (Nat.not_lt_zero i)⟩
  | succ k ih =>
    intro M' n h
    obtain ⟨M1, n1, d, h1, h2, h2', h3⟩ := h
    obtain ⟨Ms, ns, m0, r0, m1, r1, hh⟩ := ih M1 n1 h1
    refine ⟨fun i => if i = k + 1 then M' else Ms i, fun i => if i = k + 1 then n else ns i, ?_, ?_, if_pos rfl, if_pos rfl, fun i hi => ?_⟩
    · show (if 0 = k + 1 then M' else Ms 0) = M
      rw [if_neg (by omega)]; exact m0
    · show (if 0 = k + 1 then n else ns 0) = 0
      rw [if_neg (by omega)]; exact r0
    · show ∃ d, crtr N g (if i = k + 1 then M' else Ms i) 40 (if i + 1 = k + 1 then M' else Ms (i + 1)) d ∧ 0 < d ∧ (if i + 1 = k + 1 then n else ns (i + 1)) = (if i = k + 1 then n else ns i) + d
      have ne : ¬ i = k + 1 := by omega
      simp only [if_neg ne]
      by_cases e : i = k
      · have e2 : i + 1 = k + 1 := by omega
        simp only [if_pos e2]
        rw [e, m1, r1]; exact ⟨d, h2, h2', h3⟩
      · have e2 : ¬ i + 1 = k + 1 := by omega
        simp only [if_neg e2]
        exact hh i (by omega)
section PS
variable {M : px_mem} {Q : Option pv → px_mem → Prop}
set_option maxHeartbeats 4000000 in
set_option maxRecDepth 100000 in
theorem lp_rcure2 {M0 Mf : px_mem} {Rs : Nat → px_mem} {tot : Nat → Int} {N : Int} {g : Int → fe} {k : Nat} (hk : k ≤ 4) (hst : sR (M0 128) N g) (hch : ∀ i : Nat, i < k → ∃ d, crtr N g (Rs i) 40 (Rs (i + 1)) d ∧ 0 < d ∧ tot (i + 1) = tot i + d) (hend : crtr N g (Rs k) 40 Mf 0) (h : ∀ M', tieC Mf (M' 128) → (∀ x, ¬ (894 ≤ x ∧ x < 1294) → M' 128 x = M0 128 x) → frC M' M0 → Q (some (0, tot k)) M') : ∀ (j i : Nat) (M : px_mem), i + j = k → tieC (Rs i) (M 128) → (0 ≤ tot i ∧ tot i ≤ 40 * (i : Int)) → (∀ x, ¬ (894 ≤ x ∧ x < 1294) → M 128 x = M0 128 x) → frC M M0 → px_WP 258 0 0 (px_Q0 LAY Q) 4 [(2, 127), (0, tot i), (0, 1), (9, 0)] [] LAY M 0 0 := by
  intro j
  induction j with
  | zero =>
    intro i M hij hT ht hlo hfr
    have ei : i = k := by omega
    subst ei
    obtain ⟨Ms, ns, m0, n0, m1, n1, hc⟩ := crtr_chain _ _ _ hend
    have hstM : sR (M 128) N g := sR_frame hst (hlo 0 (by omega)) (fun x x0 x1 => hlo x (by omega))
    have := lp_rcure1 (M0 := M) (Q := Q) (Ms := Ms) (ns := ns) (N := N) (n0 := tot i) (g := g) hstM (by omega) hc (fun M' m a1 a2 a3 a4 => by
      rw [n1] at a2
      have em : m = 0 := by omega
      rw [n1, Int.add_zero, em]
      refine px_go_ok (inl := []) 60 ?_
      simp only [px_go, px_Q0_at, px_sx_0, px_sx_s, px_cl, px_step, ↓px_ll, px_lg, f4_, ↓px_r1, ↓px_r2, ↓px_r4, ↓px_r5, ↓px_p1, ↓px_p2, ↓px_p3, ↓px_pop, px_k_0, px_k_s, px_k3_0, px_stk_, px_cats, px_ent, px_st1, px_st2, px_mask, ↓px_tsw, ↓px_lsw, ct_, mls_0, mls_1, mls_2, mls_3, mls_4, mls_5, kd_0, kd_1, kd_2, kd_3, ln_0, ln_1, ln_2, ln_3, gf_0, gf_1, gf_2, gf_3, gf_4, gf_7, gf_21, gf_63, dy_0, dy_1, dy_2, dy_3, dy_7, dy_21, px_brT, px_brF, true_and, and_true, and_false, false_and, and_self, true_implies, false_implies, or_true, true_or, or_false, false_or, eq_self, ne_eq, not_false_eq_true, not_true_eq_false, if_true, if_false, List.mem_cons, List.not_mem_nil, List.length_cons, List.length_nil, Nat.reduceEqDiff, Nat.reduceAdd, Nat.reduceSub, Nat.reduceLeDiff, Nat.reduceLT, Int.reduceEq, Int.reduceLT, Int.reduceLE, Int.reduceNeg, Int.reduceAdd, Int.reduceSub, Int.reduceToNat, ↓reduceIte, one_ne_zero_, zero_ne_one_, px_in32L, cd_258]
      rw [m1] at a1
      exact h M' a1 (fun x x0 => by rw [a3 x x0]; exact hlo x x0) (frC_trans a4 hfr)) 0 (by decide) M 0 (Int.le_refl 0) (by show tieC (Ms 0) _; rw [m0]; exact hT) (by show ((0 : Int) = 0 ∧ ns 0 = 0 ∨ _) ∧ ns 0 ≤ 0; rw [n0]; exact ⟨Or.inl ⟨rfl, rfl⟩, Int.le_refl 0⟩) (fun _ _ => rfl) (frC_refl M)
    rw [show (0 : Int).toNat = 0 from rfl, n0, Int.add_zero] at this
    refine px_go_ok (inl := []) 60 ?_
    simp only [px_go, px_Q0_at, px_sx_0, px_sx_s, px_cl, px_step, ↓px_ll, px_lg, f4_, ↓px_r1, ↓px_r2, ↓px_r4, ↓px_r5, ↓px_p1, ↓px_p2, ↓px_p3, ↓px_pop, px_k_0, px_k_s, px_k3_0, px_stk_, px_cats, px_ent, px_st1, px_st2, px_mask, ↓px_tsw, ↓px_lsw, ct_, mls_0, mls_1, mls_2, mls_3, mls_4, mls_5, kd_0, kd_1, kd_2, kd_3, ln_0, ln_1, ln_2, ln_3, gf_0, gf_1, gf_2, gf_3, gf_4, gf_7, gf_21, gf_63, dy_0, dy_1, dy_2, dy_3, dy_7, dy_21, px_brT, px_brF, true_and, and_true, and_false, false_and, and_self, true_implies, false_implies, or_true, true_or, or_false, false_or, eq_self, ne_eq, not_false_eq_true, not_true_eq_false, if_true, if_false, List.mem_cons, List.not_mem_nil, List.length_cons, List.length_nil, Nat.reduceEqDiff, Nat.reduceAdd, Nat.reduceSub, Nat.reduceLeDiff, Nat.reduceLT, Int.reduceEq, Int.reduceLT, Int.reduceLE, Int.reduceNeg, Int.reduceAdd, Int.reduceSub, Int.reduceToNat, ↓reduceIte, one_ne_zero_, zero_ne_one_, px_in32L, cd_258]
    exact this
  | succ j ih =>
    intro i M hij hT ht hlo hfr
    obtain ⟨d, hd, hd0, hd1⟩ := hch i (by omega)
    have hdl := crtr_le _ _ _ hd
    obtain ⟨Ms, ns, m0, n0, m1, n1, hc⟩ := crtr_chain _ _ _ hd
    have hstM : sR (M 128) N g := sR_frame hst (hlo 0 (by omega)) (fun x x0 x1 => hlo x (by omega))
    have := lp_rcure1 (M0 := M) (Q := Q) (Ms := Ms) (ns := ns) (N := N) (n0 := tot i) (g := g) hstM (by omega) hc (fun M' m a1 a2 a3 a4 => by
      rw [n1] at a2
      have em : m = 1 := by omega
      rw [n1, em, ← hd1]
      rw [m1] at a1
      exact ih (i + 1) M' (by omega) a1 (by omega) (fun x x0 => by rw [a3 x x0]; exact hlo x x0) (frC_trans a4 hfr)) 0 (by decide) M 0 (Int.le_refl 0) (by show tieC (Ms 0) _; rw [m0]; exact hT) (by show ((0 : Int) = 0 ∧ ns 0 = 0 ∨ _) ∧ ns 0 ≤ 0; rw [n0]; exact ⟨Or.inl ⟨rfl, rfl⟩, Int.le_refl 0⟩) (fun _ _ => rfl) (frC_refl M)
    rw [show (0 : Int).toNat = 0 from rfl, n0, Int.add_zero] at this
    refine px_go_ok (inl := []) 60 ?_
    simp only [px_go, px_Q0_at, px_sx_0, px_sx_s, px_cl, px_step, ↓px_ll, px_lg, f4_, ↓px_r1, ↓px_r2, ↓px_r4, ↓px_r5, ↓px_p1, ↓px_p2, ↓px_p3, ↓px_pop, px_k_0, px_k_s, px_k3_0, px_stk_, px_cats, px_ent, px_st1, px_st2, px_mask, ↓px_tsw, ↓px_lsw, ct_, mls_0, mls_1, mls_2, mls_3, mls_4, mls_5, kd_0, kd_1, kd_2, kd_3, ln_0, ln_1, ln_2, ln_3, gf_0, gf_1, gf_2, gf_3, gf_4, gf_7, gf_21, gf_63, dy_0, dy_1, dy_2, dy_3, dy_7, dy_21, px_brT, px_brF, true_and, and_true, and_false, false_and, and_self, true_implies, false_implies, or_true, true_or, or_false, false_or, eq_self, ne_eq, not_false_eq_true, not_true_eq_false, if_true, if_false, List.mem_cons, List.not_mem_nil, List.length_cons, List.length_nil, Nat.reduceEqDiff, Nat.reduceAdd, Nat.reduceSub, Nat.reduceLeDiff, Nat.reduceLT, Int.reduceEq, Int.reduceLT, Int.reduceLE, Int.reduceNeg, Int.reduceAdd, Int.reduceSub, Int.reduceToNat, ↓reduceIte, one_ne_zero_, zero_ne_one_, px_in32L, cd_258]
    exact this
set_option maxHeartbeats 600000 in
set_option maxRecDepth 100000 in
theorem sp_rcure {Mc Mf M1 : px_mem} {k : Nat} {N n : Int} {g : Int → fe} (hT : tieC Mc (M 128)) (hst : sR (M 128) N g) (hk : k ≤ 4) (hr : rdtr N g Mc k M1 n) (hend : crtr N g M1 40 Mf 0) (h : ∀ M', tieC Mf (M' 128) → (∀ x, ¬ (894 ≤ x ∧ x < 1294) → M' 128 x = M 128 x) → out M' M → Q (some (0, n)) M') : px_Ok 258 [(2, 127)] LAY M Q := by
  refine px_ok_go (inl := []) (ls0 := [(2, 127), (9, 0), (9, 0), (9, 0)]) 60 (by decide) (Nat.le_of_ble_eq_true rfl) rfl ?_
  simp only [px_go, px_Q0_at, px_sx_0, px_sx_s, px_cl, px_step, ↓px_ll, px_lg, f4_, ↓px_r1, ↓px_r2, ↓px_r4, ↓px_r5, ↓px_p1, ↓px_p2, ↓px_p3, ↓px_pop, px_k_0, px_k_s, px_k3_0, px_stk_, px_cats, px_ent, px_st1, px_st2, px_mask, ↓px_tsw, ↓px_lsw, ct_, mls_0, mls_1, mls_2, mls_3, mls_4, mls_5, kd_0, kd_1, kd_2, kd_3, ln_0, ln_1, ln_2, ln_3, gf_0, gf_1, gf_2, gf_3, gf_4, gf_7, gf_21, gf_63, dy_0, dy_1, dy_2, dy_3, dy_7, dy_21, px_brT, px_brF, true_and, and_true, and_false, false_and, and_self, true_implies, false_implies, or_true, true_or, or_false, false_or, eq_self, ne_eq, not_false_eq_true, not_true_eq_false, if_true, if_false, List.mem_cons, List.not_mem_nil, List.length_cons, List.length_nil, Nat.reduceEqDiff, Nat.reduceAdd, Nat.reduceSub, Nat.reduceLeDiff, Nat.reduceLT, Int.reduceEq, Int.reduceLT, Int.reduceLE, Int.reduceNeg, Int.reduceAdd, Int.reduceSub, Int.reduceToNat, ↓reduceIte, one_ne_zero_, zero_ne_one_, px_in32L, cd_258]
  repeat' (first | (with_reducible apply And.intro) | (with_reducible refine px_br_intro (fun _ => ?_) (fun _ => ?_)))
  all_goals (try (first | (unfold px_in32; omega) | omega))
  obtain ⟨Rs, tot, r0, t0, r1, t1, hc⟩ := rdtr_chain _ _ _ hr
  rw [← r1] at hend
  have := lp_rcure2 (M0 := M) (Q := Q) (Rs := Rs) (tot := tot) hk hst hc hend (fun M' a1 a2 a3 => by rw [t1]; exact h M' a1 a2 (frC_out a3)) k 0 M (by omega) (by rw [r0]; exact hT) (by rw [t0]; decide) (fun _ _ => rfl) (frC_refl M)
  rw [t0] at this
  exact this
end PS
