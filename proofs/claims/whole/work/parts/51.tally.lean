/-! EditionVault.Ties: tally, bytes that only some editions hold -/
def nfC (M : px_mem) (i : Int) : Int := M (M 21 i) 2
def cfC (M : px_mem) (i j : Int) : Int := M (M 21 i + 2) j
/-- the lists of all editions -/
def lsA (M : px_mem) : Prop := ∀ i, 0 ≤ i → i < M 20 1 → 0 ≤ nfC M i ∧ nfC M i ≤ 12 ∧ ∀ j, 0 ≤ j → j < nfC M i → 0 ≤ cfC M i j ∧ cfC M i j < 40
theorem lsN_s {N : Int} (h : 0 ≤ N) (nf : Int → Int) (cf : Int → Int → Int) (c : Int) : lsN (N + 1) nf cf c = lsN N nf cf c + sm (nf N) (fun j => b1 (cf N j = c)) := sm_s h _
theorem lsN_rng {N : Int} {nf : Int → Int} {cf : Int → Int → Int} (h0 : 0 ≤ N) (h : ∀ i, 0 ≤ i → i < N → 0 ≤ nf i ∧ nf i ≤ 12) (c : Int) : 0 ≤ lsN N nf cf c ∧ lsN N nf cf c ≤ 12 * N := by
  have := sm_bnd (c := 12) h0 (f := fun i => sm (nf i) (fun j => b1 (cf i j = c))) (fun i i0 i1 => by
    have := sm_bnd (c := 1) (h i i0 i1).1 (f := fun j => b1 (cf i j = c)) (fun j _ _ => b1_rng _)
    have := h i i0 i1
    omega)
  unfold lsN
  omega
section PS
variable {M : px_mem} {Q : Option pv → px_mem → Prop}
def tlyI (M0 M : px_mem) (p j : Int) : Prop :=
  (∀ c, 0 ≤ c → c < 40 → M 111 c = lsN p (nfC M0) (cfC M0) c + sm j (fun j => b1 (cfC M0 p j = c))) ∧
  (∀ c, 0 ≤ c → c < 40 → (0 ≤ M 114 c ∧ M 114 c < 2 ^ 10) ∧ ∀ i, 0 ≤ i → (inS (M 114 c) i ↔ (i < p ∧ lsE (nfC M0) (cfC M0) i c) ∨ (i = p ∧ ∃ j', 0 ≤ j' ∧ j' < j ∧ cfC M0 p j' = c))) ∧
  (∀ b, b ≠ 111 → b ≠ 114 → M b = M0 b)
set_option maxHeartbeats 600000 in
set_option maxRecDepth 100000 in
theorem lp_tly3 {M0 : px_mem} {p : Int} (hw : edW M0) (hl : lsA M0) (hp : 0 ≤ p ∧ p < M0 20 1) (hx : ∀ M', tlyI M0 M' (p + 1) 0 → px_WP 109 0 0 (px_Q0 LAY Q) 30 [(2, 110), (2, 20), (2, 56), (0, p + 1), (9, 0), (9, 0)] [] LAY M' 0 0) (j : Int) (hk_j : j ≤ M0 (M0 21 p) 2) : ∀ (M : px_mem), 0 ≤ j → tlyI M0 M p j → px_WP 109 0 0 (px_Q0 LAY Q) 48 [(2, 110), (2, 20), (2, 56), (0, p), (2, M0 21 p), (0, j)] [] LAY M 0 0 := by
  refine up_ind (P := fun j => ∀ (M : px_mem), 0 ≤ j → tlyI M0 M p j → px_WP 109 0 0 (px_Q0 LAY Q) 48 [(2, 110), (2, 20), (2, 56), (0, p), (2, M0 21 p), (0, j)] [] LAY M 0 0) (M0 (M0 21 p) 2) (fun j hk_j ih => ?_) j hk_j
  intro M j0 hI
  have hn := hw.2.2
  have he := (hw.1 p hp.1 (by omega))
  have hel := isE_lay he.1
  have heg := isE_gf he.1
  have hem := isE_m he.1
  obtain ⟨h1, h2, hf⟩ := hI
  have hlp := hl p hp.1 hp.2
  have hnf : M0 (M0 21 p) 2 ≤ 12 := hlp.2.1
  have f2 := hf (M0 21 p + 2) (by omega) (by omega)
  have fe := hf (M0 21 p) (by omega) (by omega)
  have h111 : (M0 21 p + 2 = (111 : Int)) = False := eq_false (by omega)
  have hc : j < M0 (M0 21 p) 2 → 0 ≤ M (M0 21 p + 2) j ∧ M (M0 21 p + 2) j < 40 := fun q => by rw [f2]; exact hlp.2.2 j j0 q
  have hr : ∀ c, 0 ≤ c → c < 40 → 0 ≤ M 111 c ∧ M 111 c ≤ 1000 := fun c c0 c1 => by
    rw [h1 c c0 c1]
    have a := lsN_rng (nf := nfC M0) (cf := cfC M0) hp.1 (fun i i0 i1 => by have := hl i i0 (by omega); omega) c
    have b := sm_bnd (c := 1) j0 (f := fun j => b1 (cfC M0 p j = c)) (fun j _ _ => b1_rng _)
    have d := hlp.2.1
    have d2 : nfC M0 p = M0 (M0 21 p) 2 := rfl
    omega
  have hrc := fun q0 q1 => hr (M (M0 21 p + 2) j) q0 q1
  refine px_go_ok (inl := []) 60 ?_
  simp only [px_go, px_Q0_at, px_sx_0, px_sx_s, px_cl, px_step, ↓px_ll, px_lg, f4_, ↓px_r1, ↓px_r2, ↓px_r4, ↓px_r5, ↓px_p1, ↓px_p2, ↓px_p3, ↓px_pop, px_k_0, px_k_s, px_k3_0, px_stk_, px_cats, px_ent, px_st1, px_st2, px_mask, ↓px_tsw, ↓px_lsw, ct_, mls_0, mls_1, mls_2, mls_3, mls_4, mls_5, kd_0, kd_1, kd_2, kd_3, ln_0, ln_1, ln_2, ln_3, gf_0, gf_1, gf_2, gf_3, gf_4, gf_7, gf_21, gf_63, dy_0, dy_1, dy_2, dy_3, dy_7, dy_21, px_brT, px_brF, true_and, and_true, and_false, false_and, and_self, true_implies, false_implies, or_true, true_or, or_false, false_or, eq_self, ne_eq, not_false_eq_true, not_true_eq_false, if_true, if_false, List.mem_cons, List.not_mem_nil, List.length_cons, List.length_nil, Nat.reduceEqDiff, Nat.reduceAdd, Nat.reduceSub, Nat.reduceLeDiff, Nat.reduceLT, Int.reduceEq, Int.reduceLT, Int.reduceLE, Int.reduceNeg, Int.reduceAdd, Int.reduceSub, Int.reduceToNat, ↓reduceIte, one_ne_zero_, zero_ne_one_, px_in32L, cd_109, hel, heg, px_up_at, h111, fe]
  repeat' (first | (with_reducible apply And.intro) | (with_reducible refine px_br_intro (fun _ => ?_) (fun _ => ?_)))
  all_goals (try (first | (unfold px_in32; omega) | omega))
  · rename_i c1 c2
    have hj : j = M0 (M0 21 p) 2 := by omega
    refine hx M ⟨fun c c0 c1 => ?_, fun c c0 c1 => ?_, hf⟩
    · rw [h1 c c0 c1, lsN_s hp.1, sm_0, hj]
      show _ = _ + sm (M0 (M0 21 p) 2) _ + 0
      omega
    · refine ⟨(h2 c c0 c1).1, fun i i0 => ?_⟩
      rw [(h2 c c0 c1).2 i i0, hj]
      constructor
      · rintro (q | ⟨q, j', q0, q1, q2⟩)
        · exact Or.inl ⟨by omega, q.2⟩
        · exact Or.inl ⟨by omega, j', q0, by rw [q]; exact q1, by rw [q]; exact q2⟩
      · rintro (⟨q, r⟩ | ⟨q, j', q0, q1, q2⟩)
        · by_cases e : i = p
          · obtain ⟨j', r0, r1, r2⟩ := r
            rw [e] at r1 r2
            exact Or.inr ⟨e, j', r0, r1, r2⟩
          · exact Or.inl ⟨by omega, r⟩
        · omega
  · rename_i c1 c2
    have hcc := hc (by omega)
    have e10 : (2 : Int) ^ 10 = 1024 := rfl
    have hcj : M (M0 21 p + 2) j = cfC M0 p j := by rw [f2]; rfl
    rw [hcj] at hcc ⊢
    have hsl := ishl_lt (k := p) (n := 10) hp.1 (by omega) (by decide)
    refine ih (by omega) _ (by omega) ⟨fun c c0 c1 => ?_, fun c c0 c1 => ?_, fun b b0 b1 => by rw [row_ne b1, row_ne b0]; exact hf b b0 b1⟩
    · rw [row_ne (by decide), px_up_at, sm_s j0]
      by_cases e : c = cfC M0 p j
      · rw [if_pos ⟨rfl, e⟩, ← e, h1 c c0 c1, b1_t rfl]; omega
      · rw [if_neg (fun q => e q.2), h1 c c0 c1, b1_f (fun q => e q.symm)]; omega
    · have a := h2 c c0 c1
      rw [px_up_at, row_ne (by decide)]
      by_cases e : c = cfC M0 p j
      · rw [if_pos ⟨rfl, e⟩, ← e]
        refine ⟨ior_lt (by decide) a.1 hsl, fun i i0 => ?_⟩
        rw [ior_in ⟨by omega, by omega⟩ ⟨by omega, by omega⟩, a.2 i i0, ishl_in hp.1 (by omega) i0]
        constructor
        · rintro ((q | ⟨q, j', q0, q1, q2⟩) | q)
          · exact Or.inl q
          · exact Or.inr ⟨q, j', q0, by omega, q2⟩
          · exact Or.inr ⟨q, j, j0, by omega, e.symm⟩
        · rintro (q | ⟨q, _⟩)
          · exact Or.inl (Or.inl q)
          · exact Or.inr q
      · rw [if_neg (fun q => e q.2)]
        refine ⟨a.1, fun i i0 => ?_⟩
        rw [a.2 i i0]
        refine or_congr Iff.rfl (and_congr Iff.rfl (exists_congr (fun j' => ?_)))
        constructor
        · rintro ⟨q0, q1, q2⟩; exact ⟨q0, by omega, q2⟩
        · rintro ⟨q0, q1, q2⟩
          have : j' ≠ j := fun z => e (by rw [← q2, z])
          exact ⟨q0, by omega, q2⟩
set_option maxHeartbeats 600000 in
set_option maxRecDepth 100000 in
theorem lp_tly4 {M0 : px_mem} (h : ∀ M1, (∀ c, 0 ≤ c → c < 40 → M1 112 c = M0 111 c) → (∀ c, 0 ≤ c → c < 40 → M1 113 c = 1) → (∀ b, b ≠ 112 → b ≠ 113 → M1 b = M0 b) → px_Ok 110 [(2, 110), (2, 56)] LAY M1 (fun r M' => r = none ∧ Q none M')) (k : Int) (hk_k : k ≤ 40) : ∀ (M : px_mem), 0 ≤ k → (∀ c, 0 ≤ c → c < k → M 112 c = M0 111 c) → (∀ c, 0 ≤ c → c < k → M 113 c = 1) → (∀ b, b ≠ 112 → b ≠ 113 → M b = M0 b) → px_WP 109 0 0 (px_Q0 LAY Q) 113 [(2, 110), (9, 0), (2, 56), (0, k), (9, 0), (9, 0)] [] LAY M 0 0 := by
  refine up_ind (P := fun k => ∀ (M : px_mem), 0 ≤ k → (∀ c, 0 ≤ c → c < k → M 112 c = M0 111 c) → (∀ c, 0 ≤ c → c < k → M 113 c = 1) → (∀ b, b ≠ 112 → b ≠ 113 → M b = M0 b) → px_WP 109 0 0 (px_Q0 LAY Q) 113 [(2, 110), (9, 0), (2, 56), (0, k), (9, 0), (9, 0)] [] LAY M 0 0) (40) (fun k hk_k ih => ?_) k hk_k
  intro M k0 h2 h3 hf
  refine px_go_ok (inl := []) 60 ?_
  simp only [px_go, px_Q0_at, px_sx_0, px_sx_s, px_cl, px_step, ↓px_ll, px_lg, f4_, ↓px_r1, ↓px_r2, ↓px_r4, ↓px_r5, ↓px_p1, ↓px_p2, ↓px_p3, ↓px_pop, px_k_0, px_k_s, px_k3_0, px_stk_, px_cats, px_ent, px_st1, px_st2, px_mask, ↓px_tsw, ↓px_lsw, ct_, mls_0, mls_1, mls_2, mls_3, mls_4, mls_5, kd_0, kd_1, kd_2, kd_3, ln_0, ln_1, ln_2, ln_3, gf_0, gf_1, gf_2, gf_3, gf_4, gf_7, gf_21, gf_63, dy_0, dy_1, dy_2, dy_3, dy_7, dy_21, px_brT, px_brF, true_and, and_true, and_false, false_and, and_self, true_implies, false_implies, or_true, true_or, or_false, false_or, eq_self, ne_eq, not_false_eq_true, not_true_eq_false, if_true, if_false, List.mem_cons, List.not_mem_nil, List.length_cons, List.length_nil, Nat.reduceEqDiff, Nat.reduceAdd, Nat.reduceSub, Nat.reduceLeDiff, Nat.reduceLT, Int.reduceEq, Int.reduceLT, Int.reduceLE, Int.reduceNeg, Int.reduceAdd, Int.reduceSub, Int.reduceToNat, ↓reduceIte, one_ne_zero_, zero_ne_one_, px_in32L, cd_109, px_up_at]
  repeat' (first | (with_reducible apply And.intro) | (with_reducible refine px_br_intro (fun _ => ?_) (fun _ => ?_)))
  all_goals (try (first | (unfold px_in32; omega) | omega))
  · rename_i c1
    have hk : k = 40 := by omega
    subst hk
    refine (h M h2 h3 hf).mono (fun r M' q => ?_)
    rw [q.1]
    simp only [px_go, px_Q0_at, px_sx_0, px_sx_s, px_cl, px_step, ↓px_ll, px_lg, f4_, ↓px_r1, ↓px_r2, ↓px_r4, ↓px_r5, ↓px_p1, ↓px_p2, ↓px_p3, ↓px_pop, px_k_0, px_k_s, px_k3_0, px_stk_, px_cats, px_ent, px_st1, px_st2, px_mask, ↓px_tsw, ↓px_lsw, ct_, mls_0, mls_1, mls_2, mls_3, mls_4, mls_5, kd_0, kd_1, kd_2, kd_3, ln_0, ln_1, ln_2, ln_3, gf_0, gf_1, gf_2, gf_3, gf_4, gf_7, gf_21, gf_63, dy_0, dy_1, dy_2, dy_3, dy_7, dy_21, px_brT, px_brF, true_and, and_true, and_false, false_and, and_self, true_implies, false_implies, or_true, true_or, or_false, false_or, eq_self, ne_eq, not_false_eq_true, not_true_eq_false, if_true, if_false, List.mem_cons, List.not_mem_nil, List.length_cons, List.length_nil, Nat.reduceEqDiff, Nat.reduceAdd, Nat.reduceSub, Nat.reduceLeDiff, Nat.reduceLT, Int.reduceEq, Int.reduceLT, Int.reduceLE, Int.reduceNeg, Int.reduceAdd, Int.reduceSub, Int.reduceToNat, ↓reduceIte, one_ne_zero_, zero_ne_one_, px_in32L, cd_109]
    exact q.2
  · rename_i c1
    have f111 := hf 111 (by decide) (by decide)
    refine ih (by omega) _ (by omega) (fun c c0 c1 => ?_) (fun c c0 c1 => ?_) (fun b b0 b1 => by rw [row_ne b1, row_ne b0]; exact hf b b0 b1)
    · rw [row_ne (by decide), px_up_at, f111]
      by_cases e : c = k
      · rw [if_pos ⟨rfl, e⟩, e]
      · rw [if_neg (fun q => e q.2)]; exact h2 c c0 (by omega)
    · rw [px_up_at, row_ne (by decide)]
      by_cases e : c = k
      · rw [if_pos ⟨rfl, e⟩]
      · rw [if_neg (fun q => e q.2)]; exact h3 c c0 (by omega)
/-- what a tally tells, of the memory as it was -/
def talC (M M' : px_mem) : Prop :=
  (∀ c, 0 ≤ c → c < 40 → M' 111 c = lsN (M 20 1) (nfC M) (cfC M) c) ∧
  (∀ c, 0 ≤ c → c < 40 → M' 112 c = full (M 62) (M 61) (lsN (M 20 1) (nfC M) (cfC M)) 3 c) ∧
  (∀ c, 0 ≤ c → c < 40 → M' 113 c = full (M 62) (M 61) (fun _ => 1) 3 c) ∧
  (∀ c, 0 ≤ c → c < 40 → (0 ≤ M' 114 c ∧ M' 114 c < 2 ^ 10) ∧ ∀ i, 0 ≤ i → (inS (M' 114 c) i ↔ fullS (M 62) (M 61) (fun c => i < M 20 1 ∧ lsE (nfC M) (cfC M) i c) 3 c)) ∧
  (∀ b, ¬ (111 ≤ b ∧ b ≤ 114) → M' b = M b)
set_option maxHeartbeats 600000 in
set_option maxRecDepth 100000 in
theorem lp_tly2 {M0 : px_mem} (hw : edW M0) (hl : lsA M0) (hdp : dpt (M0 62) (M0 61)) (h : ∀ M', talC M0 M' → Q none M') (p : Int) (hk_p : p ≤ M0 20 1) : ∀ (M : px_mem), 0 ≤ p → tlyI M0 M p 0 → px_WP 109 0 0 (px_Q0 LAY Q) 30 [(2, 110), (2, 20), (2, 56), (0, p), (9, 0), (9, 0)] [] LAY M 0 0 := by
  refine up_ind (P := fun p => ∀ (M : px_mem), 0 ≤ p → tlyI M0 M p 0 → px_WP 109 0 0 (px_Q0 LAY Q) 30 [(2, 110), (2, 20), (2, 56), (0, p), (9, 0), (9, 0)] [] LAY M 0 0) (M0 20 1) (fun p hk_p ih => ?_) p hk_p
  intro M p0 hI
  have hn := hw.2.2
  have f20 : M 20 1 = M0 20 1 := by rw [hI.2.2 20 (by decide) (by decide)]
  have f21 : M 21 p = M0 21 p := by rw [hI.2.2 21 (by decide) (by decide)]
  refine px_go_ok (inl := [45]) 60 ?_
  simp only [px_go, px_Q0_at, px_sx_0, px_sx_s, px_cl, px_step, ↓px_ll, px_lg, f4_, ↓px_r1, ↓px_r2, ↓px_r4, ↓px_r5, ↓px_p1, ↓px_p2, ↓px_p3, ↓px_pop, px_k_0, px_k_s, px_k3_0, px_stk_, px_cats, px_ent, px_st1, px_st2, px_mask, ↓px_tsw, ↓px_lsw, ct_, mls_0, mls_1, mls_2, mls_3, mls_4, mls_5, kd_0, kd_1, kd_2, kd_3, ln_0, ln_1, ln_2, ln_3, gf_0, gf_1, gf_2, gf_3, gf_4, gf_7, gf_21, gf_63, dy_0, dy_1, dy_2, dy_3, dy_7, dy_21, px_brT, px_brF, true_and, and_true, and_false, false_and, and_self, true_implies, false_implies, or_true, true_or, or_false, false_or, eq_self, ne_eq, not_false_eq_true, not_true_eq_false, if_true, if_false, List.mem_cons, List.not_mem_nil, List.length_cons, List.length_nil, Nat.reduceEqDiff, Nat.reduceAdd, Nat.reduceSub, Nat.reduceLeDiff, Nat.reduceLT, Int.reduceEq, Int.reduceLT, Int.reduceLE, Int.reduceNeg, Int.reduceAdd, Int.reduceSub, Int.reduceToNat, ↓reduceIte, one_ne_zero_, zero_ne_one_, px_in32L, cd_109, cd_45, f20, f21]
  repeat' (first | (with_reducible apply And.intro) | (with_reducible refine px_br_intro (fun _ => ?_) (fun _ => ?_)))
  all_goals (try (first | (unfold px_in32; omega) | omega))
  · rename_i c1
    have hp : p = M0 20 1 := by omega
    obtain ⟨h1, h2, hf⟩ := hI
    rw [hp] at h1 h2
    have hf1 : ∀ c, 0 ≤ c → c < 40 → 0 ≤ lsN (M0 20 1) (nfC M0) (cfC M0) c ∧ lsN (M0 20 1) (nfC M0) (cfC M0) c ≤ 200 := fun c c0 c1 => by
      have := lsN_rng (nf := nfC M0) (cf := cfC M0) hn.1 (fun i i0 i1 => by have := hl i i0 i1; omega) c
      omega
    have h1' : ∀ c, 0 ≤ c → c < 40 → M 111 c = lsN (M0 20 1) (nfC M0) (cfC M0) c := fun c c0 c1 => by rw [h1 c c0 c1, sm_0, Int.add_zero]
    have h2' : ∀ c, 0 ≤ c → c < 40 → (0 ≤ M 114 c ∧ M 114 c < 2 ^ 10) ∧ ∀ i, 0 ≤ i → (inS (M 114 c) i ↔ (i < M0 20 1 ∧ lsE (nfC M0) (cfC M0) i c)) := fun c c0 c1 => by
      refine ⟨(h2 c c0 c1).1, fun i i0 => ?_⟩
      rw [(h2 c c0 c1).2 i i0]
      refine ⟨fun q => ?_, Or.inl⟩
      rcases q with q | ⟨q, j', q0, q1, _⟩
      · exact q
      · omega
    refine lp_tly4 (M0 := M) (fun M1 a1 a2 a3 => ?_) 0 (by decide) M (Int.le_refl 0) (fun c c0 c1 => by omega) (fun c c0 c1 => by omega) (fun _ _ _ => rfl)
    have g62 : M1 62 = M0 62 := by rw [a3 62 (by decide) (by decide), hf 62 (by decide) (by decide)]
    have g61 : M1 61 = M0 61 := by rw [a3 61 (by decide) (by decide), hf 61 (by decide) (by decide)]
    have g114 : M1 114 = M 114 := a3 114 (by decide) (by decide)
    refine sp_handDown (f1 := lsN (M0 20 1) (nfC M0) (cfC M0)) (f2 := fun _ => 1) (P := fun i c => i < M0 20 1 ∧ lsE (nfC M0) (cfC M0) i c) (by rw [g62, g61]; exact hdp) hf1 (fun c _ _ => ⟨by decide, by decide⟩) (fun c c0 c1 => by rw [a1 c c0 c1]; exact h1' c c0 c1) a2 (by rw [g114]; exact h2') (fun M' b1 b2 b3 b4 => ⟨rfl, h M' ?_⟩)
    rw [g62, g61] at b1 b2 b3
    exact ⟨fun c c0 c1 => by rw [b4 111 (by decide) (by decide) (by decide), a3 111 (by decide) (by decide)]; exact h1' c c0 c1, b1, b2, b3, fun b b0 => by rw [b4 b (by omega) (by omega) (by omega), a3 b (by omega) (by omega), hf b (by omega) (by omega)]⟩
  · rename_i c1
    exact lp_tly3 hw hl ⟨p0, by omega⟩ (fun M' a => ih (by omega) M' (by omega) a) 0 (by have := hl p p0 (by omega); exact this.1) M (Int.le_refl 0) hI
set_option maxHeartbeats 600000 in
set_option maxRecDepth 100000 in
theorem lp_tly1 {M0 : px_mem} (hw : edW M0) (hl : lsA M0) (hdp : dpt (M0 62) (M0 61)) (h : ∀ M', talC M0 M' → Q none M') (k : Int) (hk_k : k ≤ 40) : ∀ (M : px_mem), 0 ≤ k → (∀ c, 0 ≤ c → c < k → M 111 c = 0) → (∀ c, 0 ≤ c → c < k → M 114 c = 0) → (∀ b, b ≠ 111 → b ≠ 114 → M b = M0 b) → px_WP 109 0 0 (px_Q0 LAY Q) 2 [(2, 110), (2, 20), (2, 56), (0, k), (9, 0), (9, 0)] [] LAY M 0 0 := by
  refine up_ind (P := fun k => ∀ (M : px_mem), 0 ≤ k → (∀ c, 0 ≤ c → c < k → M 111 c = 0) → (∀ c, 0 ≤ c → c < k → M 114 c = 0) → (∀ b, b ≠ 111 → b ≠ 114 → M b = M0 b) → px_WP 109 0 0 (px_Q0 LAY Q) 2 [(2, 110), (2, 20), (2, 56), (0, k), (9, 0), (9, 0)] [] LAY M 0 0) (40) (fun k hk_k ih => ?_) k hk_k
  intro M k0 h1 h4 hf
  refine px_go_ok (inl := []) 60 ?_
  simp only [px_go, px_Q0_at, px_sx_0, px_sx_s, px_cl, px_step, ↓px_ll, px_lg, f4_, ↓px_r1, ↓px_r2, ↓px_r4, ↓px_r5, ↓px_p1, ↓px_p2, ↓px_p3, ↓px_pop, px_k_0, px_k_s, px_k3_0, px_stk_, px_cats, px_ent, px_st1, px_st2, px_mask, ↓px_tsw, ↓px_lsw, ct_, mls_0, mls_1, mls_2, mls_3, mls_4, mls_5, kd_0, kd_1, kd_2, kd_3, ln_0, ln_1, ln_2, ln_3, gf_0, gf_1, gf_2, gf_3, gf_4, gf_7, gf_21, gf_63, dy_0, dy_1, dy_2, dy_3, dy_7, dy_21, px_brT, px_brF, true_and, and_true, and_false, false_and, and_self, true_implies, false_implies, or_true, true_or, or_false, false_or, eq_self, ne_eq, not_false_eq_true, not_true_eq_false, if_true, if_false, List.mem_cons, List.not_mem_nil, List.length_cons, List.length_nil, Nat.reduceEqDiff, Nat.reduceAdd, Nat.reduceSub, Nat.reduceLeDiff, Nat.reduceLT, Int.reduceEq, Int.reduceLT, Int.reduceLE, Int.reduceNeg, Int.reduceAdd, Int.reduceSub, Int.reduceToNat, ↓reduceIte, one_ne_zero_, zero_ne_one_, px_in32L, cd_109]
  repeat' (first | (with_reducible apply And.intro) | (with_reducible refine px_br_intro (fun _ => ?_) (fun _ => ?_)))
  all_goals (try (first | (unfold px_in32; omega) | omega))
  · rename_i c1
    have hk : k = 40 := by omega
    subst hk
    refine lp_tly2 hw hl hdp h 0 hw.2.2.1 M (Int.le_refl 0) ⟨fun c c0 c1 => ?_, fun c c0 c1 => ?_, hf⟩
    · rw [h1 c c0 c1]; rfl
    · rw [h4 c c0 c1]
      refine ⟨⟨by decide, by decide⟩, fun i i0 => ⟨fun q => absurd q (zero_in i), fun q => ?_⟩⟩
      rcases q with q | ⟨_, j', q0, q1, _⟩
      · omega
      · omega
  · rename_i c1
    refine ih (by omega) _ (by omega) (fun c c0 c1 => ?_) (fun c c0 c1 => ?_) (fun b b0 b1 => by rw [row_ne b1, row_ne b0]; exact hf b b0 b1)
    · rw [row_ne (by decide), px_up_at]
      by_cases e : c = k
      · rw [if_pos ⟨rfl, e⟩]
      · rw [if_neg (fun q => e q.2)]; exact h1 c c0 (by omega)
    · rw [px_up_at, row_ne (by decide)]
      by_cases e : c = k
      · rw [if_pos ⟨rfl, e⟩]
      · rw [if_neg (fun q => e q.2)]; exact h4 c c0 (by omega)
set_option maxHeartbeats 600000 in
set_option maxRecDepth 100000 in
theorem sp_tally (hw : edW M) (hl : lsA M) (hci : ci M) (h : ∀ M', talC M M' → Q none M') : px_Ok 109 [(2, 110), (2, 20), (2, 56)] LAY M Q := by
  refine px_ok_go (inl := []) (ls0 := [(2, 110), (2, 20), (2, 56), (9, 0), (9, 0), (9, 0)]) 60 (by decide) (Nat.le_of_ble_eq_true rfl) rfl ?_
  simp only [px_go, px_Q0_at, px_sx_0, px_sx_s, px_cl, px_step, ↓px_ll, px_lg, f4_, ↓px_r1, ↓px_r2, ↓px_r4, ↓px_r5, ↓px_p1, ↓px_p2, ↓px_p3, ↓px_pop, px_k_0, px_k_s, px_k3_0, px_stk_, px_cats, px_ent, px_st1, px_st2, px_mask, ↓px_tsw, ↓px_lsw, ct_, mls_0, mls_1, mls_2, mls_3, mls_4, mls_5, kd_0, kd_1, kd_2, kd_3, ln_0, ln_1, ln_2, ln_3, gf_0, gf_1, gf_2, gf_3, gf_4, gf_7, gf_21, gf_63, dy_0, dy_1, dy_2, dy_3, dy_7, dy_21, px_brT, px_brF, true_and, and_true, and_false, false_and, and_self, true_implies, false_implies, or_true, true_or, or_false, false_or, eq_self, ne_eq, not_false_eq_true, not_true_eq_false, if_true, if_false, List.mem_cons, List.not_mem_nil, List.length_cons, List.length_nil, Nat.reduceEqDiff, Nat.reduceAdd, Nat.reduceSub, Nat.reduceLeDiff, Nat.reduceLT, Int.reduceEq, Int.reduceLT, Int.reduceLE, Int.reduceNeg, Int.reduceAdd, Int.reduceSub, Int.reduceToNat, ↓reduceIte, one_ne_zero_, zero_ne_one_, px_in32L, cd_109]
  repeat' (first | (with_reducible apply And.intro) | (with_reducible refine px_br_intro (fun _ => ?_) (fun _ => ?_)))
  all_goals (try (first | (unfold px_in32; omega) | omega))
  exact lp_tly1 hw hl (ci_dpt hci) h 0 (by decide) M (Int.le_refl 0) (fun c c0 c1 => by omega) (fun c c0 c1 => by omega) (fun _ _ _ => rfl)
/-- kept bytes of contents that hang on these editions alone -/
noncomputable def bol (M : px_mem) (s : Int) : Int := sm 40 (fun c => ifP (0 ≤ M 62 c ∧ ∀ i, 0 ≤ i → inS (M 114 c) i → inS s i) (M 60 c))
set_option maxHeartbeats 600000 in
set_option maxRecDepth 100000 in
theorem lp_bol {s : Int} (hs : 0 ≤ s ∧ s < 2147483648) (hW : ∀ c, 0 ≤ c → c < 40 → 0 ≤ M 114 c ∧ M 114 c < 2 ^ 10) (hK : ∀ c, 0 ≤ c → c < 40 → 0 ≤ M 62 c → 0 ≤ M 60 c ∧ M 60 c ≤ 40) (h : Q (some (0, bol M s)) M) (k : Int) (hk_k : k ≤ 40) : 0 ≤ k → px_WP 111 0 0 (px_Q0 LAY Q) 5 [(2, 110), (0, s), (2, 56), (0, sm k (fun c => ifP (0 ≤ M 62 c ∧ ∀ i, 0 ≤ i → inS (M 114 c) i → inS s i) (M 60 c))), (0, k)] [] LAY M 0 0 := by
  refine up_ind (P := fun k => 0 ≤ k → px_WP 111 0 0 (px_Q0 LAY Q) 5 [(2, 110), (0, s), (2, 56), (0, sm k (fun c => ifP (0 ≤ M 62 c ∧ ∀ i, 0 ≤ i → inS (M 114 c) i → inS s i) (M 60 c))), (0, k)] [] LAY M 0 0) (40) (fun k hk_k ih => ?_) k hk_k
  intro k0
  have e10 : (2 : Int) ^ 10 = 1024 := rfl
  have hb := sm_bnd (c := 40) (n := k) k0 (f := fun c => ifP (0 ≤ M 62 c ∧ ∀ i, 0 ≤ i → inS (M 114 c) i → inS s i) (M 60 c)) (fun c c0 c1 => ifP_rng (fun q => hK c c0 (by omega) q.1) (by decide))
  have hss := sm_s k0 (fun c => ifP (0 ≤ M 62 c ∧ ∀ i, 0 ≤ i → inS (M 114 c) i → inS s i) (M 60 c))
  have hKk := hK k k0
  have hWk := hW k k0
  have hni := fun q => not_in (a := M 114 k) (s := s) (by have := hWk q; omega) hs
  refine px_go_ok (inl := [7]) 60 ?_
  simp only [px_go, px_Q0_at, px_sx_0, px_sx_s, px_cl, px_step, ↓px_ll, px_lg, f4_, ↓px_r1, ↓px_r2, ↓px_r4, ↓px_r5, ↓px_p1, ↓px_p2, ↓px_p3, ↓px_pop, px_k_0, px_k_s, px_k3_0, px_stk_, px_cats, px_ent, px_st1, px_st2, px_mask, ↓px_tsw, ↓px_lsw, ct_, mls_0, mls_1, mls_2, mls_3, mls_4, mls_5, kd_0, kd_1, kd_2, kd_3, ln_0, ln_1, ln_2, ln_3, gf_0, gf_1, gf_2, gf_3, gf_4, gf_7, gf_21, gf_63, dy_0, dy_1, dy_2, dy_3, dy_7, dy_21, px_brT, px_brF, true_and, and_true, and_false, false_and, and_self, true_implies, false_implies, or_true, true_or, or_false, false_or, eq_self, ne_eq, not_false_eq_true, not_true_eq_false, if_true, if_false, List.mem_cons, List.not_mem_nil, List.length_cons, List.length_nil, Nat.reduceEqDiff, Nat.reduceAdd, Nat.reduceSub, Nat.reduceLeDiff, Nat.reduceLT, Int.reduceEq, Int.reduceLT, Int.reduceLE, Int.reduceNeg, Int.reduceAdd, Int.reduceSub, Int.reduceToNat, ↓reduceIte, one_ne_zero_, zero_ne_one_, px_in32L, cd_111, cd_7]
  repeat' (first | (with_reducible apply And.intro) | (with_reducible refine px_br_intro (fun _ => ?_) (fun _ => ?_)))
  all_goals (try (first | (unfold px_in32; omega) | omega))
  · rename_i c1
    rw [show k = 40 by omega]; exact h
  · rename_i c1 c2
    rw [ifP_f (fun q => by omega), Int.add_zero] at hss
    have := ih (by omega) (by omega)
    rw [hss] at this; exact this
  · rename_i c1 c2 c3
    rw [ifP_t ⟨by omega, (hni (by omega)).mp c3⟩] at hss
    have := ih (by omega) (by omega)
    rw [hss] at this; exact this
  · rename_i c1 c2 c3
    rw [ifP_f (fun q => c3 ((hni (by omega)).mpr q.2)), Int.add_zero] at hss
    have := ih (by omega) (by omega)
    rw [hss] at this; exact this
set_option maxHeartbeats 600000 in
set_option maxRecDepth 100000 in
theorem sp_bytesOnly {s : Int} (hs : 0 ≤ s ∧ s < 2147483648) (hW : ∀ c, 0 ≤ c → c < 40 → 0 ≤ M 114 c ∧ M 114 c < 2 ^ 10) (hK : ∀ c, 0 ≤ c → c < 40 → 0 ≤ M 62 c → 0 ≤ M 60 c ∧ M 60 c ≤ 40) (h : Q (some (0, bol M s)) M) : px_Ok 111 [(2, 110), (0, s), (2, 56)] LAY M Q := by
  refine px_ok_go (inl := [7]) (ls0 := [(2, 110), (0, s), (2, 56), (9, 0), (9, 0)]) 60 (by decide) (Nat.le_of_ble_eq_true rfl) rfl ?_
  simp only [px_go, px_Q0_at, px_sx_0, px_sx_s, px_cl, px_step, ↓px_ll, px_lg, f4_, ↓px_r1, ↓px_r2, ↓px_r4, ↓px_r5, ↓px_p1, ↓px_p2, ↓px_p3, ↓px_pop, px_k_0, px_k_s, px_k3_0, px_stk_, px_cats, px_ent, px_st1, px_st2, px_mask, ↓px_tsw, ↓px_lsw, ct_, mls_0, mls_1, mls_2, mls_3, mls_4, mls_5, kd_0, kd_1, kd_2, kd_3, ln_0, ln_1, ln_2, ln_3, gf_0, gf_1, gf_2, gf_3, gf_4, gf_7, gf_21, gf_63, dy_0, dy_1, dy_2, dy_3, dy_7, dy_21, px_brT, px_brF, true_and, and_true, and_false, false_and, and_self, true_implies, false_implies, or_true, true_or, or_false, false_or, eq_self, ne_eq, not_false_eq_true, not_true_eq_false, if_true, if_false, List.mem_cons, List.not_mem_nil, List.length_cons, List.length_nil, Nat.reduceEqDiff, Nat.reduceAdd, Nat.reduceSub, Nat.reduceLeDiff, Nat.reduceLT, Int.reduceEq, Int.reduceLT, Int.reduceLE, Int.reduceNeg, Int.reduceAdd, Int.reduceSub, Int.reduceToNat, ↓reduceIte, one_ne_zero_, zero_ne_one_, px_in32L, cd_111, cd_7]
  repeat' (first | (with_reducible apply And.intro) | (with_reducible refine px_br_intro (fun _ => ?_) (fun _ => ?_)))
  all_goals (try (first | (unfold px_in32; omega) | omega))
  exact lp_bol hs hW hK h 0 (by decide) (Int.le_refl 0)
end PS
