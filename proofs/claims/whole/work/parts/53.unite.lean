/-! EditionVault.Joint: uniting; EditionVault.Changes -/
theorem jfo_rng (co cx cy : List Int → Int) (V : List (List Int)) : (jfo co cx cy V).1.length ≤ V.length ∧ 0 ≤ (jfo co cx cy V).2 ∧ (jfo co cx cy V).2 ≤ V.length ∧ ∀ q ∈ (jfo co cx cy V).1, q.1 ∈ V ∧ q.2 = isV (co q.1) (cx q.1) (cy q.1) ∧ 0 ≤ q.2 :=
  jfo_len co cx cy V.reverse V (fun p => by rw [List.reverse_reverse]) (List.reverse_reverse V).symm
/-- paths in any of three lists, in order -/
def isU (L : List Int → Prop) (U : List (List Int)) : Prop := U.Pairwise (fun a b => enc a < enc b) ∧ ∀ p, p ∈ U ↔ L p
theorem isU_uniq {L : List Int → Prop} {U V : List (List Int)} (h : isU L U) (h' : isU L V) : U = V := sl_uniq U V h.1 h'.1 (fun p => by rw [h.2, h'.2])
theorem cAt_rng {M : px_mem} {e : Int} {pl : Int → List Int} (hl : lsC M e pl) (p : List Int) : cAt M e pl p = -2 ∨ (0 ≤ cAt M e pl p ∧ cAt M e pl p < 40) := by
  unfold cAt
  rcases idx_spec (M e 2) (fun j => pl j = p) with h | h
  · rw [if_pos (by omega)]; exact Or.inl rfl
  · rw [if_neg (by omega)]; exact Or.inr (hl.2.2 _ h.1 h.2.1).2.2
theorem cAt_frame {M M' : px_mem} {e : Int} {pl : Int → List Int} (h1 : M' e = M e) (h2 : M' (e + 2) = M (e + 2)) (p : List Int) : cAt M' e pl p = cAt M e pl p := by unfold cAt; rw [h1, h2]
theorem lsC_frame {M M' : px_mem} {e : Int} {pl : Int → List Int} (h : lsC M e pl) (h1 : M' e = M e) (h2 : M' (e + 1) = M (e + 1)) (h3 : M' (e + 2) = M (e + 2)) : lsC M' e pl := by unfold lsC at h ⊢; rw [h1, h2, h3]; exact h
theorem nxt_frame {M M' : px_mem} {e c : Int} (h1 : M' e = M e) (h2 : M' (e + 1) = M (e + 1)) : nxt M' e c = nxt M e c := by unfold nxt; rw [h1, h2]
section PS
variable {M : px_mem} {Q : Option pv → px_mem → Prop}
def uL (M0 : px_mem) (eo ea eb : Int) (po pa pb : Int → List Int) (p : List Int) : Prop := inL (M0 eo 2) po p ∨ inL (M0 ea 2) pa p ∨ inL (M0 eb 2) pb p
set_option maxHeartbeats 4000000 in
set_option maxRecDepth 100000 in
theorem sp_next3 {eo ea eb c : Int} (ho : isE eo) (ha : isE ea) (hb : isE eb) (lo : 0 ≤ M eo 2 ∧ M eo 2 ≤ 12) (la : 0 ≤ M ea 2 ∧ M ea 2 ≤ 12) (lb : 0 ≤ M eb 2 ∧ M eb 2 ≤ 12) (h : Q (some (1, min (min (nxt M ea c) (nxt M eb c)) (nxt M eo c))) M) : px_Ok 57 [(1, c), (2, eo), (2, ea), (2, eb)] LAY M Q := by
  refine px_ok_go (inl := []) (ls0 := [(1, c), (9, 0), (2, eo), (2, ea), (2, eb), (9, 0), (9, 0)]) 60 (by decide) (Nat.le_of_ble_eq_true rfl) rfl ?_
  simp only [px_go, px_Q0_at, px_sx_0, px_sx_s, px_cl, px_step, ↓px_ll, px_lg, f4_, ↓px_r1, ↓px_r2, ↓px_r4, ↓px_r5, ↓px_p1, ↓px_p2, ↓px_p3, ↓px_pop, px_k_0, px_k_s, px_k3_0, px_stk_, px_cats, px_ent, px_st1, px_st2, px_mask, ↓px_tsw, ↓px_lsw, ct_, mls_0, mls_1, mls_2, mls_3, mls_4, mls_5, kd_0, kd_1, kd_2, kd_3, ln_0, ln_1, ln_2, ln_3, gf_0, gf_1, gf_2, gf_3, gf_4, gf_7, gf_21, gf_63, dy_0, dy_1, dy_2, dy_3, dy_7, dy_21, px_brT, px_brF, true_and, and_true, and_false, false_and, and_self, true_implies, false_implies, or_true, true_or, or_false, false_or, eq_self, ne_eq, not_false_eq_true, not_true_eq_false, if_true, if_false, List.mem_cons, List.not_mem_nil, List.length_cons, List.length_nil, Nat.reduceEqDiff, Nat.reduceAdd, Nat.reduceSub, Nat.reduceLeDiff, Nat.reduceLT, Int.reduceEq, Int.reduceLT, Int.reduceLE, Int.reduceNeg, Int.reduceAdd, Int.reduceSub, Int.reduceToNat, ↓reduceIte, one_ne_zero_, zero_ne_one_, px_in32L, cd_57, (isE_lay ho).1, (isE_lay ha).1, (isE_lay hb).1]
  refine sp_pathBehind ha la ?_
  simp only [px_go, px_Q0_at, px_sx_0, px_sx_s, px_cl, px_step, ↓px_ll, px_lg, f4_, ↓px_r1, ↓px_r2, ↓px_r4, ↓px_r5, ↓px_p1, ↓px_p2, ↓px_p3, ↓px_pop, px_k_0, px_k_s, px_k3_0, px_stk_, px_cats, px_ent, px_st1, px_st2, px_mask, ↓px_tsw, ↓px_lsw, ct_, mls_0, mls_1, mls_2, mls_3, mls_4, mls_5, kd_0, kd_1, kd_2, kd_3, ln_0, ln_1, ln_2, ln_3, gf_0, gf_1, gf_2, gf_3, gf_4, gf_7, gf_21, gf_63, dy_0, dy_1, dy_2, dy_3, dy_7, dy_21, px_brT, px_brF, true_and, and_true, and_false, false_and, and_self, true_implies, false_implies, or_true, true_or, or_false, false_or, eq_self, ne_eq, not_false_eq_true, not_true_eq_false, if_true, if_false, List.mem_cons, List.not_mem_nil, List.length_cons, List.length_nil, Nat.reduceEqDiff, Nat.reduceAdd, Nat.reduceSub, Nat.reduceLeDiff, Nat.reduceLT, Int.reduceEq, Int.reduceLT, Int.reduceLE, Int.reduceNeg, Int.reduceAdd, Int.reduceSub, Int.reduceToNat, ↓reduceIte, one_ne_zero_, zero_ne_one_, px_in32L, cd_57, (isE_lay ho).1, (isE_lay ha).1, (isE_lay hb).1]
  refine sp_pathBehind hb lb ?_
  simp only [px_go, px_Q0_at, px_sx_0, px_sx_s, px_cl, px_step, ↓px_ll, px_lg, f4_, ↓px_r1, ↓px_r2, ↓px_r4, ↓px_r5, ↓px_p1, ↓px_p2, ↓px_p3, ↓px_pop, px_k_0, px_k_s, px_k3_0, px_stk_, px_cats, px_ent, px_st1, px_st2, px_mask, ↓px_tsw, ↓px_lsw, ct_, mls_0, mls_1, mls_2, mls_3, mls_4, mls_5, kd_0, kd_1, kd_2, kd_3, ln_0, ln_1, ln_2, ln_3, gf_0, gf_1, gf_2, gf_3, gf_4, gf_7, gf_21, gf_63, dy_0, dy_1, dy_2, dy_3, dy_7, dy_21, px_brT, px_brF, true_and, and_true, and_false, false_and, and_self, true_implies, false_implies, or_true, true_or, or_false, false_or, eq_self, ne_eq, not_false_eq_true, not_true_eq_false, if_true, if_false, List.mem_cons, List.not_mem_nil, List.length_cons, List.length_nil, Nat.reduceEqDiff, Nat.reduceAdd, Nat.reduceSub, Nat.reduceLeDiff, Nat.reduceLT, Int.reduceEq, Int.reduceLT, Int.reduceLE, Int.reduceNeg, Int.reduceAdd, Int.reduceSub, Int.reduceToNat, ↓reduceIte, one_ne_zero_, zero_ne_one_, px_in32L, cd_57, (isE_lay ho).1, (isE_lay ha).1, (isE_lay hb).1]
  refine sp_pathBehind ho lo ?_
  simp only [px_go, px_Q0_at, px_sx_0, px_sx_s, px_cl, px_step, ↓px_ll, px_lg, f4_, ↓px_r1, ↓px_r2, ↓px_r4, ↓px_r5, ↓px_p1, ↓px_p2, ↓px_p3, ↓px_pop, px_k_0, px_k_s, px_k3_0, px_stk_, px_cats, px_ent, px_st1, px_st2, px_mask, ↓px_tsw, ↓px_lsw, ct_, mls_0, mls_1, mls_2, mls_3, mls_4, mls_5, kd_0, kd_1, kd_2, kd_3, ln_0, ln_1, ln_2, ln_3, gf_0, gf_1, gf_2, gf_3, gf_4, gf_7, gf_21, gf_63, dy_0, dy_1, dy_2, dy_3, dy_7, dy_21, px_brT, px_brF, true_and, and_true, and_false, false_and, and_self, true_implies, false_implies, or_true, true_or, or_false, false_or, eq_self, ne_eq, not_false_eq_true, not_true_eq_false, if_true, if_false, List.mem_cons, List.not_mem_nil, List.length_cons, List.length_nil, Nat.reduceEqDiff, Nat.reduceAdd, Nat.reduceSub, Nat.reduceLeDiff, Nat.reduceLT, Int.reduceEq, Int.reduceLT, Int.reduceLE, Int.reduceNeg, Int.reduceAdd, Int.reduceSub, Int.reduceToNat, ↓reduceIte, one_ne_zero_, zero_ne_one_, px_in32L, cd_57, (isE_lay ho).1, (isE_lay ha).1, (isE_lay hb).1]
  exact h
/-- what holds of the three lists -/
def t3 (M0 : px_mem) (eo ea eb : Int) (po pa pb : Int → List Int) : Prop := (isE eo ∧ isE ea ∧ isE eb) ∧ (lsC M0 eo po ∧ lsC M0 ea pa ∧ lsC M0 eb pb) ∧ (sE M0 eo ∧ sE M0 ea ∧ sE M0 eb)
theorem next3_spec {M0 : px_mem} {eo ea eb c : Int} {po pa pb : Int → List Int} (h : t3 M0 eo ea eb po pa pb) (hc : c < 1152921504606846976) : ∃ d, d = min (min (nxt M0 ea c) (nxt M0 eb c)) (nxt M0 eo c) ∧ c < d ∧ d ≤ 1152921504606846976 ∧ (∀ p, uL M0 eo ea eb po pa pb p → c < enc p → d ≤ enc p) ∧ (d < 1152921504606846976 → ∃ p, uL M0 eo ea eb po pa pb p ∧ enc p = d ∧ okp p) := by
  obtain ⟨_, ⟨lo, la, lb⟩, ⟨so, sa, sb⟩⟩ := h
  have a := nxt_spec la sa hc
  have b := nxt_spec lb sb hc
  have o := nxt_spec lo so hc
  refine ⟨_, rfl, by omega, by omega, fun p hp hcp => ?_, fun q => ?_⟩
  · rcases hp with hp | hp | hp
    · have := o.2.2.1 p hp hcp; omega
    · have := a.2.2.1 p hp hcp; omega
    · have := b.2.2.1 p hp hcp; omega
  · rcases (by omega : min (min (nxt M0 ea c) (nxt M0 eb c)) (nxt M0 eo c) = nxt M0 ea c ∨ min (min (nxt M0 ea c) (nxt M0 eb c)) (nxt M0 eo c) = nxt M0 eb c ∨ min (min (nxt M0 ea c) (nxt M0 eb c)) (nxt M0 eo c) = nxt M0 eo c) with e | e | e
    · obtain ⟨p, p1, p2, p3⟩ := a.2.2.2 (by omega)
      exact ⟨p, Or.inr (Or.inl p1), by omega, p3⟩
    · obtain ⟨p, p1, p2, p3⟩ := b.2.2.2 (by omega)
      exact ⟨p, Or.inr (Or.inr p1), by omega, p3⟩
    · obtain ⟨p, p1, p2, p3⟩ := o.2.2.2 (by omega)
      exact ⟨p, Or.inl p1, by omega, p3⟩
theorem uL_ok {M0 : px_mem} {eo ea eb : Int} {po pa pb : Int → List Int} (h : t3 M0 eo ea eb po pa pb) {p : List Int} (hp : uL M0 eo ea eb po pa pb p) : okp p := by
  obtain ⟨_, ⟨lo, la, lb⟩, _⟩ := h
  rcases hp with ⟨j, j0, j1, j2⟩ | ⟨j, j0, j1, j2⟩ | ⟨j, j0, j1, j2⟩
  · rw [← j2]; exact (lo.2.2 j j0 j1).1
  · rw [← j2]; exact (la.2.2 j j0 j1).1
  · rw [← j2]; exact (lb.2.2 j j0 j1).1
noncomputable def cnt3 (M0 : px_mem) (eo ea eb c : Int) : Int := cE M0 eo c + cE M0 ea c + cE M0 eb c
theorem cnt3_step {M0 : px_mem} {eo ea eb c d : Int} {po pa pb : Int → List Int} (h : t3 M0 eo ea eb po pa pb) {p : List Int} (hp : uL M0 eo ea eb po pa pb p) (hc : enc p = c) (hd : c < d) : cnt3 M0 eo ea eb c + 1 ≤ cnt3 M0 eo ea eb d ∧ cnt3 M0 eo ea eb c < 36 := by
  obtain ⟨_, ⟨lo, la, lb⟩, _⟩ := h
  have m1 := cE_mono (M := M0) (e := eo) (show c ≤ d by omega)
  have m2 := cE_mono (M := M0) (e := ea) (show c ≤ d by omega)
  have m3 := cE_mono (M := M0) (e := eb) (show c ≤ d by omega)
  have r1 := cE_rng (M := M0) (e := eo) (c := d) lo.1
  have r2 := cE_rng (M := M0) (e := ea) (c := d) la.1
  have r3 := cE_rng (M := M0) (e := eb) (c := d) lb.1
  have q1 := lo.2.1
  have q2 := la.2.1
  have q3 := lb.2.1
  unfold cnt3
  rcases hp with hp | hp | hp
  · have := cE_step lo hp hc hd; omega
  · have := cE_step la hp hc hd; omega
  · have := cE_step lb hp hc hd; omega
set_option maxHeartbeats 600000 in
set_option maxRecDepth 100000 in
theorem lp_unite {M0 : px_mem} {eo ea eb : Int} {po pa pb : Int → List Int} (h3 : t3 M0 eo ea eb po pa pb) (h : ∀ M' U, isU (uL M0 eo ea eb po pa pb) U → jC M' (jfo (cAt M0 eo po) (cAt M0 ea pa) (cAt M0 eb pb) U).1 → M' 115 3 = (jfo (cAt M0 eo po) (cAt M0 ea pa) (cAt M0 eb pb) U).2 → (∀ b, b ≠ 115 → b ≠ 116 → b ≠ 117 → M' b = M0 b) → U.length ≤ 36 → Q none M') (st : Int) (hk_st : st ≤ 36) : ∀ (M : px_mem) (U : List (List Int)) (c : Int), 0 ≤ st → (U.length : Int) = st → (0 ≤ c ∧ c ≤ 1152921504606846976) → (U.Pairwise (fun a b => enc a < enc b) ∧ ∀ p, p ∈ U ↔ (uL M0 eo ea eb po pa pb p ∧ enc p < c)) → jC M (jfo (cAt M0 eo po) (cAt M0 ea pa) (cAt M0 eb pb) U).1 → M 115 3 = (jfo (cAt M0 eo po) (cAt M0 ea pa) (cAt M0 eb pb) U).2 → st ≤ cnt3 M0 eo ea eb c → (c < 1152921504606846976 → ∃ p, uL M0 eo ea eb po pa pb p ∧ enc p = c ∧ okp p) → (∀ b, b ≠ 115 → b ≠ 116 → b ≠ 117 → M b = M0 b) → True → px_WP 56 0 0 (px_Q0 LAY Q) 37 [(2, 115), (9, 0), (2, ea), (2, eb), (2, eo), (1, c), (9, 0), (0, st)] [] LAY M 0 0 := by
  refine up_ind (P := fun st => ∀ (M : px_mem) (U : List (List Int)) (c : Int), 0 ≤ st → (U.length : Int) = st → (0 ≤ c ∧ c ≤ 1152921504606846976) → (U.Pairwise (fun a b => enc a < enc b) ∧ ∀ p, p ∈ U ↔ (uL M0 eo ea eb po pa pb p ∧ enc p < c)) → jC M (jfo (cAt M0 eo po) (cAt M0 ea pa) (cAt M0 eb pb) U).1 → M 115 3 = (jfo (cAt M0 eo po) (cAt M0 ea pa) (cAt M0 eb pb) U).2 → st ≤ cnt3 M0 eo ea eb c → (c < 1152921504606846976 → ∃ p, uL M0 eo ea eb po pa pb p ∧ enc p = c ∧ okp p) → (∀ b, b ≠ 115 → b ≠ 116 → b ≠ 117 → M b = M0 b) → True → px_WP 56 0 0 (px_Q0 LAY Q) 37 [(2, 115), (9, 0), (2, ea), (2, eb), (2, eo), (1, c), (9, 0), (0, st)] [] LAY M 0 0) (36) (fun st hk_st ih => ?_) st hk_st
  intro M U c s0 hlen hcb hU hJ hcf hcnt hcc hfr hfj
  have hlc := (lcmp_lt c 1152921504606846976).2.2.1
  have h3' := h3
  obtain ⟨⟨ho, ha, hb⟩, ⟨lo, la, lb⟩, _⟩ := h3'
  have hstep : c < 1152921504606846976 → st < 36 := fun q => by
    obtain ⟨p, p1, p2, p3⟩ := hcc q
    have := cnt3_step h3 p1 p2 (show c < c + 1 by omega); omega
  have hdone : c = 1152921504606846976 → Q none M := fun e => by
    refine h M U ⟨hU.1, fun p => ?_⟩ hJ hcf hfr (by omega)
    rw [hU.2 p]
    refine ⟨fun q => q.1, fun q => ⟨q, ?_⟩⟩
    have := enc_rng p; omega
  refine px_go_ok (inl := []) 60 ?_
  simp only [px_go, px_Q0_at, px_sx_0, px_sx_s, px_cl, px_step, ↓px_ll, px_lg, f4_, ↓px_r1, ↓px_r2, ↓px_r4, ↓px_r5, ↓px_p1, ↓px_p2, ↓px_p3, ↓px_pop, px_k_0, px_k_s, px_k3_0, px_stk_, px_cats, px_ent, px_st1, px_st2, px_mask, ↓px_tsw, ↓px_lsw, ct_, mls_0, mls_1, mls_2, mls_3, mls_4, mls_5, kd_0, kd_1, kd_2, kd_3, ln_0, ln_1, ln_2, ln_3, gf_0, gf_1, gf_2, gf_3, gf_4, gf_7, gf_21, gf_63, dy_0, dy_1, dy_2, dy_3, dy_7, dy_21, px_brT, px_brF, true_and, and_true, and_false, false_and, and_self, true_implies, false_implies, or_true, true_or, or_false, false_or, eq_self, ne_eq, not_false_eq_true, not_true_eq_false, if_true, if_false, List.mem_cons, List.not_mem_nil, List.length_cons, List.length_nil, Nat.reduceEqDiff, Nat.reduceAdd, Nat.reduceSub, Nat.reduceLeDiff, Nat.reduceLT, Int.reduceEq, Int.reduceLT, Int.reduceLE, Int.reduceNeg, Int.reduceAdd, Int.reduceSub, Int.reduceToNat, ↓reduceIte, one_ne_zero_, zero_ne_one_, px_in32L, cd_56, (isE_lay ho).1, (isE_lay ha).1, (isE_lay hb).1]
  repeat' (first | (with_reducible apply And.intro) | (with_reducible refine px_br_intro (fun _ => ?_) (fun _ => ?_)))
  all_goals (try (first | (unfold px_in32; omega) | omega))
  · rename_i c1
    exact hdone (by
      rcases (by omega : c = 1152921504606846976 ∨ c < 1152921504606846976) with q | q
      · exact q
      · have := hstep q; omega)
  · rename_i c1 c2
    exact hdone (by have := hlc.mp c2; omega)
  · rename_i c1 c2
    have hlt : c < 1152921504606846976 := by
      rcases Int.lt_or_le c 1152921504606846976 with q | q
      · exact q
      · exact absurd (hlc.mpr q) c2
    obtain ⟨p, p1, p2, p3⟩ := hcc hlt
    have fo : ∀ e, isE e → M e = M0 e ∧ M (e + 1) = M0 (e + 1) ∧ M (e + 2) = M0 (e + 2) := fun e he => by
      have := isE_m he
      exact ⟨hfr _ (by omega) (by omega) (by omega), hfr _ (by omega) (by omega) (by omega), hfr _ (by omega) (by omega) (by omega)⟩
    have lo' := lsC_frame lo (fo _ ho).1 (fo _ ho).2.1 (fo _ ho).2.2
    have la' := lsC_frame la (fo _ ha).1 (fo _ ha).2.1 (fo _ ha).2.2
    have lb' := lsC_frame lb (fo _ hb).1 (fo _ hb).2.1 (fo _ hb).2.2
    rw [← p2]
    refine sp_contentAt ho lo' p3 ?_
    simp only [px_go, px_Q0_at, px_sx_0, px_sx_s, px_cl, px_step, ↓px_ll, px_lg, f4_, ↓px_r1, ↓px_r2, ↓px_r4, ↓px_r5, ↓px_p1, ↓px_p2, ↓px_p3, ↓px_pop, px_k_0, px_k_s, px_k3_0, px_stk_, px_cats, px_ent, px_st1, px_st2, px_mask, ↓px_tsw, ↓px_lsw, ct_, mls_0, mls_1, mls_2, mls_3, mls_4, mls_5, kd_0, kd_1, kd_2, kd_3, ln_0, ln_1, ln_2, ln_3, gf_0, gf_1, gf_2, gf_3, gf_4, gf_7, gf_21, gf_63, dy_0, dy_1, dy_2, dy_3, dy_7, dy_21, px_brT, px_brF, true_and, and_true, and_false, false_and, and_self, true_implies, false_implies, or_true, true_or, or_false, false_or, eq_self, ne_eq, not_false_eq_true, not_true_eq_false, if_true, if_false, List.mem_cons, List.not_mem_nil, List.length_cons, List.length_nil, Nat.reduceEqDiff, Nat.reduceAdd, Nat.reduceSub, Nat.reduceLeDiff, Nat.reduceLT, Int.reduceEq, Int.reduceLT, Int.reduceLE, Int.reduceNeg, Int.reduceAdd, Int.reduceSub, Int.reduceToNat, ↓reduceIte, one_ne_zero_, zero_ne_one_, px_in32L, cd_56, (isE_lay ho).1, (isE_lay ha).1, (isE_lay hb).1]
    refine sp_contentAt ha la' p3 ?_
    simp only [px_go, px_Q0_at, px_sx_0, px_sx_s, px_cl, px_step, ↓px_ll, px_lg, f4_, ↓px_r1, ↓px_r2, ↓px_r4, ↓px_r5, ↓px_p1, ↓px_p2, ↓px_p3, ↓px_pop, px_k_0, px_k_s, px_k3_0, px_stk_, px_cats, px_ent, px_st1, px_st2, px_mask, ↓px_tsw, ↓px_lsw, ct_, mls_0, mls_1, mls_2, mls_3, mls_4, mls_5, kd_0, kd_1, kd_2, kd_3, ln_0, ln_1, ln_2, ln_3, gf_0, gf_1, gf_2, gf_3, gf_4, gf_7, gf_21, gf_63, dy_0, dy_1, dy_2, dy_3, dy_7, dy_21, px_brT, px_brF, true_and, and_true, and_false, false_and, and_self, true_implies, false_implies, or_true, true_or, or_false, false_or, eq_self, ne_eq, not_false_eq_true, not_true_eq_false, if_true, if_false, List.mem_cons, List.not_mem_nil, List.length_cons, List.length_nil, Nat.reduceEqDiff, Nat.reduceAdd, Nat.reduceSub, Nat.reduceLeDiff, Nat.reduceLT, Int.reduceEq, Int.reduceLT, Int.reduceLE, Int.reduceNeg, Int.reduceAdd, Int.reduceSub, Int.reduceToNat, ↓reduceIte, one_ne_zero_, zero_ne_one_, px_in32L, cd_56, (isE_lay ho).1, (isE_lay ha).1, (isE_lay hb).1]
    refine sp_contentAt hb lb' p3 ?_
    simp only [px_go, px_Q0_at, px_sx_0, px_sx_s, px_cl, px_step, ↓px_ll, px_lg, f4_, ↓px_r1, ↓px_r2, ↓px_r4, ↓px_r5, ↓px_p1, ↓px_p2, ↓px_p3, ↓px_pop, px_k_0, px_k_s, px_k3_0, px_stk_, px_cats, px_ent, px_st1, px_st2, px_mask, ↓px_tsw, ↓px_lsw, ct_, mls_0, mls_1, mls_2, mls_3, mls_4, mls_5, kd_0, kd_1, kd_2, kd_3, ln_0, ln_1, ln_2, ln_3, gf_0, gf_1, gf_2, gf_3, gf_4, gf_7, gf_21, gf_63, dy_0, dy_1, dy_2, dy_3, dy_7, dy_21, px_brT, px_brF, true_and, and_true, and_false, false_and, and_self, true_implies, false_implies, or_true, true_or, or_false, false_or, eq_self, ne_eq, not_false_eq_true, not_true_eq_false, if_true, if_false, List.mem_cons, List.not_mem_nil, List.length_cons, List.length_nil, Nat.reduceEqDiff, Nat.reduceAdd, Nat.reduceSub, Nat.reduceLeDiff, Nat.reduceLT, Int.reduceEq, Int.reduceLT, Int.reduceLE, Int.reduceNeg, Int.reduceAdd, Int.reduceSub, Int.reduceToNat, ↓reduceIte, one_ne_zero_, zero_ne_one_, px_in32L, cd_56, (isE_lay ho).1, (isE_lay ha).1, (isE_lay hb).1]
    rw [cAt_frame (fo _ ho).1 (fo _ ho).2.2, cAt_frame (fo _ ha).1 (fo _ ha).2.2, cAt_frame (fo _ hb).1 (fo _ hb).2.2]
    have jr := jfo_rng (cAt M0 eo po) (cAt M0 ea pa) (cAt M0 eb pb) U
    have ro := cAt_rng lo p
    have ra := cAt_rng la p
    have rb := cAt_rng lb p
    refine sp_settle (cf := (jfo (cAt M0 eo po) (cAt M0 ea pa) (cAt M0 eb pb) U).2) hJ (by omega) p3 (fun q hq e => ?_) (by omega) (by omega) (by omega) ⟨hcf, by omega, by omega⟩ (fun M' q1 q2 q3 q4 => ?_)
    · have := ((hU.2 q.1).mp (jr.2.2.2 q hq).1).2
      rw [e] at this; omega
    · have g4 : ∀ b, b ≠ 115 → b ≠ 116 → b ≠ 117 → M' b = M0 b := fun b b0 b1 b2 => by rw [q4 b b0 b1 b2]; exact hfr b b0 b1 b2
      have fo2 : ∀ e, isE e → M' e = M0 e ∧ M' (e + 1) = M0 (e + 1) := fun e he => by
        have := isE_m he
        exact ⟨g4 _ (by omega) (by omega) (by omega), g4 _ (by omega) (by omega) (by omega)⟩
      simp only [px_go, px_Q0_at, px_sx_0, px_sx_s, px_cl, px_step, ↓px_ll, px_lg, f4_, ↓px_r1, ↓px_r2, ↓px_r4, ↓px_r5, ↓px_p1, ↓px_p2, ↓px_p3, ↓px_pop, px_k_0, px_k_s, px_k3_0, px_stk_, px_cats, px_ent, px_st1, px_st2, px_mask, ↓px_tsw, ↓px_lsw, ct_, mls_0, mls_1, mls_2, mls_3, mls_4, mls_5, kd_0, kd_1, kd_2, kd_3, ln_0, ln_1, ln_2, ln_3, gf_0, gf_1, gf_2, gf_3, gf_4, gf_7, gf_21, gf_63, dy_0, dy_1, dy_2, dy_3, dy_7, dy_21, px_brT, px_brF, true_and, and_true, and_false, false_and, and_self, true_implies, false_implies, or_true, true_or, or_false, false_or, eq_self, ne_eq, not_false_eq_true, not_true_eq_false, if_true, if_false, List.mem_cons, List.not_mem_nil, List.length_cons, List.length_nil, Nat.reduceEqDiff, Nat.reduceAdd, Nat.reduceSub, Nat.reduceLeDiff, Nat.reduceLT, Int.reduceEq, Int.reduceLT, Int.reduceLE, Int.reduceNeg, Int.reduceAdd, Int.reduceSub, Int.reduceToNat, ↓reduceIte, one_ne_zero_, zero_ne_one_, px_in32L, cd_56, (isE_lay ho).1, (isE_lay ha).1, (isE_lay hb).1]
      refine sp_next3 ho ha hb (by rw [(fo2 _ ho).1]; exact ⟨lo.1, lo.2.1⟩) (by rw [(fo2 _ ha).1]; exact ⟨la.1, la.2.1⟩) (by rw [(fo2 _ hb).1]; exact ⟨lb.1, lb.2.1⟩) ?_
      rw [nxt_frame (fo2 _ ho).1 (fo2 _ ho).2, nxt_frame (fo2 _ ha).1 (fo2 _ ha).2, nxt_frame (fo2 _ hb).1 (fo2 _ hb).2]
      obtain ⟨d, d1, d2, d3, d4, d5⟩ := next3_spec h3 (c := enc p) (by omega)
      rw [← d1]
      simp only [px_go, px_Q0_at, px_sx_0, px_sx_s, px_cl, px_step, ↓px_ll, px_lg, f4_, ↓px_r1, ↓px_r2, ↓px_r4, ↓px_r5, ↓px_p1, ↓px_p2, ↓px_p3, ↓px_pop, px_k_0, px_k_s, px_k3_0, px_stk_, px_cats, px_ent, px_st1, px_st2, px_mask, ↓px_tsw, ↓px_lsw, ct_, mls_0, mls_1, mls_2, mls_3, mls_4, mls_5, kd_0, kd_1, kd_2, kd_3, ln_0, ln_1, ln_2, ln_3, gf_0, gf_1, gf_2, gf_3, gf_4, gf_7, gf_21, gf_63, dy_0, dy_1, dy_2, dy_3, dy_7, dy_21, px_brT, px_brF, true_and, and_true, and_false, false_and, and_self, true_implies, false_implies, or_true, true_or, or_false, false_or, eq_self, ne_eq, not_false_eq_true, not_true_eq_false, if_true, if_false, List.mem_cons, List.not_mem_nil, List.length_cons, List.length_nil, Nat.reduceEqDiff, Nat.reduceAdd, Nat.reduceSub, Nat.reduceLeDiff, Nat.reduceLT, Int.reduceEq, Int.reduceLT, Int.reduceLE, Int.reduceNeg, Int.reduceAdd, Int.reduceSub, Int.reduceToNat, ↓reduceIte, one_ne_zero_, zero_ne_one_, px_in32L, cd_56, (isE_lay ho).1, (isE_lay ha).1, (isE_lay hb).1]
      repeat' (first | (with_reducible apply And.intro) | (with_reducible refine px_br_intro (fun _ => ?_) (fun _ => ?_)))
      all_goals (try (first | (unfold px_in32; omega) | omega))
      have hjs := jfo_snoc (cAt M0 eo po) (cAt M0 ea pa) (cAt M0 eb pb) U p
      have hcs := cnt3_step h3 p1 p2 (show c < d by omega)
      refine ih (by omega) M' (U ++ [p]) d (by omega) (by rw [List.length_append, List.length_cons, List.length_nil]; omega) (by omega) ⟨?_, fun q => ?_⟩ (by rw [hjs]; exact q1) (by rw [hjs]; exact q2) (by omega) d5 g4 trivial
      · rw [List.pairwise_append]
        refine ⟨hU.1, by simp, fun a ha2 b hb2 => ?_⟩
        simp only [List.mem_cons, List.not_mem_nil, or_false] at hb2
        have := ((hU.2 a).mp ha2).2
        rw [hb2]; omega
      · rw [List.mem_append, hU.2 q]
        simp only [List.mem_cons, List.not_mem_nil, or_false]
        constructor
        · rintro (⟨a, b⟩ | a)
          · exact ⟨a, by omega⟩
          · rw [a]; exact ⟨p1, by omega⟩
        · rintro ⟨a, b⟩
          rcases (by omega : enc q < c ∨ enc q = c ∨ c < enc q) with r | r | r
          · exact Or.inl ⟨a, r⟩
          · right
            have := uL_ok h3 a
            exact enc_inj this.1 p3.1 this.2 p3.2 (by omega)
          · have := d4 q a (by omega); omega
set_option maxHeartbeats 600000 in
set_option maxRecDepth 100000 in
theorem sp_unite {w eo ea eb : Int} {po pa pb : Int → List Int} (h3 : t3 M eo ea eb po pa pb) (hw : (w = 0 ∧ eo = 118) ∨ (w = eo ∧ w ≠ 0)) (hne : ∀ p, uL M eo ea eb po pa pb p → p ≠ []) (h : ∀ M' U, isU (uL M eo ea eb po pa pb) U → jC M' (jfo (cAt M eo po) (cAt M ea pa) (cAt M eb pb) U).1 → M' 115 3 = (jfo (cAt M eo po) (cAt M ea pa) (cAt M eb pb) U).2 → (∀ b, b ≠ 115 → b ≠ 116 → b ≠ 117 → M' b = M b) → U.length ≤ 36 → Q none M') : px_Ok 56 [(2, 115), (2, w), (2, ea), (2, eb)] LAY M Q := by
  have h3' := h3
  obtain ⟨⟨ho, ha, hb⟩, ⟨lo, la, lb⟩, _⟩ := h3'
  have fo : ∀ e, isE e → px_up (px_up M 115 2 0) 115 3 0 e = M e ∧ px_up (px_up M 115 2 0) 115 3 0 (e + 1) = M (e + 1) := fun e he => by
    have := isE_m he
    exact ⟨by rw [row_ne (by omega), row_ne (by omega)], by rw [row_ne (by omega), row_ne (by omega)]⟩
  have hmain : px_WP 56 0 0 (px_Q0 LAY Q) 37 [(2, 115), (9, 0), (2, ea), (2, eb), (2, eo), (1, min (min (nxt M ea 0) (nxt M eb 0)) (nxt M eo 0)), (9, 0), (0, 0)] [] LAY (px_up (px_up M 115 2 0) 115 3 0) 0 0 := by
    obtain ⟨d, d1, d2, d3, d4, d5⟩ := next3_spec h3 (c := 0) (by decide)
    rw [← d1]
    refine lp_unite (M0 := M) h3 h 0 (by decide) _ [] d (Int.le_refl 0) rfl (by omega) ⟨List.Pairwise.nil, fun p => ?_⟩ ⟨by rw [px_up_at, if_neg (by decide), px_up_at, if_pos ⟨rfl, rfl⟩]; rfl, fun i x hx => by simp [jfo] at hx⟩ (by rw [px_up_at, if_pos ⟨rfl, rfl⟩]; rfl) ?_ d5 (fun b b0 _ _ => by rw [row_ne b0, row_ne b0]) trivial
    · refine ⟨fun q => absurd q (by simp), fun q => ?_⟩
      have hok := uL_ok h3 q.1
      have hr := enc_rng p
      have h0 := enc_0 hok.1 hok.2
      have hn := hne p q.1
      by_cases z : enc p = 0
      · exact absurd (h0.mp z) hn
      · have := d4 p q.1 (by omega); omega
    · have r1 := cE_rng (M := M) (e := eo) (c := d) lo.1
      have r2 := cE_rng (M := M) (e := ea) (c := d) la.1
      have r3 := cE_rng (M := M) (e := eb) (c := d) lb.1
      unfold cnt3; omega
  refine px_ok_go (inl := []) (ls0 := [(2, 115), (2, w), (2, ea), (2, eb), (9, 0), (9, 0), (9, 0), (9, 0)]) 60 (by decide) (Nat.le_of_ble_eq_true rfl) rfl ?_
  simp only [px_go, px_Q0_at, px_sx_0, px_sx_s, px_cl, px_step, ↓px_ll, px_lg, f4_, ↓px_r1, ↓px_r2, ↓px_r4, ↓px_r5, ↓px_p1, ↓px_p2, ↓px_p3, ↓px_pop, px_k_0, px_k_s, px_k3_0, px_stk_, px_cats, px_ent, px_st1, px_st2, px_mask, ↓px_tsw, ↓px_lsw, ct_, mls_0, mls_1, mls_2, mls_3, mls_4, mls_5, kd_0, kd_1, kd_2, kd_3, ln_0, ln_1, ln_2, ln_3, gf_0, gf_1, gf_2, gf_3, gf_4, gf_7, gf_21, gf_63, dy_0, dy_1, dy_2, dy_3, dy_7, dy_21, px_brT, px_brF, true_and, and_true, and_false, false_and, and_self, true_implies, false_implies, or_true, true_or, or_false, false_or, eq_self, ne_eq, not_false_eq_true, not_true_eq_false, if_true, if_false, List.mem_cons, List.not_mem_nil, List.length_cons, List.length_nil, Nat.reduceEqDiff, Nat.reduceAdd, Nat.reduceSub, Nat.reduceLeDiff, Nat.reduceLT, Int.reduceEq, Int.reduceLT, Int.reduceLE, Int.reduceNeg, Int.reduceAdd, Int.reduceSub, Int.reduceToNat, ↓reduceIte, one_ne_zero_, zero_ne_one_, px_in32L, cd_56]
  repeat' (first | (with_reducible apply And.intro) | (with_reducible refine px_br_intro (fun _ => ?_) (fun _ => ?_)))
  all_goals (try (first | (unfold px_in32; omega) | omega))
  · rename_i c1
    have e : eo = 118 := by omega
    rw [← e]
    refine sp_next3 ho ha hb (by rw [(fo _ ho).1]; exact ⟨lo.1, lo.2.1⟩) (by rw [(fo _ ha).1]; exact ⟨la.1, la.2.1⟩) (by rw [(fo _ hb).1]; exact ⟨lb.1, lb.2.1⟩) ?_
    rw [nxt_frame (fo _ ho).1 (fo _ ho).2, nxt_frame (fo _ ha).1 (fo _ ha).2, nxt_frame (fo _ hb).1 (fo _ hb).2]
    simp only [px_go, px_Q0_at, px_sx_0, px_sx_s, px_cl, px_step, ↓px_ll, px_lg, f4_, ↓px_r1, ↓px_r2, ↓px_r4, ↓px_r5, ↓px_p1, ↓px_p2, ↓px_p3, ↓px_pop, px_k_0, px_k_s, px_k3_0, px_stk_, px_cats, px_ent, px_st1, px_st2, px_mask, ↓px_tsw, ↓px_lsw, ct_, mls_0, mls_1, mls_2, mls_3, mls_4, mls_5, kd_0, kd_1, kd_2, kd_3, ln_0, ln_1, ln_2, ln_3, gf_0, gf_1, gf_2, gf_3, gf_4, gf_7, gf_21, gf_63, dy_0, dy_1, dy_2, dy_3, dy_7, dy_21, px_brT, px_brF, true_and, and_true, and_false, false_and, and_self, true_implies, false_implies, or_true, true_or, or_false, false_or, eq_self, ne_eq, not_false_eq_true, not_true_eq_false, if_true, if_false, List.mem_cons, List.not_mem_nil, List.length_cons, List.length_nil, Nat.reduceEqDiff, Nat.reduceAdd, Nat.reduceSub, Nat.reduceLeDiff, Nat.reduceLT, Int.reduceEq, Int.reduceLT, Int.reduceLE, Int.reduceNeg, Int.reduceAdd, Int.reduceSub, Int.reduceToNat, ↓reduceIte, one_ne_zero_, zero_ne_one_, px_in32L, cd_56, (isE_lay ho).1, (isE_lay ha).1, (isE_lay hb).1]
    exact hmain
  · rename_i c1
    have e : w = eo := by omega
    rw [e]
    refine sp_next3 ho ha hb (by rw [(fo _ ho).1]; exact ⟨lo.1, lo.2.1⟩) (by rw [(fo _ ha).1]; exact ⟨la.1, la.2.1⟩) (by rw [(fo _ hb).1]; exact ⟨lb.1, lb.2.1⟩) ?_
    rw [nxt_frame (fo _ ho).1 (fo _ ho).2, nxt_frame (fo _ ha).1 (fo _ ha).2, nxt_frame (fo _ hb).1 (fo _ hb).2]
    simp only [px_go, px_Q0_at, px_sx_0, px_sx_s, px_cl, px_step, ↓px_ll, px_lg, f4_, ↓px_r1, ↓px_r2, ↓px_r4, ↓px_r5, ↓px_p1, ↓px_p2, ↓px_p3, ↓px_pop, px_k_0, px_k_s, px_k3_0, px_stk_, px_cats, px_ent, px_st1, px_st2, px_mask, ↓px_tsw, ↓px_lsw, ct_, mls_0, mls_1, mls_2, mls_3, mls_4, mls_5, kd_0, kd_1, kd_2, kd_3, ln_0, ln_1, ln_2, ln_3, gf_0, gf_1, gf_2, gf_3, gf_4, gf_7, gf_21, gf_63, dy_0, dy_1, dy_2, dy_3, dy_7, dy_21, px_brT, px_brF, true_and, and_true, and_false, false_and, and_self, true_implies, false_implies, or_true, true_or, or_false, false_or, eq_self, ne_eq, not_false_eq_true, not_true_eq_false, if_true, if_false, List.mem_cons, List.not_mem_nil, List.length_cons, List.length_nil, Nat.reduceEqDiff, Nat.reduceAdd, Nat.reduceSub, Nat.reduceLeDiff, Nat.reduceLT, Int.reduceEq, Int.reduceLT, Int.reduceLE, Int.reduceNeg, Int.reduceAdd, Int.reduceSub, Int.reduceToNat, ↓reduceIte, one_ne_zero_, zero_ne_one_, px_in32L, cd_56, (isE_lay ho).1, (isE_lay ha).1, (isE_lay hb).1]
    exact hmain
end PS
