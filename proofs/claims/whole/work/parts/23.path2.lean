/-! EditionVault.Path, on: above, within, renamed -/
def ab (p o : List Int) : Prop := p ≠ [] ∧ o.take p.length = p ∧ o[p.length]? = some 47
def wi (p top : List Int) : Prop := p = top ∨ ab top p
/-- a path's list as one number -/
def okp (l : List Int) : Prop := okl l ∧ l.length ≤ 12
theorem enc_top {l : List Int} {n : Nat} (h1 : 1 ≤ n) (h2 : n ≤ 12) : px_lushr (enc l) (60 - 5 * (n : Int)) = encF n (l.take n) := by
  have hr := enc_rng l
  rw [lushr_eq (by omega) (by omega) hr.1 (by omega), show (60 - 5 * (n : Int)).toNat = 5 * (12 - n) by omega, ← P32_2]
  exact encF_top (d := 12) l h2
theorem enc_shl {l : List Int} (hl : l.length ≤ 12) {j : Nat} (hj : j ≤ 12) : px_land (px_lshl (enc l) (5 * (j : Int))) 1152921504606846975 = enc (l.drop j) := by
  have hr := enc_rng l
  rw [lshl_eq (by omega) (by omega) hr.1 (by omega), land_low, show (5 * (j : Int)).toNat = 5 * j by omega, ← P32_2]
  have h := encF_shl hl j
  rw [P32_12] at h
  rw [show enc (l.drop j) = enc l * P32 j % 1152921504606846976 from h.symm]
  generalize enc l * P32 j = x
  unfold Int.bmod
  dsimp only
  omega
theorem enc_ren {t d : List Int} (h : t.length + d.length ≤ 12) : px_lor (enc t) (px_lushr (enc d) (5 * (t.length : Int))) = enc (t ++ d) := by
  have hr := enc_rng d
  have ht := enc_rng t
  rw [lushr_eq (by omega) (by omega) hr.1 (by omega), show (5 * (t.length : Int)).toNat = 5 * t.length by omega, ← P32_2]
  have h1 : enc d = encF (12 - t.length) d * P32 t.length := by
    have := encF_up (d := 12 - t.length) (l := d) t.length (by omega)
    rw [show 12 - t.length + t.length = 12 by omega] at this
    exact this
  have hP := P32_pos t.length
  rw [h1, Int.mul_ediv_cancel _ (by omega)]
  have h2 := encF_rng (12 - t.length) d
  have h3 : enc t = encF t.length t * P32 (12 - t.length) := by
    have := encF_up (d := t.length) (l := t) (12 - t.length) (by omega)
    rw [show t.length + (12 - t.length) = 12 by omega] at this
    exact this
  rw [lor_add (n := 5 * (12 - t.length)) ht.1 (by omega) (by rw [← P32_2, h3]; exact Int.mul_emod_left _ _) h2.1 (by rw [← P32_2]; exact h2.2) (by omega)]
  exact (encF_app (d := 12) (by omega)).symm
theorem ab_top {p o : List Int} (hp : okp p) (ho : okp o) (h1 : p ≠ []) (h2 : o[p.length]? = some 47) : ab p o ↔ encF p.length (p.take p.length) = encF p.length (o.take p.length) := by
  have hlt : p.length < o.length := (List.getElem?_eq_some_iff.mp h2).1
  rw [List.take_of_length_le (Nat.le_refl _)]
  constructor
  · intro h; rw [h.2.1]
  · intro h
    have := encF_inj hp.1 (fun b hb => ho.1 b (List.mem_of_mem_take hb)) (Nat.le_refl _) (by rw [List.length_take]; omega) h
    exact ⟨h1, this.symm, h2⟩
theorem sgA_slash {l : List Int} {k : Nat} : sgA l (k : Int) = 1 ↔ l[k]? = some 47 := by
  unfold sgA
  rw [if_pos (by omega), Int.toNat_natCast]
  cases l[k]? with
  | none => simp
  | some b => simp [sg_1]
section PS
variable {M : px_mem} {Q : Option pv → px_mem → Prop}
set_option maxHeartbeats 4000000 in
set_option maxRecDepth 100000 in
theorem sp_isAbove {p o : List Int} (hp : okp p) (ho : okp o) (h1 : ab p o → Q (some (0, 1)) M) (h0 : ¬ ab p o → Q (some (0, 0)) M) : px_Ok 65 [(1, enc p), (1, enc o)] LAY M Q := by
  have hpl := hp.2
  refine px_ok_go (inl := []) (ls0 := [(1, enc p), (9, 0), (1, enc o), (9, 0), (9, 0), (9, 0)]) 40 (by decide) (Nat.le_of_ble_eq_true rfl) rfl ?_
  simp only [px_go, px_Q0_at, px_sx_0, px_sx_s, px_cl, px_step, ↓px_ll, px_lg, f4_, ↓px_r1, ↓px_r2, ↓px_r4, ↓px_r5, ↓px_p1, ↓px_p2, ↓px_p3, ↓px_pop, px_k_0, px_k_s, px_k3_0, px_stk_, px_cats, px_ent, px_st1, px_st2, px_mask, ↓px_tsw, ↓px_lsw, ct_, mls_0, mls_1, mls_2, mls_3, mls_4, mls_5, kd_0, kd_1, kd_2, kd_3, ln_0, ln_1, ln_2, ln_3, gf_0, gf_1, gf_2, gf_3, gf_4, gf_7, gf_21, gf_63, dy_0, dy_1, dy_2, dy_3, dy_7, dy_21, px_brT, px_brF, true_and, and_true, and_false, false_and, and_self, true_implies, false_implies, or_true, true_or, or_false, false_or, eq_self, ne_eq, not_false_eq_true, not_true_eq_false, if_true, if_false, List.mem_cons, List.not_mem_nil, List.length_cons, List.length_nil, Nat.reduceEqDiff, Nat.reduceAdd, Nat.reduceSub, Nat.reduceLeDiff, Nat.reduceLT, Int.reduceEq, Int.reduceLT, Int.reduceLE, Int.reduceNeg, Int.reduceAdd, Int.reduceSub, Int.reduceToNat, ↓reduceIte, one_ne_zero_, zero_ne_one_, px_in32L, cd_65]
  refine sp_lengthOf hp.2 hp.1 ?_
  simp only [px_go, px_Q0_at, px_sx_0, px_sx_s, px_cl, px_step, ↓px_ll, px_lg, f4_, ↓px_r1, ↓px_r2, ↓px_r4, ↓px_r5, ↓px_p1, ↓px_p2, ↓px_p3, ↓px_pop, px_k_0, px_k_s, px_k3_0, px_stk_, px_cats, px_ent, px_st1, px_st2, px_mask, ↓px_tsw, ↓px_lsw, ct_, mls_0, mls_1, mls_2, mls_3, mls_4, mls_5, kd_0, kd_1, kd_2, kd_3, ln_0, ln_1, ln_2, ln_3, gf_0, gf_1, gf_2, gf_3, gf_4, gf_7, gf_21, gf_63, dy_0, dy_1, dy_2, dy_3, dy_7, dy_21, px_brT, px_brF, true_and, and_true, and_false, false_and, and_self, true_implies, false_implies, or_true, true_or, or_false, false_or, eq_self, ne_eq, not_false_eq_true, not_true_eq_false, if_true, if_false, List.mem_cons, List.not_mem_nil, List.length_cons, List.length_nil, Nat.reduceEqDiff, Nat.reduceAdd, Nat.reduceSub, Nat.reduceLeDiff, Nat.reduceLT, Int.reduceEq, Int.reduceLT, Int.reduceLE, Int.reduceNeg, Int.reduceAdd, Int.reduceSub, Int.reduceToNat, ↓reduceIte, one_ne_zero_, zero_ne_one_, px_in32L, cd_65]
  refine px_br_intro (fun c1 => ?_) (fun c1 => ?_)
  · exact h0 (fun h => h.1 (List.length_eq_zero_iff.mp (by omega)))
  · refine sp_signAt ho.2 ?_
    simp only [px_go, px_Q0_at, px_sx_0, px_sx_s, px_cl, px_step, ↓px_ll, px_lg, f4_, ↓px_r1, ↓px_r2, ↓px_r4, ↓px_r5, ↓px_p1, ↓px_p2, ↓px_p3, ↓px_pop, px_k_0, px_k_s, px_k3_0, px_stk_, px_cats, px_ent, px_st1, px_st2, px_mask, ↓px_tsw, ↓px_lsw, ct_, mls_0, mls_1, mls_2, mls_3, mls_4, mls_5, kd_0, kd_1, kd_2, kd_3, ln_0, ln_1, ln_2, ln_3, gf_0, gf_1, gf_2, gf_3, gf_4, gf_7, gf_21, gf_63, dy_0, dy_1, dy_2, dy_3, dy_7, dy_21, px_brT, px_brF, true_and, and_true, and_false, false_and, and_self, true_implies, false_implies, or_true, true_or, or_false, false_or, eq_self, ne_eq, not_false_eq_true, not_true_eq_false, if_true, if_false, List.mem_cons, List.not_mem_nil, List.length_cons, List.length_nil, Nat.reduceEqDiff, Nat.reduceAdd, Nat.reduceSub, Nat.reduceLeDiff, Nat.reduceLT, Int.reduceEq, Int.reduceLT, Int.reduceLE, Int.reduceNeg, Int.reduceAdd, Int.reduceSub, Int.reduceToNat, ↓reduceIte, one_ne_zero_, zero_ne_one_, px_in32L, cd_65]
    refine px_br_intro (fun c2 => ?_) (fun c2 => ?_)
    · have hne : p ≠ [] := fun e => c1 (by rw [e]; rfl)
      have hpos : 1 ≤ p.length := List.length_pos_iff.mpr hne
      rw [enc_top hpos hp.2, enc_top hpos hp.2]
      have hab := ab_top hp ho hne (sgA_slash.mp c2)
      have hlc := (lcmp_lt (encF p.length (p.take p.length)) (encF p.length (o.take p.length))).2.1
      repeat' (first | (with_reducible apply And.intro) | (with_reducible refine px_br_intro (fun _ => ?_) (fun _ => ?_)))
      all_goals (try (first | (unfold px_in32; omega) | omega))
      · rename_i c3; exact h1 (hab.mpr (hlc.mp c3))
      · rename_i c3; exact h0 (fun h => c3 (hlc.mpr (hab.mp h)))
    · exact h0 (fun h => c2 (sgA_slash.mpr h.2.2))
set_option maxHeartbeats 4000000 in
set_option maxRecDepth 100000 in
theorem sp_isWithin {p t : List Int} (hp : okp p) (ht : okp t) (h1 : wi p t → Q (some (0, 1)) M) (h0 : ¬ wi p t → Q (some (0, 0)) M) : px_Ok 66 [(1, enc p), (1, enc t)] LAY M Q := by
  refine px_ok_go (inl := []) (ls0 := [(1, enc p), (9, 0), (1, enc t), (9, 0)]) 40 (by decide) (Nat.le_of_ble_eq_true rfl) rfl ?_
  simp only [px_go, px_Q0_at, px_sx_0, px_sx_s, px_cl, px_step, ↓px_ll, px_lg, f4_, ↓px_r1, ↓px_r2, ↓px_r4, ↓px_r5, ↓px_p1, ↓px_p2, ↓px_p3, ↓px_pop, px_k_0, px_k_s, px_k3_0, px_stk_, px_cats, px_ent, px_st1, px_st2, px_mask, ↓px_tsw, ↓px_lsw, ct_, mls_0, mls_1, mls_2, mls_3, mls_4, mls_5, kd_0, kd_1, kd_2, kd_3, ln_0, ln_1, ln_2, ln_3, gf_0, gf_1, gf_2, gf_3, gf_4, gf_7, gf_21, gf_63, dy_0, dy_1, dy_2, dy_3, dy_7, dy_21, px_brT, px_brF, true_and, and_true, and_false, false_and, and_self, true_implies, false_implies, or_true, true_or, or_false, false_or, eq_self, ne_eq, not_false_eq_true, not_true_eq_false, if_true, if_false, List.mem_cons, List.not_mem_nil, List.length_cons, List.length_nil, Nat.reduceEqDiff, Nat.reduceAdd, Nat.reduceSub, Nat.reduceLeDiff, Nat.reduceLT, Int.reduceEq, Int.reduceLT, Int.reduceLE, Int.reduceNeg, Int.reduceAdd, Int.reduceSub, Int.reduceToNat, ↓reduceIte, one_ne_zero_, zero_ne_one_, px_in32L, cd_66]
  have hlc := (lcmp_lt (enc p) (enc t)).2.1
  refine px_br_intro (fun c1 => ?_) (fun c1 => ?_)
  · exact h1 (Or.inl (enc_inj hp.1 ht.1 hp.2 ht.2 (hlc.mp c1)))
  · refine sp_isAbove ht hp (fun c2 => ?_) (fun c2 => ?_)
    · simp only [px_go, px_Q0_at, px_sx_0, px_sx_s, px_cl, px_step, ↓px_ll, px_lg, f4_, ↓px_r1, ↓px_r2, ↓px_r4, ↓px_r5, ↓px_p1, ↓px_p2, ↓px_p3, ↓px_pop, px_k_0, px_k_s, px_k3_0, px_stk_, px_cats, px_ent, px_st1, px_st2, px_mask, ↓px_tsw, ↓px_lsw, ct_, mls_0, mls_1, mls_2, mls_3, mls_4, mls_5, kd_0, kd_1, kd_2, kd_3, ln_0, ln_1, ln_2, ln_3, gf_0, gf_1, gf_2, gf_3, gf_4, gf_7, gf_21, gf_63, dy_0, dy_1, dy_2, dy_3, dy_7, dy_21, px_brT, px_brF, true_and, and_true, and_false, false_and, and_self, true_implies, false_implies, or_true, true_or, or_false, false_or, eq_self, ne_eq, not_false_eq_true, not_true_eq_false, if_true, if_false, List.mem_cons, List.not_mem_nil, List.length_cons, List.length_nil, Nat.reduceEqDiff, Nat.reduceAdd, Nat.reduceSub, Nat.reduceLeDiff, Nat.reduceLT, Int.reduceEq, Int.reduceLT, Int.reduceLE, Int.reduceNeg, Int.reduceAdd, Int.reduceSub, Int.reduceToNat, ↓reduceIte, one_ne_zero_, zero_ne_one_, px_in32L, cd_66]
      exact h1 (Or.inr c2)
    · simp only [px_go, px_Q0_at, px_sx_0, px_sx_s, px_cl, px_step, ↓px_ll, px_lg, f4_, ↓px_r1, ↓px_r2, ↓px_r4, ↓px_r5, ↓px_p1, ↓px_p2, ↓px_p3, ↓px_pop, px_k_0, px_k_s, px_k3_0, px_stk_, px_cats, px_ent, px_st1, px_st2, px_mask, ↓px_tsw, ↓px_lsw, ct_, mls_0, mls_1, mls_2, mls_3, mls_4, mls_5, kd_0, kd_1, kd_2, kd_3, ln_0, ln_1, ln_2, ln_3, gf_0, gf_1, gf_2, gf_3, gf_4, gf_7, gf_21, gf_63, dy_0, dy_1, dy_2, dy_3, dy_7, dy_21, px_brT, px_brF, true_and, and_true, and_false, false_and, and_self, true_implies, false_implies, or_true, true_or, or_false, false_or, eq_self, ne_eq, not_false_eq_true, not_true_eq_false, if_true, if_false, List.mem_cons, List.not_mem_nil, List.length_cons, List.length_nil, Nat.reduceEqDiff, Nat.reduceAdd, Nat.reduceSub, Nat.reduceLeDiff, Nat.reduceLT, Int.reduceEq, Int.reduceLT, Int.reduceLE, Int.reduceNeg, Int.reduceAdd, Int.reduceSub, Int.reduceToNat, ↓reduceIte, one_ne_zero_, zero_ne_one_, px_in32L, cd_66]
      exact h0 (fun h => h.elim (fun e => c1 (hlc.mpr (by rw [e]))) c2)
noncomputable def idx (n : Int) (p : Int → Prop) : Int := if fnd n p = -1 then -2 else fnd n p
theorem idx_hit {n i : Int} {p : Int → Prop} (h0 : 0 ≤ i) (h1 : i < n) (hp : p i) (hl : ∀ j, 0 ≤ j → j < i → ¬ p j) : idx n p = i := by
  unfold idx
  rw [fnd_hit h0 h1 hp hl, if_neg (by omega)]
theorem idx_miss {n : Int} {p : Int → Prop} (hl : ∀ j, 0 ≤ j → j < n → ¬ p j) : idx n p = -2 := by
  unfold idx
  rw [fnd_miss hl, if_pos rfl]
set_option maxHeartbeats 4000000 in
set_option maxRecDepth 100000 in
theorem lp_placeIn {v n c : Int} (hk : px_kd LAY v = 1) (hn : n ≤ px_ln LAY v) (hn0 : 0 ≤ n) (hn1 : px_ln LAY v < 1000) (h : Q (some (0, idx n (fun i => M v i = c))) M) (i : Int) (hi : i ≤ n) : 0 ≤ i → (∀ j, 0 ≤ j → j < i → ¬ M v j = c) → px_WP 67 0 0 (px_Q0 LAY Q) 3 [(2, v), (0, n), (1, c), (9, 0), (0, i)] [] LAY M 0 0 := by
  refine up_ind (P := fun i => 0 ≤ i → (∀ j, 0 ≤ j → j < i → ¬ M v j = c) → px_WP 67 0 0 (px_Q0 LAY Q) 3 [(2, v), (0, n), (1, c), (9, 0), (0, i)] [] LAY M 0 0) n (fun i hi ih h0 hl => ?_) i hi
  refine px_go_ok (inl := []) 40 ?_
  simp only [px_go, px_Q0_at, px_sx_0, px_sx_s, px_cl, px_step, ↓px_ll, px_lg, f4_, ↓px_r1, ↓px_r2, ↓px_r4, ↓px_r5, ↓px_p1, ↓px_p2, ↓px_p3, ↓px_pop, px_k_0, px_k_s, px_k3_0, px_stk_, px_cats, px_ent, px_st1, px_st2, px_mask, ↓px_tsw, ↓px_lsw, ct_, mls_0, mls_1, mls_2, mls_3, mls_4, mls_5, kd_0, kd_1, kd_2, kd_3, ln_0, ln_1, ln_2, ln_3, gf_0, gf_1, gf_2, gf_3, gf_4, gf_7, gf_21, gf_63, dy_0, dy_1, dy_2, dy_3, dy_7, dy_21, px_brT, px_brF, true_and, and_true, and_false, false_and, and_self, true_implies, false_implies, or_true, true_or, or_false, false_or, eq_self, ne_eq, not_false_eq_true, not_true_eq_false, if_true, if_false, List.mem_cons, List.not_mem_nil, List.length_cons, List.length_nil, Nat.reduceEqDiff, Nat.reduceAdd, Nat.reduceSub, Nat.reduceLeDiff, Nat.reduceLT, Int.reduceEq, Int.reduceLT, Int.reduceLE, Int.reduceNeg, Int.reduceAdd, Int.reduceSub, Int.reduceToNat, ↓reduceIte, one_ne_zero_, zero_ne_one_, px_in32L, cd_67, hk]
  have hlc := (lcmp_lt (M v i) c).2.1
  repeat' (first | (with_reducible apply And.intro) | (with_reducible refine px_br_intro (fun _ => ?_) (fun _ => ?_)))
  all_goals (try (first | (unfold px_in32; omega) | omega))
  · exact qe h (idx_miss (fun j a b => hl j a (by omega))).symm
  · rename_i c1 c2 c3
    exact qe h (idx_hit h0 (by omega) (hlc.mp c3) hl).symm
  · rename_i c1 c2 c3
    exact ih (by omega) (by omega) (fun j a b => by
      by_cases e : j = i
      · rw [e]; exact fun q => c3 (hlc.mpr q)
      · exact hl j a (by omega))
set_option maxHeartbeats 4000000 in
set_option maxRecDepth 100000 in
theorem sp_placeIn {v n c : Int} (hk : px_kd LAY v = 1) (hn : n ≤ px_ln LAY v) (hn0 : 0 ≤ n) (hn1 : px_ln LAY v < 1000) (h : Q (some (0, idx n (fun i => M v i = c))) M) : px_Ok 67 [(2, v), (0, n), (1, c)] LAY M Q := by
  refine px_ok_go (inl := []) (ls0 := [(2, v), (0, n), (1, c), (9, 0), (9, 0)]) 40 (by decide) (Nat.le_of_ble_eq_true rfl) rfl ?_
  simp only [px_go, px_Q0_at, px_sx_0, px_sx_s, px_cl, px_step, ↓px_ll, px_lg, f4_, ↓px_r1, ↓px_r2, ↓px_r4, ↓px_r5, ↓px_p1, ↓px_p2, ↓px_p3, ↓px_pop, px_k_0, px_k_s, px_k3_0, px_stk_, px_cats, px_ent, px_st1, px_st2, px_mask, ↓px_tsw, ↓px_lsw, ct_, mls_0, mls_1, mls_2, mls_3, mls_4, mls_5, kd_0, kd_1, kd_2, kd_3, ln_0, ln_1, ln_2, ln_3, gf_0, gf_1, gf_2, gf_3, gf_4, gf_7, gf_21, gf_63, dy_0, dy_1, dy_2, dy_3, dy_7, dy_21, px_brT, px_brF, true_and, and_true, and_false, false_and, and_self, true_implies, false_implies, or_true, true_or, or_false, false_or, eq_self, ne_eq, not_false_eq_true, not_true_eq_false, if_true, if_false, List.mem_cons, List.not_mem_nil, List.length_cons, List.length_nil, Nat.reduceEqDiff, Nat.reduceAdd, Nat.reduceSub, Nat.reduceLeDiff, Nat.reduceLT, Int.reduceEq, Int.reduceLT, Int.reduceLE, Int.reduceNeg, Int.reduceAdd, Int.reduceSub, Int.reduceToNat, ↓reduceIte, one_ne_zero_, zero_ne_one_, px_in32L, cd_67]
  exact lp_placeIn hk hn hn0 hn1 h 0 hn0 (Int.le_refl 0) (fun j a b => by omega)
noncomputable def b1 (p : Prop) : Int := by
  classical
  exact if p then 1 else 0
theorem b1_t {p : Prop} (h : p) : b1 p = 1 := by unfold b1; rw [if_pos h]
theorem b1_f {p : Prop} (h : ¬ p) : b1 p = 0 := by unfold b1; rw [if_neg h]
theorem b1_rng (p : Prop) : 0 ≤ b1 p ∧ b1 p ≤ 1 := by unfold b1; split <;> omega
set_option maxHeartbeats 4000000 in
set_option maxRecDepth 100000 in
theorem lp_hmw {v n : Int} {t : List Int} {pl : Int → List Int} (hk : px_kd LAY v = 1) (hn : n ≤ px_ln LAY v) (hn1 : px_ln LAY v < 1000) (ht : okp t) (hpl : ∀ i, 0 ≤ i → i < n → okp (pl i) ∧ M v i = enc (pl i)) (h : Q (some (0, sm n (fun i => b1 (wi (pl i) t)))) M) (i : Int) (hi : i ≤ n) : 0 ≤ i → px_WP 68 0 0 (px_Q0 LAY Q) 6 [(2, v), (0, n), (1, enc t), (9, 0), (0, sm i (fun i => b1 (wi (pl i) t))), (0, i)] [] LAY M 0 0 := by
  refine up_ind (P := fun i => 0 ≤ i → px_WP 68 0 0 (px_Q0 LAY Q) 6 [(2, v), (0, n), (1, enc t), (9, 0), (0, sm i (fun i => b1 (wi (pl i) t))), (0, i)] [] LAY M 0 0) n (fun i hi ih h0 => ?_) i hi
  refine px_go_ok (inl := []) 40 ?_
  simp only [px_go, px_Q0_at, px_sx_0, px_sx_s, px_cl, px_step, ↓px_ll, px_lg, f4_, ↓px_r1, ↓px_r2, ↓px_r4, ↓px_r5, ↓px_p1, ↓px_p2, ↓px_p3, ↓px_pop, px_k_0, px_k_s, px_k3_0, px_stk_, px_cats, px_ent, px_st1, px_st2, px_mask, ↓px_tsw, ↓px_lsw, ct_, mls_0, mls_1, mls_2, mls_3, mls_4, mls_5, kd_0, kd_1, kd_2, kd_3, ln_0, ln_1, ln_2, ln_3, gf_0, gf_1, gf_2, gf_3, gf_4, gf_7, gf_21, gf_63, dy_0, dy_1, dy_2, dy_3, dy_7, dy_21, px_brT, px_brF, true_and, and_true, and_false, false_and, and_self, true_implies, false_implies, or_true, true_or, or_false, false_or, eq_self, ne_eq, not_false_eq_true, not_true_eq_false, if_true, if_false, List.mem_cons, List.not_mem_nil, List.length_cons, List.length_nil, Nat.reduceEqDiff, Nat.reduceAdd, Nat.reduceSub, Nat.reduceLeDiff, Nat.reduceLT, Int.reduceEq, Int.reduceLT, Int.reduceLE, Int.reduceNeg, Int.reduceAdd, Int.reduceSub, Int.reduceToNat, ↓reduceIte, one_ne_zero_, zero_ne_one_, px_in32L, cd_68, hk]
  have hb := sm_bnd (n := i) (c := 1) (f := fun i => b1 (wi (pl i) t)) h0 (fun j _ _ => b1_rng _)
  repeat' (first | (with_reducible apply And.intro) | (with_reducible refine px_br_intro (fun _ => ?_) (fun _ => ?_)))
  all_goals (try (first | (unfold px_in32; omega) | omega))
  · rw [show i = n by omega]; exact h
  · obtain ⟨g1, g2⟩ := hpl i h0 (by omega)
    rw [g2]
    refine sp_isWithin g1 ht (fun c2 => ?_) (fun c2 => ?_)
    · simp only [px_go, px_Q0_at, px_sx_0, px_sx_s, px_cl, px_step, ↓px_ll, px_lg, f4_, ↓px_r1, ↓px_r2, ↓px_r4, ↓px_r5, ↓px_p1, ↓px_p2, ↓px_p3, ↓px_pop, px_k_0, px_k_s, px_k3_0, px_stk_, px_cats, px_ent, px_st1, px_st2, px_mask, ↓px_tsw, ↓px_lsw, ct_, mls_0, mls_1, mls_2, mls_3, mls_4, mls_5, kd_0, kd_1, kd_2, kd_3, ln_0, ln_1, ln_2, ln_3, gf_0, gf_1, gf_2, gf_3, gf_4, gf_7, gf_21, gf_63, dy_0, dy_1, dy_2, dy_3, dy_7, dy_21, px_brT, px_brF, true_and, and_true, and_false, false_and, and_self, true_implies, false_implies, or_true, true_or, or_false, false_or, eq_self, ne_eq, not_false_eq_true, not_true_eq_false, if_true, if_false, List.mem_cons, List.not_mem_nil, List.length_cons, List.length_nil, Nat.reduceEqDiff, Nat.reduceAdd, Nat.reduceSub, Nat.reduceLeDiff, Nat.reduceLT, Int.reduceEq, Int.reduceLT, Int.reduceLE, Int.reduceNeg, Int.reduceAdd, Int.reduceSub, Int.reduceToNat, ↓reduceIte, one_ne_zero_, zero_ne_one_, px_in32L, cd_68]
      have := ih (by omega) (by omega)
      rw [sm_s h0, b1_t c2] at this
      repeat' (first | (with_reducible apply And.intro) | (with_reducible refine px_br_intro (fun _ => ?_) (fun _ => ?_)))
      all_goals (try (first | (unfold px_in32; omega) | omega))
      all_goals exact this
    · simp only [px_go, px_Q0_at, px_sx_0, px_sx_s, px_cl, px_step, ↓px_ll, px_lg, f4_, ↓px_r1, ↓px_r2, ↓px_r4, ↓px_r5, ↓px_p1, ↓px_p2, ↓px_p3, ↓px_pop, px_k_0, px_k_s, px_k3_0, px_stk_, px_cats, px_ent, px_st1, px_st2, px_mask, ↓px_tsw, ↓px_lsw, ct_, mls_0, mls_1, mls_2, mls_3, mls_4, mls_5, kd_0, kd_1, kd_2, kd_3, ln_0, ln_1, ln_2, ln_3, gf_0, gf_1, gf_2, gf_3, gf_4, gf_7, gf_21, gf_63, dy_0, dy_1, dy_2, dy_3, dy_7, dy_21, px_brT, px_brF, true_and, and_true, and_false, false_and, and_self, true_implies, false_implies, or_true, true_or, or_false, false_or, eq_self, ne_eq, not_false_eq_true, not_true_eq_false, if_true, if_false, List.mem_cons, List.not_mem_nil, List.length_cons, List.length_nil, Nat.reduceEqDiff, Nat.reduceAdd, Nat.reduceSub, Nat.reduceLeDiff, Nat.reduceLT, Int.reduceEq, Int.reduceLT, Int.reduceLE, Int.reduceNeg, Int.reduceAdd, Int.reduceSub, Int.reduceToNat, ↓reduceIte, one_ne_zero_, zero_ne_one_, px_in32L, cd_68]
      have := ih (by omega) (by omega)
      rw [sm_s h0, b1_f c2, Int.add_zero] at this
      repeat' (first | (with_reducible apply And.intro) | (with_reducible refine px_br_intro (fun _ => ?_) (fun _ => ?_)))
      all_goals (try (first | (unfold px_in32; omega) | omega))
      all_goals exact this
set_option maxHeartbeats 4000000 in
set_option maxRecDepth 100000 in
theorem sp_hmw {v n : Int} {t : List Int} {pl : Int → List Int} (hk : px_kd LAY v = 1) (hn0 : 0 ≤ n) (hn : n ≤ px_ln LAY v) (hn1 : px_ln LAY v < 1000) (ht : okp t) (hpl : ∀ i, 0 ≤ i → i < n → okp (pl i) ∧ M v i = enc (pl i)) (h : Q (some (0, sm n (fun i => b1 (wi (pl i) t)))) M) : px_Ok 68 [(2, v), (0, n), (1, enc t)] LAY M Q := by
  refine px_ok_go (inl := []) (ls0 := [(2, v), (0, n), (1, enc t), (9, 0), (9, 0), (9, 0)]) 40 (by decide) (Nat.le_of_ble_eq_true rfl) rfl ?_
  simp only [px_go, px_Q0_at, px_sx_0, px_sx_s, px_cl, px_step, ↓px_ll, px_lg, f4_, ↓px_r1, ↓px_r2, ↓px_r4, ↓px_r5, ↓px_p1, ↓px_p2, ↓px_p3, ↓px_pop, px_k_0, px_k_s, px_k3_0, px_stk_, px_cats, px_ent, px_st1, px_st2, px_mask, ↓px_tsw, ↓px_lsw, ct_, mls_0, mls_1, mls_2, mls_3, mls_4, mls_5, kd_0, kd_1, kd_2, kd_3, ln_0, ln_1, ln_2, ln_3, gf_0, gf_1, gf_2, gf_3, gf_4, gf_7, gf_21, gf_63, dy_0, dy_1, dy_2, dy_3, dy_7, dy_21, px_brT, px_brF, true_and, and_true, and_false, false_and, and_self, true_implies, false_implies, or_true, true_or, or_false, false_or, eq_self, ne_eq, not_false_eq_true, not_true_eq_false, if_true, if_false, List.mem_cons, List.not_mem_nil, List.length_cons, List.length_nil, Nat.reduceEqDiff, Nat.reduceAdd, Nat.reduceSub, Nat.reduceLeDiff, Nat.reduceLT, Int.reduceEq, Int.reduceLT, Int.reduceLE, Int.reduceNeg, Int.reduceAdd, Int.reduceSub, Int.reduceToNat, ↓reduceIte, one_ne_zero_, zero_ne_one_, px_in32L, cd_68]
  exact lp_hmw hk hn hn1 ht hpl h 0 hn0 (Int.le_refl 0)
set_option maxHeartbeats 4000000 in
set_option maxRecDepth 100000 in
theorem sp_renamed {p f t : List Int} (hp : okp p) (hf : okp f) (ht : okp t) (hfp : f.length ≤ p.length) (h : Q (some (1, if (p.length : Int) - f.length + t.length > 12 then 0 else enc (t ++ p.drop f.length))) M) : px_Ok 69 [(1, enc p), (1, enc f), (1, enc t)] LAY M Q := by
  have h1 := hp.2
  have h2 := hf.2
  have h3 := ht.2
  refine px_ok_go (inl := []) (ls0 := [(1, enc p), (9, 0), (1, enc f), (9, 0), (1, enc t), (9, 0), (9, 0), (9, 0), (9, 0), (9, 0)]) 40 (by decide) (Nat.le_of_ble_eq_true rfl) rfl ?_
  simp only [px_go, px_Q0_at, px_sx_0, px_sx_s, px_cl, px_step, ↓px_ll, px_lg, f4_, ↓px_r1, ↓px_r2, ↓px_r4, ↓px_r5, ↓px_p1, ↓px_p2, ↓px_p3, ↓px_pop, px_k_0, px_k_s, px_k3_0, px_stk_, px_cats, px_ent, px_st1, px_st2, px_mask, ↓px_tsw, ↓px_lsw, ct_, mls_0, mls_1, mls_2, mls_3, mls_4, mls_5, kd_0, kd_1, kd_2, kd_3, ln_0, ln_1, ln_2, ln_3, gf_0, gf_1, gf_2, gf_3, gf_4, gf_7, gf_21, gf_63, dy_0, dy_1, dy_2, dy_3, dy_7, dy_21, px_brT, px_brF, true_and, and_true, and_false, false_and, and_self, true_implies, false_implies, or_true, true_or, or_false, false_or, eq_self, ne_eq, not_false_eq_true, not_true_eq_false, if_true, if_false, List.mem_cons, List.not_mem_nil, List.length_cons, List.length_nil, Nat.reduceEqDiff, Nat.reduceAdd, Nat.reduceSub, Nat.reduceLeDiff, Nat.reduceLT, Int.reduceEq, Int.reduceLT, Int.reduceLE, Int.reduceNeg, Int.reduceAdd, Int.reduceSub, Int.reduceToNat, ↓reduceIte, one_ne_zero_, zero_ne_one_, px_in32L, cd_69]
  refine sp_lengthOf hf.2 hf.1 ?_
  simp only [px_go, px_Q0_at, px_sx_0, px_sx_s, px_cl, px_step, ↓px_ll, px_lg, f4_, ↓px_r1, ↓px_r2, ↓px_r4, ↓px_r5, ↓px_p1, ↓px_p2, ↓px_p3, ↓px_pop, px_k_0, px_k_s, px_k3_0, px_stk_, px_cats, px_ent, px_st1, px_st2, px_mask, ↓px_tsw, ↓px_lsw, ct_, mls_0, mls_1, mls_2, mls_3, mls_4, mls_5, kd_0, kd_1, kd_2, kd_3, ln_0, ln_1, ln_2, ln_3, gf_0, gf_1, gf_2, gf_3, gf_4, gf_7, gf_21, gf_63, dy_0, dy_1, dy_2, dy_3, dy_7, dy_21, px_brT, px_brF, true_and, and_true, and_false, false_and, and_self, true_implies, false_implies, or_true, true_or, or_false, false_or, eq_self, ne_eq, not_false_eq_true, not_true_eq_false, if_true, if_false, List.mem_cons, List.not_mem_nil, List.length_cons, List.length_nil, Nat.reduceEqDiff, Nat.reduceAdd, Nat.reduceSub, Nat.reduceLeDiff, Nat.reduceLT, Int.reduceEq, Int.reduceLT, Int.reduceLE, Int.reduceNeg, Int.reduceAdd, Int.reduceSub, Int.reduceToNat, ↓reduceIte, one_ne_zero_, zero_ne_one_, px_in32L, cd_69]
  refine sp_lengthOf ht.2 ht.1 ?_
  simp only [px_go, px_Q0_at, px_sx_0, px_sx_s, px_cl, px_step, ↓px_ll, px_lg, f4_, ↓px_r1, ↓px_r2, ↓px_r4, ↓px_r5, ↓px_p1, ↓px_p2, ↓px_p3, ↓px_pop, px_k_0, px_k_s, px_k3_0, px_stk_, px_cats, px_ent, px_st1, px_st2, px_mask, ↓px_tsw, ↓px_lsw, ct_, mls_0, mls_1, mls_2, mls_3, mls_4, mls_5, kd_0, kd_1, kd_2, kd_3, ln_0, ln_1, ln_2, ln_3, gf_0, gf_1, gf_2, gf_3, gf_4, gf_7, gf_21, gf_63, dy_0, dy_1, dy_2, dy_3, dy_7, dy_21, px_brT, px_brF, true_and, and_true, and_false, false_and, and_self, true_implies, false_implies, or_true, true_or, or_false, false_or, eq_self, ne_eq, not_false_eq_true, not_true_eq_false, if_true, if_false, List.mem_cons, List.not_mem_nil, List.length_cons, List.length_nil, Nat.reduceEqDiff, Nat.reduceAdd, Nat.reduceSub, Nat.reduceLeDiff, Nat.reduceLT, Int.reduceEq, Int.reduceLT, Int.reduceLE, Int.reduceNeg, Int.reduceAdd, Int.reduceSub, Int.reduceToNat, ↓reduceIte, one_ne_zero_, zero_ne_one_, px_in32L, cd_69]
  refine sp_lengthOf hp.2 hp.1 ?_
  simp only [px_go, px_Q0_at, px_sx_0, px_sx_s, px_cl, px_step, ↓px_ll, px_lg, f4_, ↓px_r1, ↓px_r2, ↓px_r4, ↓px_r5, ↓px_p1, ↓px_p2, ↓px_p3, ↓px_pop, px_k_0, px_k_s, px_k3_0, px_stk_, px_cats, px_ent, px_st1, px_st2, px_mask, ↓px_tsw, ↓px_lsw, ct_, mls_0, mls_1, mls_2, mls_3, mls_4, mls_5, kd_0, kd_1, kd_2, kd_3, ln_0, ln_1, ln_2, ln_3, gf_0, gf_1, gf_2, gf_3, gf_4, gf_7, gf_21, gf_63, dy_0, dy_1, dy_2, dy_3, dy_7, dy_21, px_brT, px_brF, true_and, and_true, and_false, false_and, and_self, true_implies, false_implies, or_true, true_or, or_false, false_or, eq_self, ne_eq, not_false_eq_true, not_true_eq_false, if_true, if_false, List.mem_cons, List.not_mem_nil, List.length_cons, List.length_nil, Nat.reduceEqDiff, Nat.reduceAdd, Nat.reduceSub, Nat.reduceLeDiff, Nat.reduceLT, Int.reduceEq, Int.reduceLT, Int.reduceLE, Int.reduceNeg, Int.reduceAdd, Int.reduceSub, Int.reduceToNat, ↓reduceIte, one_ne_zero_, zero_ne_one_, px_in32L, cd_69]
  repeat' (first | (with_reducible apply And.intro) | (with_reducible refine px_br_intro (fun _ => ?_) (fun _ => ?_)))
  all_goals (try (first | (unfold px_in32; omega) | omega))
  · rename_i c1
    rw [if_neg (by omega)] at h
    rw [enc_shl hp.2 hf.2, enc_ren (by rw [List.length_drop]; omega)]
    exact h
  · rename_i c1
    rw [if_pos (by omega)] at h
    exact h
end PS
