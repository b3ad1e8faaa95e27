/-! EditionVault.Tape: paths like patterns -/
def fs (s : List Int) (v : Int) (W : Int → Prop) : Nat → Prop
  | 0 => v = 42 ∧ W 0
  | i + 1 => (v = 42 ∧ (W ((i : Int) + 1) ∨ (fs s v W i ∧ 1 < sgA s i))) ∨ (v = 63 ∧ W (i : Int) ∧ 1 < sgA s i) ∨ (v ≠ 42 ∧ v ≠ 63 ∧ W (i : Int) ∧ sgA s i ≠ 0 ∧ sgA s i = sg v)
theorem fs_s (s : List Int) (v : Int) (W : Int → Prop) {i : Int} (h : 0 ≤ i) : fs s v W (i + 1).toNat ↔ ((v = 42 ∧ (W (i + 1) ∨ (fs s v W i.toNat ∧ 1 < sgA s i))) ∨ (v = 63 ∧ W i ∧ 1 < sgA s i) ∨ (v ≠ 42 ∧ v ≠ 63 ∧ W i ∧ sgA s i ≠ 0 ∧ sgA s i = sg v)) := by
  rw [show (i + 1).toNat = i.toNat + 1 by omega]
  show ((v = 42 ∧ (W ((i.toNat : Int) + 1) ∨ (fs s v W i.toNat ∧ 1 < sgA s (i.toNat : Int)))) ∨ (v = 63 ∧ W (i.toNat : Int) ∧ 1 < sgA s (i.toNat : Int)) ∨ (v ≠ 42 ∧ v ≠ 63 ∧ W (i.toNat : Int) ∧ sgA s (i.toNat : Int) ≠ 0 ∧ sgA s (i.toNat : Int) = sg v)) ↔ _
  rw [Int.toNat_of_nonneg h]
/-- which beginnings of a path the first k signs of a pattern fit -/
def ftK (s : List Int) (p : Int → Int) : Nat → Int → Prop
  | 0 => fun i => i = 0
  | k + 1 => fun i => 0 ≤ i ∧ fs s (p k) (ftK s p k) i.toNat
theorem ftK_s (s : List Int) (p : Int → Int) {k : Int} (h : 0 ≤ k) (i : Int) : ftK s p (k + 1).toNat i ↔ (0 ≤ i ∧ fs s (p k) (ftK s p k.toNat) i.toNat) := by
  rw [show (k + 1).toNat = k.toNat + 1 by omega]
  show (0 ≤ i ∧ fs s (p (k.toNat : Int)) (ftK s p k.toNat) i.toNat) ↔ _
  rw [Int.toNat_of_nonneg h]
section PS
variable {M : px_mem} {Q : Option pv → px_mem → Prop}
set_option maxHeartbeats 600000 in
set_option maxRecDepth 100000 in
theorem lp_ways {s : List Int} {w v : Int} {W : Int → Prop} (hs : s.length ≤ 12) (hw : 0 ≤ w ∧ w < 2 ^ 13) (hW : ∀ i, 0 ≤ i → i ≤ 12 → (inS w i ↔ W i)) (h : ∀ r, (0 ≤ r ∧ r < 2 ^ 13) → (∀ i, 0 ≤ i → i ≤ 12 → (inS r i ↔ fs s v W i.toNat)) → Q (some (0, r)) M) (i : Int) (hk_i : i ≤ 12) : ∀ t, 0 ≤ i → (0 ≤ t ∧ t < 2 ^ 13) → (∀ j, 0 ≤ j → j ≤ i → (inS t j ↔ fs s v W j.toNat)) → (∀ j, i < j → j ≤ 12 → (inS t j ↔ (v = 42 ∧ W j))) → px_WP 107 0 0 (px_Q0 LAY Q) 16 [(0, w), (0, v), (1, enc s), (9, 0), (0, t), (0, i), (9, 0), (9, 0), (9, 0)] [] LAY M 0 0 := by
  refine up_ind (P := fun i => ∀ t, 0 ≤ i → (0 ≤ t ∧ t < 2 ^ 13) → (∀ j, 0 ≤ j → j ≤ i → (inS t j ↔ fs s v W j.toNat)) → (∀ j, i < j → j ≤ 12 → (inS t j ↔ (v = 42 ∧ W j))) → px_WP 107 0 0 (px_Q0 LAY Q) 16 [(0, w), (0, v), (1, enc s), (9, 0), (0, t), (0, i), (9, 0), (9, 0), (9, 0)] [] LAY M 0 0) (12) (fun i hk_i ih => ?_) i hk_i
  intro t i0 ht hlo hhi
  have e13 : (2 : Int) ^ 13 = 8192 := rfl
  have hbt := fun q => bit_u0 (a := t) (b := i) i0 q ⟨by omega, by omega⟩
  have hbw := fun q => bit_u0 (a := w) (b := i) i0 q ⟨by omega, by omega⟩
  have hWi := hW i i0
  have hfs := fs_s s v W i0
  have ht1 := hlo i i0 (Int.le_refl i)
  have ht2 := fun q => hhi (i + 1) (by omega) q
  have s42 : sg 42 = 0 := rfl
  have s63 : sg 63 = 0 := rfl
  refine px_go_ok (inl := []) 60 ?_
  simp only [px_go, px_Q0_at, px_sx_0, px_sx_s, px_cl, px_step, ↓px_ll, px_lg, f4_, ↓px_r1, ↓px_r2, ↓px_r4, ↓px_r5, ↓px_p1, ↓px_p2, ↓px_p3, ↓px_pop, px_k_0, px_k_s, px_k3_0, px_stk_, px_cats, px_ent, px_st1, px_st2, px_mask, ↓px_tsw, ↓px_lsw, ct_, mls_0, mls_1, mls_2, mls_3, mls_4, mls_5, kd_0, kd_1, kd_2, kd_3, ln_0, ln_1, ln_2, ln_3, gf_0, gf_1, gf_2, gf_3, gf_4, gf_7, gf_21, gf_63, dy_0, dy_1, dy_2, dy_3, dy_7, dy_21, px_brT, px_brF, true_and, and_true, and_false, false_and, and_self, true_implies, false_implies, or_true, true_or, or_false, false_or, eq_self, ne_eq, not_false_eq_true, not_true_eq_false, if_true, if_false, List.mem_cons, List.not_mem_nil, List.length_cons, List.length_nil, Nat.reduceEqDiff, Nat.reduceAdd, Nat.reduceSub, Nat.reduceLeDiff, Nat.reduceLT, Int.reduceEq, Int.reduceLT, Int.reduceLE, Int.reduceNeg, Int.reduceAdd, Int.reduceSub, Int.reduceToNat, ↓reduceIte, one_ne_zero_, zero_ne_one_, px_in32L, cd_107]
  repeat' (first | (with_reducible apply And.intro) | (with_reducible refine px_br_intro (fun _ => ?_) (fun _ => ?_)))
  all_goals (try (first | (unfold px_in32; omega) | omega))
  · rename_i c1
    exact h t ht (fun j j0 j1 => hlo j j0 (by omega))
  · rename_i c1
    have hbt := hbt (by omega)
    have hbw := hbw (by omega)
    have hWi := hWi (by omega)
    have ht2 := ht2 (by omega)
    have hT : (inS t (i + 1) ↔ fs s v W (i + 1).toNat) → px_WP 107 0 0 (px_Q0 LAY Q) 16 [(0, w), (0, v), (1, enc s), (9, 0), (0, t), (0, i + 1), (9, 0), (9, 0), (9, 0)] [] LAY M 0 0 := fun q => by
      refine ih (by omega) t (by omega) ht (fun j j0 j1 => ?_) (fun j j0 j1 => hhi j (by omega) j1)
      by_cases e : j = i + 1
      · rw [e]; exact q
      · exact hlo j j0 (by omega)
    have hI : fs s v W (i + 1).toNat → px_WP 107 0 0 (px_Q0 LAY Q) 16 [(0, w), (0, v), (1, enc s), (9, 0), (0, px_ior t (px_ishl 2 i)), (0, i + 1), (9, 0), (9, 0), (9, 0)] [] LAY M 0 0 := fun q => by
      have hsl := ishl2_lt (k := i) (n := 13) i0 (by omega) (by decide)
      have hin : ∀ j, 0 ≤ j → (inS (px_ior t (px_ishl 2 i)) j ↔ inS t j ∨ j = i + 1) := fun j j0 => by
        rw [ior_in ⟨by omega, by omega⟩ ⟨by omega, by omega⟩, ishl2_in i0 (by omega) j0]
      refine ih (by omega) _ (by omega) (ior_lt (by decide) ht hsl) (fun j j0 j1 => ?_) (fun j j0 j1 => ?_)
      · rw [hin j j0]
        by_cases e : j = i + 1
        · rw [e]; exact ⟨fun _ => q, fun _ => Or.inr rfl⟩
        · rw [← hlo j j0 (by omega)]
          exact ⟨fun z => z.elim id (fun z => absurd z e), Or.inl⟩
      · rw [hin j (by omega), ← hhi j (by omega) j1]
        exact ⟨fun z => z.elim id (fun z => by omega), Or.inl⟩
    clear ih h hlo hhi hW
    rcases (by omega : v = 42 ∨ v = 63 ∨ (v ≠ 42 ∧ v ≠ 63)) with e | e | ⟨e1, e2⟩
    · subst e
      refine sp_signAt hs ?_
      generalize sgA s i = z at *
      simp only [px_go, px_Q0_at, px_sx_0, px_sx_s, px_cl, px_step, ↓px_ll, px_lg, f4_, ↓px_r1, ↓px_r2, ↓px_r4, ↓px_r5, ↓px_p1, ↓px_p2, ↓px_p3, ↓px_pop, px_k_0, px_k_s, px_k3_0, px_stk_, px_cats, px_ent, px_st1, px_st2, px_mask, ↓px_tsw, ↓px_lsw, ct_, mls_0, mls_1, mls_2, mls_3, mls_4, mls_5, kd_0, kd_1, kd_2, kd_3, ln_0, ln_1, ln_2, ln_3, gf_0, gf_1, gf_2, gf_3, gf_4, gf_7, gf_21, gf_63, dy_0, dy_1, dy_2, dy_3, dy_7, dy_21, px_brT, px_brF, true_and, and_true, and_false, false_and, and_self, true_implies, false_implies, or_true, true_or, or_false, false_or, eq_self, ne_eq, not_false_eq_true, not_true_eq_false, if_true, if_false, List.mem_cons, List.not_mem_nil, List.length_cons, List.length_nil, Nat.reduceEqDiff, Nat.reduceAdd, Nat.reduceSub, Nat.reduceLeDiff, Nat.reduceLT, Int.reduceEq, Int.reduceLT, Int.reduceLE, Int.reduceNeg, Int.reduceAdd, Int.reduceSub, Int.reduceToNat, ↓reduceIte, one_ne_zero_, zero_ne_one_, px_in32L, cd_107]
      repeat' (first | (with_reducible apply And.intro) | (with_reducible refine px_br_intro (fun _ => ?_) (fun _ => ?_)))
      all_goals (try (first | (unfold px_in32; omega) | omega))
      all_goals (try (refine sp_signOf ?_))
      all_goals (try simp only [px_go, px_Q0_at, px_sx_0, px_sx_s, px_cl, px_step, ↓px_ll, px_lg, f4_, ↓px_r1, ↓px_r2, ↓px_r4, ↓px_r5, ↓px_p1, ↓px_p2, ↓px_p3, ↓px_pop, px_k_0, px_k_s, px_k3_0, px_stk_, px_cats, px_ent, px_st1, px_st2, px_mask, ↓px_tsw, ↓px_lsw, ct_, mls_0, mls_1, mls_2, mls_3, mls_4, mls_5, kd_0, kd_1, kd_2, kd_3, ln_0, ln_1, ln_2, ln_3, gf_0, gf_1, gf_2, gf_3, gf_4, gf_7, gf_21, gf_63, dy_0, dy_1, dy_2, dy_3, dy_7, dy_21, px_brT, px_brF, true_and, and_true, and_false, false_and, and_self, true_implies, false_implies, or_true, true_or, or_false, false_or, eq_self, ne_eq, not_false_eq_true, not_true_eq_false, if_true, if_false, List.mem_cons, List.not_mem_nil, List.length_cons, List.length_nil, Nat.reduceEqDiff, Nat.reduceAdd, Nat.reduceSub, Nat.reduceLeDiff, Nat.reduceLT, Int.reduceEq, Int.reduceLT, Int.reduceLE, Int.reduceNeg, Int.reduceAdd, Int.reduceSub, Int.reduceToNat, ↓reduceIte, one_ne_zero_, zero_ne_one_, px_in32L, cd_107])
      all_goals (try repeat' (first | (with_reducible apply And.intro) | (with_reducible refine px_br_intro (fun _ => ?_) (fun _ => ?_))))
      all_goals (try (first | (unfold px_in32; omega) | omega))
      all_goals (first | exact hT (by grind) | exact hI (by grind))
    · subst e
      refine sp_signAt hs ?_
      generalize sgA s i = z at *
      simp only [px_go, px_Q0_at, px_sx_0, px_sx_s, px_cl, px_step, ↓px_ll, px_lg, f4_, ↓px_r1, ↓px_r2, ↓px_r4, ↓px_r5, ↓px_p1, ↓px_p2, ↓px_p3, ↓px_pop, px_k_0, px_k_s, px_k3_0, px_stk_, px_cats, px_ent, px_st1, px_st2, px_mask, ↓px_tsw, ↓px_lsw, ct_, mls_0, mls_1, mls_2, mls_3, mls_4, mls_5, kd_0, kd_1, kd_2, kd_3, ln_0, ln_1, ln_2, ln_3, gf_0, gf_1, gf_2, gf_3, gf_4, gf_7, gf_21, gf_63, dy_0, dy_1, dy_2, dy_3, dy_7, dy_21, px_brT, px_brF, true_and, and_true, and_false, false_and, and_self, true_implies, false_implies, or_true, true_or, or_false, false_or, eq_self, ne_eq, not_false_eq_true, not_true_eq_false, if_true, if_false, List.mem_cons, List.not_mem_nil, List.length_cons, List.length_nil, Nat.reduceEqDiff, Nat.reduceAdd, Nat.reduceSub, Nat.reduceLeDiff, Nat.reduceLT, Int.reduceEq, Int.reduceLT, Int.reduceLE, Int.reduceNeg, Int.reduceAdd, Int.reduceSub, Int.reduceToNat, ↓reduceIte, one_ne_zero_, zero_ne_one_, px_in32L, cd_107]
      repeat' (first | (with_reducible apply And.intro) | (with_reducible refine px_br_intro (fun _ => ?_) (fun _ => ?_)))
      all_goals (try (first | (unfold px_in32; omega) | omega))
      all_goals (try (refine sp_signOf ?_))
      all_goals (try simp only [px_go, px_Q0_at, px_sx_0, px_sx_s, px_cl, px_step, ↓px_ll, px_lg, f4_, ↓px_r1, ↓px_r2, ↓px_r4, ↓px_r5, ↓px_p1, ↓px_p2, ↓px_p3, ↓px_pop, px_k_0, px_k_s, px_k3_0, px_stk_, px_cats, px_ent, px_st1, px_st2, px_mask, ↓px_tsw, ↓px_lsw, ct_, mls_0, mls_1, mls_2, mls_3, mls_4, mls_5, kd_0, kd_1, kd_2, kd_3, ln_0, ln_1, ln_2, ln_3, gf_0, gf_1, gf_2, gf_3, gf_4, gf_7, gf_21, gf_63, dy_0, dy_1, dy_2, dy_3, dy_7, dy_21, px_brT, px_brF, true_and, and_true, and_false, false_and, and_self, true_implies, false_implies, or_true, true_or, or_false, false_or, eq_self, ne_eq, not_false_eq_true, not_true_eq_false, if_true, if_false, List.mem_cons, List.not_mem_nil, List.length_cons, List.length_nil, Nat.reduceEqDiff, Nat.reduceAdd, Nat.reduceSub, Nat.reduceLeDiff, Nat.reduceLT, Int.reduceEq, Int.reduceLT, Int.reduceLE, Int.reduceNeg, Int.reduceAdd, Int.reduceSub, Int.reduceToNat, ↓reduceIte, one_ne_zero_, zero_ne_one_, px_in32L, cd_107])
      all_goals (try repeat' (first | (with_reducible apply And.intro) | (with_reducible refine px_br_intro (fun _ => ?_) (fun _ => ?_))))
      all_goals (try (first | (unfold px_in32; omega) | omega))
      all_goals (first | exact hT (by grind) | exact hI (by grind))
    · refine sp_signAt hs ?_
      generalize sgA s i = z at *
      simp only [px_go, px_Q0_at, px_sx_0, px_sx_s, px_cl, px_step, ↓px_ll, px_lg, f4_, ↓px_r1, ↓px_r2, ↓px_r4, ↓px_r5, ↓px_p1, ↓px_p2, ↓px_p3, ↓px_pop, px_k_0, px_k_s, px_k3_0, px_stk_, px_cats, px_ent, px_st1, px_st2, px_mask, ↓px_tsw, ↓px_lsw, ct_, mls_0, mls_1, mls_2, mls_3, mls_4, mls_5, kd_0, kd_1, kd_2, kd_3, ln_0, ln_1, ln_2, ln_3, gf_0, gf_1, gf_2, gf_3, gf_4, gf_7, gf_21, gf_63, dy_0, dy_1, dy_2, dy_3, dy_7, dy_21, px_brT, px_brF, true_and, and_true, and_false, false_and, and_self, true_implies, false_implies, or_true, true_or, or_false, false_or, eq_self, ne_eq, not_false_eq_true, not_true_eq_false, if_true, if_false, List.mem_cons, List.not_mem_nil, List.length_cons, List.length_nil, Nat.reduceEqDiff, Nat.reduceAdd, Nat.reduceSub, Nat.reduceLeDiff, Nat.reduceLT, Int.reduceEq, Int.reduceLT, Int.reduceLE, Int.reduceNeg, Int.reduceAdd, Int.reduceSub, Int.reduceToNat, ↓reduceIte, one_ne_zero_, zero_ne_one_, px_in32L, cd_107]
      repeat' (first | (with_reducible apply And.intro) | (with_reducible refine px_br_intro (fun _ => ?_) (fun _ => ?_)))
      all_goals (try (first | (unfold px_in32; omega) | omega))
      all_goals (try (refine sp_signOf ?_))
      all_goals (try simp only [px_go, px_Q0_at, px_sx_0, px_sx_s, px_cl, px_step, ↓px_ll, px_lg, f4_, ↓px_r1, ↓px_r2, ↓px_r4, ↓px_r5, ↓px_p1, ↓px_p2, ↓px_p3, ↓px_pop, px_k_0, px_k_s, px_k3_0, px_stk_, px_cats, px_ent, px_st1, px_st2, px_mask, ↓px_tsw, ↓px_lsw, ct_, mls_0, mls_1, mls_2, mls_3, mls_4, mls_5, kd_0, kd_1, kd_2, kd_3, ln_0, ln_1, ln_2, ln_3, gf_0, gf_1, gf_2, gf_3, gf_4, gf_7, gf_21, gf_63, dy_0, dy_1, dy_2, dy_3, dy_7, dy_21, px_brT, px_brF, true_and, and_true, and_false, false_and, and_self, true_implies, false_implies, or_true, true_or, or_false, false_or, eq_self, ne_eq, not_false_eq_true, not_true_eq_false, if_true, if_false, List.mem_cons, List.not_mem_nil, List.length_cons, List.length_nil, Nat.reduceEqDiff, Nat.reduceAdd, Nat.reduceSub, Nat.reduceLeDiff, Nat.reduceLT, Int.reduceEq, Int.reduceLT, Int.reduceLE, Int.reduceNeg, Int.reduceAdd, Int.reduceSub, Int.reduceToNat, ↓reduceIte, one_ne_zero_, zero_ne_one_, px_in32L, cd_107])
      all_goals (try repeat' (first | (with_reducible apply And.intro) | (with_reducible refine px_br_intro (fun _ => ?_) (fun _ => ?_))))
      all_goals (try (first | (unfold px_in32; omega) | omega))
      all_goals (first | exact hT (by grind) | exact hI (by grind))
set_option maxHeartbeats 600000 in
set_option maxRecDepth 100000 in
theorem sp_ways {s : List Int} {w v : Int} {W : Int → Prop} (hs : s.length ≤ 12) (hw : 0 ≤ w ∧ w < 2 ^ 13) (hW : ∀ i, 0 ≤ i → i ≤ 12 → (inS w i ↔ W i)) (h : ∀ r, (0 ≤ r ∧ r < 2 ^ 13) → (∀ i, 0 ≤ i → i ≤ 12 → (inS r i ↔ fs s v W i.toNat)) → Q (some (0, r)) M) : px_Ok 107 [(0, w), (0, v), (1, enc s)] LAY M Q := by
  refine px_ok_go (inl := []) (ls0 := [(0, w), (0, v), (1, enc s), (9, 0), (9, 0), (9, 0), (9, 0), (9, 0), (9, 0)]) 60 (by decide) (Nat.le_of_ble_eq_true rfl) rfl ?_
  simp only [px_go, px_Q0_at, px_sx_0, px_sx_s, px_cl, px_step, ↓px_ll, px_lg, f4_, ↓px_r1, ↓px_r2, ↓px_r4, ↓px_r5, ↓px_p1, ↓px_p2, ↓px_p3, ↓px_pop, px_k_0, px_k_s, px_k3_0, px_stk_, px_cats, px_ent, px_st1, px_st2, px_mask, ↓px_tsw, ↓px_lsw, ct_, mls_0, mls_1, mls_2, mls_3, mls_4, mls_5, kd_0, kd_1, kd_2, kd_3, ln_0, ln_1, ln_2, ln_3, gf_0, gf_1, gf_2, gf_3, gf_4, gf_7, gf_21, gf_63, dy_0, dy_1, dy_2, dy_3, dy_7, dy_21, px_brT, px_brF, true_and, and_true, and_false, false_and, and_self, true_implies, false_implies, or_true, true_or, or_false, false_or, eq_self, ne_eq, not_false_eq_true, not_true_eq_false, if_true, if_false, List.mem_cons, List.not_mem_nil, List.length_cons, List.length_nil, Nat.reduceEqDiff, Nat.reduceAdd, Nat.reduceSub, Nat.reduceLeDiff, Nat.reduceLT, Int.reduceEq, Int.reduceLT, Int.reduceLE, Int.reduceNeg, Int.reduceAdd, Int.reduceSub, Int.reduceToNat, ↓reduceIte, one_ne_zero_, zero_ne_one_, px_in32L, cd_107]
  repeat' (first | (with_reducible apply And.intro) | (with_reducible refine px_br_intro (fun _ => ?_) (fun _ => ?_)))
  all_goals (try (first | (unfold px_in32; omega) | omega))
  · rename_i c1
    refine lp_ways hs hw hW h 0 (by decide) w (Int.le_refl 0) hw (fun j j0 j1 => ?_) (fun j j0 j1 => ?_)
    · rw [show j = 0 by omega, hW 0 (by decide) (by decide)]
      exact ⟨fun q => ⟨c1, q⟩, fun q => q.2⟩
    · rw [hW j (by omega) j1]
      exact ⟨fun q => ⟨c1, q⟩, fun q => q.2⟩
  · rename_i c1
    refine lp_ways hs hw hW h 0 (by decide) 0 (Int.le_refl 0) ⟨by decide, by decide⟩ (fun j j0 j1 => ?_) (fun j j0 j1 => ?_)
    · rw [show j = 0 by omega]
      exact ⟨fun q => absurd q (zero_in 0), fun q => absurd q.1 c1⟩
    · exact ⟨fun q => absurd q (zero_in j), fun q => absurd q.1 c1⟩
set_option maxHeartbeats 600000 in
set_option maxRecDepth 100000 in
theorem lp_fits {s : List Int} {n : Int} (hs : okp s) (hn : n ≤ 12) (hn2 : n ≤ M 2 1 ∧ M 2 1 ≤ 160) (h1 : ftK s (M 3) n.toNat (s.length : Int) → Q (some (0, 1)) M) (h0 : ¬ ftK s (M 3) n.toNat (s.length : Int) → Q (some (0, 0)) M) (k : Int) (hk_k : k ≤ n) : ∀ w, 0 ≤ k → (0 ≤ w ∧ w < 2 ^ 13) → (∀ i, 0 ≤ i → i ≤ 12 → (inS w i ↔ ftK s (M 3) k.toNat i)) → px_WP 106 0 0 (px_Q0 LAY Q) 6 [(2, 2), (1, enc s), (9, 0), (0, n), (0, w), (0, k)] [] LAY M 0 0 := by
  refine up_ind (P := fun k => ∀ w, 0 ≤ k → (0 ≤ w ∧ w < 2 ^ 13) → (∀ i, 0 ≤ i → i ≤ 12 → (inS w i ↔ ftK s (M 3) k.toNat i)) → px_WP 106 0 0 (px_Q0 LAY Q) 6 [(2, 2), (1, enc s), (9, 0), (0, n), (0, w), (0, k)] [] LAY M 0 0) (n) (fun k hk_k ih => ?_) k hk_k
  intro w k0 hw hW
  have hsl := hs.2
  have e13 : (2 : Int) ^ 13 = 8192 := rfl
  have hbw := bit_u0 (a := w) (b := (s.length : Int)) (by omega) (by omega) ⟨by omega, by omega⟩
  have hWl := hW (s.length : Int) (by omega) (by omega)
  refine px_go_ok (inl := []) 60 ?_
  simp only [px_go, px_Q0_at, px_sx_0, px_sx_s, px_cl, px_step, ↓px_ll, px_lg, f4_, ↓px_r1, ↓px_r2, ↓px_r4, ↓px_r5, ↓px_p1, ↓px_p2, ↓px_p3, ↓px_pop, px_k_0, px_k_s, px_k3_0, px_stk_, px_cats, px_ent, px_st1, px_st2, px_mask, ↓px_tsw, ↓px_lsw, ct_, mls_0, mls_1, mls_2, mls_3, mls_4, mls_5, kd_0, kd_1, kd_2, kd_3, ln_0, ln_1, ln_2, ln_3, gf_0, gf_1, gf_2, gf_3, gf_4, gf_7, gf_21, gf_63, dy_0, dy_1, dy_2, dy_3, dy_7, dy_21, px_brT, px_brF, true_and, and_true, and_false, false_and, and_self, true_implies, false_implies, or_true, true_or, or_false, false_or, eq_self, ne_eq, not_false_eq_true, not_true_eq_false, if_true, if_false, List.mem_cons, List.not_mem_nil, List.length_cons, List.length_nil, Nat.reduceEqDiff, Nat.reduceAdd, Nat.reduceSub, Nat.reduceLeDiff, Nat.reduceLT, Int.reduceEq, Int.reduceLT, Int.reduceLE, Int.reduceNeg, Int.reduceAdd, Int.reduceSub, Int.reduceToNat, ↓reduceIte, one_ne_zero_, zero_ne_one_, px_in32L, cd_106]
  repeat' (first | (with_reducible apply And.intro) | (with_reducible refine px_br_intro (fun _ => ?_) (fun _ => ?_)))
  all_goals (try (first | (unfold px_in32; omega) | omega))
  · rename_i c1
    have e : k = n := by omega
    subst e
    refine sp_lengthOf hs.2 hs.1 ?_
    simp only [px_go, px_Q0_at, px_sx_0, px_sx_s, px_cl, px_step, ↓px_ll, px_lg, f4_, ↓px_r1, ↓px_r2, ↓px_r4, ↓px_r5, ↓px_p1, ↓px_p2, ↓px_p3, ↓px_pop, px_k_0, px_k_s, px_k3_0, px_stk_, px_cats, px_ent, px_st1, px_st2, px_mask, ↓px_tsw, ↓px_lsw, ct_, mls_0, mls_1, mls_2, mls_3, mls_4, mls_5, kd_0, kd_1, kd_2, kd_3, ln_0, ln_1, ln_2, ln_3, gf_0, gf_1, gf_2, gf_3, gf_4, gf_7, gf_21, gf_63, dy_0, dy_1, dy_2, dy_3, dy_7, dy_21, px_brT, px_brF, true_and, and_true, and_false, false_and, and_self, true_implies, false_implies, or_true, true_or, or_false, false_or, eq_self, ne_eq, not_false_eq_true, not_true_eq_false, if_true, if_false, List.mem_cons, List.not_mem_nil, List.length_cons, List.length_nil, Nat.reduceEqDiff, Nat.reduceAdd, Nat.reduceSub, Nat.reduceLeDiff, Nat.reduceLT, Int.reduceEq, Int.reduceLT, Int.reduceLE, Int.reduceNeg, Int.reduceAdd, Int.reduceSub, Int.reduceToNat, ↓reduceIte, one_ne_zero_, zero_ne_one_, px_in32L, cd_106]
    repeat' (first | (with_reducible apply And.intro) | (with_reducible refine px_br_intro (fun _ => ?_) (fun _ => ?_)))
    · rename_i c2; exact h0 (fun q => hbw.mp c2 (hWl.mpr q))
    · rename_i c2
      refine h1 (hWl.mp ?_)
      by_cases q : inS w (s.length : Int)
      · exact q
      · exact absurd (hbw.mpr q) c2
  · rename_i c1
    refine sp_ways hs.2 hw hW (fun r hr hR => ?_)
    simp only [px_go, px_Q0_at, px_sx_0, px_sx_s, px_cl, px_step, ↓px_ll, px_lg, f4_, ↓px_r1, ↓px_r2, ↓px_r4, ↓px_r5, ↓px_p1, ↓px_p2, ↓px_p3, ↓px_pop, px_k_0, px_k_s, px_k3_0, px_stk_, px_cats, px_ent, px_st1, px_st2, px_mask, ↓px_tsw, ↓px_lsw, ct_, mls_0, mls_1, mls_2, mls_3, mls_4, mls_5, kd_0, kd_1, kd_2, kd_3, ln_0, ln_1, ln_2, ln_3, gf_0, gf_1, gf_2, gf_3, gf_4, gf_7, gf_21, gf_63, dy_0, dy_1, dy_2, dy_3, dy_7, dy_21, px_brT, px_brF, true_and, and_true, and_false, false_and, and_self, true_implies, false_implies, or_true, true_or, or_false, false_or, eq_self, ne_eq, not_false_eq_true, not_true_eq_false, if_true, if_false, List.mem_cons, List.not_mem_nil, List.length_cons, List.length_nil, Nat.reduceEqDiff, Nat.reduceAdd, Nat.reduceSub, Nat.reduceLeDiff, Nat.reduceLT, Int.reduceEq, Int.reduceLT, Int.reduceLE, Int.reduceNeg, Int.reduceAdd, Int.reduceSub, Int.reduceToNat, ↓reduceIte, one_ne_zero_, zero_ne_one_, px_in32L, cd_106]
    repeat' (first | (with_reducible apply And.intro) | (with_reducible refine px_br_intro (fun _ => ?_) (fun _ => ?_)))
    all_goals (try (first | (unfold px_in32; omega) | omega))
    refine ih (by omega) r (by omega) hr (fun i i0 i1 => ?_)
    rw [hR i i0 i1, ftK_s s (M 3) k0]
    exact ⟨fun q => ⟨i0, q⟩, fun q => q.2⟩
set_option maxHeartbeats 600000 in
set_option maxRecDepth 100000 in
theorem sp_fits {s : List Int} {n : Int} (hs : okp s) (hn0 : 0 ≤ n) (hn : n ≤ 12) (hn2 : n ≤ M 2 1 ∧ M 2 1 ≤ 160) (h1 : ftK s (M 3) n.toNat (s.length : Int) → Q (some (0, 1)) M) (h0 : ¬ ftK s (M 3) n.toNat (s.length : Int) → Q (some (0, 0)) M) : px_Ok 106 [(2, 2), (1, enc s), (0, n)] LAY M Q := by
  refine px_ok_go (inl := []) (ls0 := [(2, 2), (1, enc s), (9, 0), (0, n), (9, 0), (9, 0)]) 60 (by decide) (Nat.le_of_ble_eq_true rfl) rfl ?_
  simp only [px_go, px_Q0_at, px_sx_0, px_sx_s, px_cl, px_step, ↓px_ll, px_lg, f4_, ↓px_r1, ↓px_r2, ↓px_r4, ↓px_r5, ↓px_p1, ↓px_p2, ↓px_p3, ↓px_pop, px_k_0, px_k_s, px_k3_0, px_stk_, px_cats, px_ent, px_st1, px_st2, px_mask, ↓px_tsw, ↓px_lsw, ct_, mls_0, mls_1, mls_2, mls_3, mls_4, mls_5, kd_0, kd_1, kd_2, kd_3, ln_0, ln_1, ln_2, ln_3, gf_0, gf_1, gf_2, gf_3, gf_4, gf_7, gf_21, gf_63, dy_0, dy_1, dy_2, dy_3, dy_7, dy_21, px_brT, px_brF, true_and, and_true, and_false, false_and, and_self, true_implies, false_implies, or_true, true_or, or_false, false_or, eq_self, ne_eq, not_false_eq_true, not_true_eq_false, if_true, if_false, List.mem_cons, List.not_mem_nil, List.length_cons, List.length_nil, Nat.reduceEqDiff, Nat.reduceAdd, Nat.reduceSub, Nat.reduceLeDiff, Nat.reduceLT, Int.reduceEq, Int.reduceLT, Int.reduceLE, Int.reduceNeg, Int.reduceAdd, Int.reduceSub, Int.reduceToNat, ↓reduceIte, one_ne_zero_, zero_ne_one_, px_in32L, cd_106]
  repeat' (first | (with_reducible apply And.intro) | (with_reducible refine px_br_intro (fun _ => ?_) (fun _ => ?_)))
  all_goals (try (first | (unfold px_in32; omega) | omega))
  exact lp_fits hs hn hn2 h1 h0 0 hn0 1 (Int.le_refl 0) ⟨by decide, by decide⟩ (fun i i0 i1 => one_in i0)
end PS
