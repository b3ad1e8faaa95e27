set_option maxRecDepth 100000 in
/-- X12_isLike -/
theorem cd_274 : px_at 274 0 = some (1, [], .aload_n 0, []) ∧ px_at 274 1 = some (4, [], .getfield 7, [11, 0, 2, 1, 125]) ∧ px_at 274 4 = some (5, [], .iload_n 1, []) ∧ px_at 274 5 = some (6, [], .iaload, []) ∧ px_at 274 6 = some (7, [], .istore_n 2, []) ∧ px_at 274 7 = some (8, [], .iconst 0, []) ∧ px_at 274 8 = some (9, [], .istore_n 3, []) ∧ px_at 274 9 = some (10, [1, 1, 1, 1, 0, 0], .iload_n 3, []) ∧ px_at 274 10 = some (11, [], .iload_n 2, []) ∧ px_at 274 11 = some (14, [], .if_icmp .gt 24, [35]) ∧ px_at 274 14 = some (15, [], .aload_n 0, []) ∧ px_at 274 15 = some (18, [], .getfield 78, [11, 33, 2, 1, 158]) ∧ px_at 274 18 = some (19, [], .iload_n 3, []) ∧ px_at 274 19 = some (20, [], .iload_n 3, []) ∧ px_at 274 20 = some (23, [], .ifCond .ne 7, [27]) ∧ px_at 274 23 = some (24, [], .iconst 1, []) ∧ px_at 274 24 = some (27, [], .goto 4, [28]) ∧ px_at 274 27 = some (28, [], .iconst 0, []) ∧ px_at 274 28 = some (29, [], .bastore, []) ∧ px_at 274 29 = some (32, [], .iinc 3 1, []) ∧ px_at 274 32 = some (35, [], .goto (-23), [9]) ∧ px_at 274 35 = some (36, [], .iconst 1, []) ∧ px_at 274 36 = some (37, [], .istore_n 3, []) ∧ px_at 274 37 = some (38, [1, 1, 1, 1, 0, 0], .iload_n 3, []) ∧ px_at 274 38 = some (39, [], .aload_n 0, []) ∧ px_at 274 39 = some (42, [], .getfield 20, [11, 4, 2, 1, 129]) ∧ px_at 274 42 = some (43, [], .iconst 0, []) ∧ px_at 274 43 = some (44, [], .iaload, []) ∧ px_at 274 44 = some (47, [], .if_icmp .gt 175, [219]) ∧ px_at 274 47 = some (48, [], .aload_n 0, []) ∧ px_at 274 48 = some (51, [], .getfield 20, [11, 4, 2, 1, 129]) ∧ px_at 274 51 = some (52, [], .iload_n 3, []) ∧ px_at 274 52 = some (53, [], .iaload, []) ∧ px_at 274 53 = some (55, [], .istore 4, []) ∧ px_at 274 55 = some (57, [], .iload 4, []) ∧ px_at 274 57 = some (59, [], .bipush 42, []) ∧ px_at 274 59 = some (62, [], .if_icmp .ne 70, [129]) ∧ px_at 274 62 = some (63, [], .iconst 1, []) ∧ px_at 274 63 = some (65, [], .istore 5, []) ∧ px_at 274 65 = some (67, [1, 1, 1, 1, 0, 1], .iload 5, []) ∧ px_at 274 67 = some (68, [], .iload_n 2, []) ∧ px_at 274 68 = some (71, [], .if_icmp .gt 58, [126]) ∧ px_at 274 71 = some (72, [], .aload_n 0, []) ∧ px_at 274 72 = some (75, [], .getfield 78, [11, 33, 2, 1, 158]) ∧ px_at 274 75 = some (77, [], .iload 5, []) ∧ px_at 274 77 = some (78, [], .aload_n 0, []) ∧ px_at 274 78 = some (81, [], .getfield 78, [11, 33, 2, 1, 158]) ∧ px_at 274 81 = some (83, [], .iload 5, []) ∧ px_at 274 83 = some (84, [], .baload, []) ∧ px_at 274 84 = some (87, [], .ifCond .ne 30, [114]) ∧ px_at 274 87 = some (88, [], .aload_n 0, []) ∧ px_at 274 88 = some (91, [], .getfield 78, [11, 33, 2, 1, 158]) ∧ px_at 274 91 = some (93, [], .iload 5, []) ∧ px_at 274 93 = some (94, [], .iconst 1, []) ∧ px_at 274 94 = some (95, [], .isub, []) ∧ px_at 274 95 = some (96, [], .baload, []) ∧ px_at 274 96 = some (99, [], .ifCond .eq 22, [118]) ∧ px_at 274 99 = some (100, [], .aload_n 0, []) ∧ px_at 274 100 = some (103, [], .getfield 7, [11, 0, 2, 1, 125]) ∧ px_at 274 103 = some (104, [], .iload_n 1, []) ∧ px_at 274 104 = some (106, [], .iload 5, []) ∧ px_at 274 106 = some (107, [], .iadd, []) ∧ px_at 274 107 = some (108, [], .iaload, []) ∧ px_at 274 108 = some (111, [], .invokestatic 96, [180, 1, 11, 227]) ∧ px_at 274 111 = some (114, [], .ifCond .eq 7, [118]) ∧ px_at 274 114 = some (115, [], .iconst 1, []) ∧ px_at 274 115 = some (118, [], .goto 4, [119]) ∧ px_at 274 118 = some (119, [], .iconst 0, []) ∧ px_at 274 119 = some (120, [], .bastore, []) ∧ px_at 274 120 = some (123, [], .iinc 5 1, []) ∧ px_at 274 123 = some (126, [], .goto (-58), [65]) ∧ px_at 274 126 = some (129, [], .goto 87, [213]) ∧ px_at 274 129 = some (130, [], .iload_n 2, []) ∧ px_at 274 130 = some (132, [], .istore 5, []) ∧ px_at 274 132 = some (134, [1, 1, 1, 1, 1, 1], .iload 5, []) ∧ px_at 274 134 = some (137, [], .ifCond .le 72, [206]) ∧ px_at 274 137 = some (138, [], .aload_n 0, []) ∧ px_at 274 138 = some (141, [], .getfield 78, [11, 33, 2, 1, 158]) ∧ px_at 274 141 = some (143, [], .iload 5, []) ∧ px_at 274 143 = some (144, [], .aload_n 0, []) ∧ px_at 274 144 = some (147, [], .getfield 78, [11, 33, 2, 1, 158]) ∧ px_at 274 147 = some (149, [], .iload 5, []) ∧ px_at 274 149 = some (150, [], .iconst 1, []) ∧ px_at 274 150 = some (151, [], .isub, []) ∧ px_at 274 151 = some (152, [], .baload, []) ∧ px_at 274 152 = some (155, [], .ifCond .eq 46, [198]) ∧ px_at 274 155 = some (157, [], .iload 4, []) ∧ px_at 274 157 = some (159, [], .bipush 63, []) ∧ px_at 274 159 = some (162, [], .if_icmp .ne 21, [180]) ∧ px_at 274 162 = some (163, [], .aload_n 0, []) ∧ px_at 274 163 = some (166, [], .getfield 7, [11, 0, 2, 1, 125]) ∧ px_at 274 166 = some (167, [], .iload_n 1, []) ∧ px_at 274 167 = some (169, [], .iload 5, []) ∧ px_at 274 169 = some (170, [], .iadd, []) ∧ px_at 274 170 = some (171, [], .iaload, []) ∧ px_at 274 171 = some (174, [], .invokestatic 96, [180, 1, 11, 227]) ∧ px_at 274 174 = some (177, [], .ifCond .eq 24, [198]) ∧ px_at 274 177 = some (180, [], .goto 17, [194]) ∧ px_at 274 180 = some (182, [], .iload 4, []) ∧ px_at 274 182 = some (183, [], .aload_n 0, []) ∧ px_at 274 183 = some (186, [], .getfield 7, [11, 0, 2, 1, 125]) ∧ px_at 274 186 = some (187, [], .iload_n 1, []) ∧ px_at 274 187 = some (189, [], .iload 5, []) ∧ px_at 274 189 = some (190, [], .iadd, []) ∧ px_at 274 190 = some (191, [], .iaload, []) ∧ px_at 274 191 = some (194, [], .if_icmp .ne 7, [198]) ∧ px_at 274 194 = some (195, [], .iconst 1, []) ∧ px_at 274 195 = some (198, [], .goto 4, [199]) ∧ px_at 274 198 = some (199, [], .iconst 0, []) ∧ px_at 274 199 = some (200, [], .bastore, []) ∧ px_at 274 200 = some (203, [], .iinc 5 (-1), []) ∧ px_at 274 203 = some (206, [], .goto (-71), [132]) ∧ px_at 274 206 = some (207, [], .aload_n 0, []) ∧ px_at 274 207 = some (210, [], .getfield 78, [11, 33, 2, 1, 158]) ∧ px_at 274 210 = some (211, [], .iconst 0, []) ∧ px_at 274 211 = some (212, [], .iconst 0, []) ∧ px_at 274 212 = some (213, [], .bastore, []) ∧ px_at 274 213 = some (216, [], .iinc 3 1, []) ∧ px_at 274 216 = some (219, [], .goto (-179), [37]) ∧ px_at 274 219 = some (220, [], .aload_n 0, []) ∧ px_at 274 220 = some (223, [], .getfield 78, [11, 33, 2, 1, 158]) ∧ px_at 274 223 = some (224, [], .iload_n 2, []) ∧ px_at 274 224 = some (225, [], .baload, []) ∧ px_at 274 225 = some (226, [], .ireturn, [4]) := ⟨rfl, rfl, rfl, rfl, rfl, rfl, rfl, rfl, rfl, rfl, rfl, rfl, rfl, rfl, rfl, rfl, rfl, rfl, rfl, rfl, rfl, rfl, rfl, rfl, rfl, rfl, rfl, rfl, rfl, rfl, rfl, rfl, rfl, rfl, rfl, rfl, rfl, rfl, rfl, rfl, rfl, rfl, rfl, rfl, rfl, rfl, rfl, rfl, rfl, rfl, rfl, rfl, rfl, rfl, rfl, rfl, rfl, rfl, rfl, rfl, rfl, rfl, rfl, rfl, rfl, rfl, rfl, rfl, rfl, rfl, rfl, rfl, rfl, rfl, rfl, rfl, rfl, rfl, rfl, rfl, rfl, rfl, rfl, rfl, rfl, rfl, rfl, rfl, rfl, rfl, rfl, rfl, rfl, rfl, rfl, rfl, rfl, rfl, rfl, rfl, rfl, rfl, rfl, rfl, rfl, rfl, rfl, rfl, rfl, rfl, rfl, rfl, rfl, rfl, rfl, rfl, rfl, rfl, rfl, rfl, rfl, rfl, rfl, rfl⟩
/-! the reference: like -/
def rwI (M : px_mem) (A : Int → Prop) (n : Int) : Prop := ∀ j, 0 ≤ j → j ≤ n → M 150 j = b1 (A j)
def frl (M' M : px_mem) : Prop := ∀ b, b ≠ 150 → M' b = M b
theorem frl_refl (M : px_mem) : frl M M := fun _ _ => rfl
theorem frl_up {A B : px_mem} {j x : Int} (h : frl A B) : frl (px_up A 150 j x) B := fun b b0 => by rw [upr9 b0]; exact h b b0
theorem frl_trans {A B C : px_mem} (h : frl A B) (g : frl B C) : frl A C := fun b b0 => (h b b0).trans (g b b0)
theorem ftK_congr {s : List Int} {p p' : Int → Int} : ∀ (k : Nat), (∀ j, 0 ≤ j → j < (k : Int) → p j = p' j) → ftK s p k = ftK s p' k := by
  intro k
  induction k with
  | zero => intro _; rfl
  | succ k ih =>
    intro h
    have e := ih (fun j j0 j1 => h j j0 (by omega))
    have e2 : p (k : Int) = p' (k : Int) := h k (by omega) (by omega)
    funext i
    show (0 ≤ i ∧ fs s (p k) (ftK s p k) i.toNat) = (0 ≤ i ∧ fs s (p' k) (ftK s p' k) i.toNat)
    rw [e, e2]
/-- the bytes of a path at a place -/
def pby (F : Int → Int) (a n : Int) (l : List Int) : Prop := F a = n ∧ (0 ≤ n ∧ n ≤ 12) ∧ (0 ≤ a ∧ a + 13 ≤ 3154) ∧ (l.length : Int) = n ∧ ∀ j, 0 ≤ j → j < n → sgA l j = sg (F (a + 1 + j)) ∧ sg (F (a + 1 + j)) ≠ 0
theorem pby_of {F : Int → Int} {a : Int} {l : List Int} (h : pok F a 3154) (e : fp F a = l) (ho : okp l) : pby F a (F a) l := by
  refine ⟨rfl, ⟨h.2.1, h.2.2.1⟩, ⟨h.1, h.2.2.2.1⟩, by rw [← e]; exact fp_len h.2.1, fun j j0 j1 => ?_⟩
  have hg : l[j.toNat]? = some (F (a + 1 + j)) := by
    rw [← e]
    have := lst_get (f := fun k => F (a + 1 + k)) (n := F a) (k := j.toNat) (by omega)
    rw [Int.toNat_of_nonneg j0] at this
    exact this
  have h1 := sgA_at hg
  rw [Int.toNat_of_nonneg j0] at h1
  exact ⟨h1, ho.1 _ (List.mem_of_getElem? hg)⟩
section PS
variable {M : px_mem} {Q : Option pv → px_mem → Prop}
set_option maxHeartbeats 600000 in
set_option maxRecDepth 100000 in
theorem sp_isLetter {x : Int} (h1 : (97 ≤ x ∧ x ≤ 122) → Q (some (0, 1)) M) (h0 : ¬ (97 ≤ x ∧ x ≤ 122) → Q (some (0, 0)) M) : px_Ok 180 [(0, x)] LAY M Q := by
  refine px_ok_go (inl := [170]) (ls0 := [(0, x)]) 60 (by decide) (Nat.le_of_ble_eq_true rfl) rfl ?_
  simp only [px_go, px_Q0_at, px_sx_0, px_sx_s, px_cl, px_step, ↓px_ll, px_lg, f4_, ↓px_r1, ↓px_r2, ↓px_r4, ↓px_r5, ↓px_p1, ↓px_p2, ↓px_p3, ↓px_pop, px_k_0, px_k_s, px_k3_0, px_stk_, px_cats, px_ent, px_st1, px_st2, px_mask, ↓px_tsw, ↓px_lsw, ct_, mls_0, mls_1, mls_2, mls_3, mls_4, mls_5, kd_0, kd_1, kd_2, kd_3, ln_0, ln_1, ln_2, ln_3, gf_0, gf_1, gf_2, gf_3, gf_4, gf_7, gf_21, gf_63, dy_0, dy_1, dy_2, dy_3, dy_7, dy_21, px_brT, px_brF, true_and, and_true, and_false, false_and, and_self, true_implies, false_implies, or_true, true_or, or_false, false_or, eq_self, ne_eq, not_false_eq_true, not_true_eq_false, if_true, if_false, List.mem_cons, List.not_mem_nil, List.length_cons, List.length_nil, Nat.reduceEqDiff, Nat.reduceAdd, Nat.reduceSub, Nat.reduceLeDiff, Nat.reduceLT, Int.reduceEq, Int.reduceLT, Int.reduceLE, Int.reduceNeg, Int.reduceAdd, Int.reduceSub, Int.reduceToNat, ↓reduceIte, one_ne_zero_, zero_ne_one_, px_in32L, cd_180, cd_170]
  repeat' (first | (with_reducible apply And.intro) | (with_reducible refine px_br_intro (fun _ => ?_) (fun _ => ?_)))
  all_goals (try (first | (unfold px_in32; omega) | omega))
  · exact h0 (by omega)
  · exact h0 (by omega)
  · exact h1 (by omega)
set_option maxHeartbeats 600000 in
set_option maxRecDepth 100000 in
theorem lp_lk0 {M0 : px_mem} {a n : Int} (hn : 0 ≤ n ∧ n ≤ 12) (hx : ∀ M, frl M M0 → rwI M (fun j => j = 0) n → px_WP 274 0 0 (px_Q0 LAY Q) 37 [(2, 127), (0, a), (0, n), (0, 1), (9, 0), (9, 0)] [] LAY M 0 0) (i : Int) (hk_i : i ≤ n+1) : ∀ M, 0 ≤ i → frl M M0 → (∀ j, 0 ≤ j → j < i → M 150 j = b1 (j = 0)) → px_WP 274 0 0 (px_Q0 LAY Q) 9 [(2, 127), (0, a), (0, n), (0, i), (9, 0), (9, 0)] [] LAY M 0 0 := by
  refine up_ind (P := fun i => ∀ M, 0 ≤ i → frl M M0 → (∀ j, 0 ≤ j → j < i → M 150 j = b1 (j = 0)) → px_WP 274 0 0 (px_Q0 LAY Q) 9 [(2, 127), (0, a), (0, n), (0, i), (9, 0), (9, 0)] [] LAY M 0 0) (n+1) (fun i hk_i ih => ?_) i hk_i
  intro M i0 hf hm
  refine px_go_ok (inl := []) 60 ?_
  simp only [px_go, px_Q0_at, px_sx_0, px_sx_s, px_cl, px_step, ↓px_ll, px_lg, f4_, ↓px_r1, ↓px_r2, ↓px_r4, ↓px_r5, ↓px_p1, ↓px_p2, ↓px_p3, ↓px_pop, px_k_0, px_k_s, px_k3_0, px_stk_, px_cats, px_ent, px_st1, px_st2, px_mask, ↓px_tsw, ↓px_lsw, ct_, mls_0, mls_1, mls_2, mls_3, mls_4, mls_5, kd_0, kd_1, kd_2, kd_3, ln_0, ln_1, ln_2, ln_3, gf_0, gf_1, gf_2, gf_3, gf_4, gf_7, gf_21, gf_63, dy_0, dy_1, dy_2, dy_3, dy_7, dy_21, px_brT, px_brF, true_and, and_true, and_false, false_and, and_self, true_implies, false_implies, or_true, true_or, or_false, false_or, eq_self, ne_eq, not_false_eq_true, not_true_eq_false, if_true, if_false, List.mem_cons, List.not_mem_nil, List.length_cons, List.length_nil, Nat.reduceEqDiff, Nat.reduceAdd, Nat.reduceSub, Nat.reduceLeDiff, Nat.reduceLT, Int.reduceEq, Int.reduceLT, Int.reduceLE, Int.reduceNeg, Int.reduceAdd, Int.reduceSub, Int.reduceToNat, ↓reduceIte, one_ne_zero_, zero_ne_one_, px_in32L, cd_274]
  repeat' (first | (with_reducible apply And.intro) | (with_reducible refine px_br_intro (fun _ => ?_) (fun _ => ?_)))
  all_goals (try (first | (unfold px_in32; omega) | omega))
  · rename_i c1
    exact hx M hf (fun j j0 j1 => hm j j0 (by omega))
  · rename_i c1 c2
    refine ih (by omega) _ (by omega) (frl_up hf) (fun j j0 j1 => ?_)
    by_cases q : j = i
    · rw [q, upe, b1_t c2]
    · rw [upn q]; exact hm j j0 (by omega)
  · rename_i c1 c2
    refine ih (by omega) _ (by omega) (frl_up hf) (fun j j0 j1 => ?_)
    by_cases q : j = i
    · rw [q, upe, b1_f c2]
    · rw [upn q]; exact hm j j0 (by omega)
set_option maxHeartbeats 600000 in
set_option maxRecDepth 100000 in
theorem lp_lk2 {M0 : px_mem} {a n k : Int} {l : List Int} {W : Int → Prop} (hl : pby (M0 128) a n l) (hk : 0 ≤ k ∧ k ≤ 12) (hx : ∀ M, frl M M0 → rwI M (fun j => fs l 42 W j.toNat) n → px_WP 274 0 0 (px_Q0 LAY Q) 37 [(2, 127), (0, a), (0, n), (0, k + 1), (9, 0), (9, 0)] [] LAY M 0 0) (i : Int) (hk_i : i ≤ n+1) : ∀ M, 1 ≤ i → frl M M0 → (∀ j, 0 ≤ j → j < i → M 150 j = b1 (fs l 42 W j.toNat)) → (∀ j, i ≤ j → j ≤ n → M 150 j = b1 (W j)) → px_WP 274 0 0 (px_Q0 LAY Q) 65 [(2, 127), (0, a), (0, n), (0, k), (9, 0), (0, i)] [] LAY M 0 0 := by
  refine up_ind (P := fun i => ∀ M, 1 ≤ i → frl M M0 → (∀ j, 0 ≤ j → j < i → M 150 j = b1 (fs l 42 W j.toNat)) → (∀ j, i ≤ j → j ≤ n → M 150 j = b1 (W j)) → px_WP 274 0 0 (px_Q0 LAY Q) 65 [(2, 127), (0, a), (0, n), (0, k), (9, 0), (0, i)] [] LAY M 0 0) (n+1) (fun i hk_i ih => ?_) i hk_i
  intro M i1 hf hlo hhi
  have e128 : M 128 = M0 128 := hf 128 (by decide)
  have hn := hl.2.1
  have hb := hl.2.2.1
  have hj := hl.2.2.2.2 (i - 1) (by omega)
  rw [show a + 1 + (i - 1) = a + i by omega] at hj
  have hW := hhi i (Int.le_refl i)
  have hV := hlo (i - 1) (by omega) (by omega)
  have hfs := fs_s l 42 W (show 0 ≤ i - 1 by omega)
  rw [show i - 1 + 1 = i by omega] at hfs
  have hsg : 1 < sg (M0 128 (a + i)) ↔ (97 ≤ M0 128 (a + i) ∧ M0 128 (a + i) ≤ 122) := by unfold sg; split <;> (try split) <;> omega
  have hgo : i ≤ n → ∀ y, y = b1 (fs l 42 W i.toNat) → px_WP 274 0 0 (px_Q0 LAY Q) 65 [(2, 127), (0, a), (0, n), (0, k), (9, 0), (0, i + 1)] [] LAY (px_up M 150 i y) 0 0 := fun q y ey => by
    refine ih (by omega) _ (by omega) (frl_up hf) (fun j j0 j1 => ?_) (fun j j0 j1 => ?_)
    · by_cases z : j = i
      · rw [z, upe]; exact ey
      · rw [upn z]; exact hlo j j0 (by omega)
    · rw [upn (by omega)]; exact hhi j (by omega) j1
  have hW0 : i ≤ n → (M 150 i = 0 ↔ ¬ W i) := fun q => by
    rw [hW q]
    exact ⟨fun z y => by rw [b1_t y] at z; omega, fun z => b1_f z⟩
  have hV0 : M 150 (i - 1) = 0 ↔ ¬ fs l 42 W (i - 1).toNat := by
    rw [hV]
    exact ⟨fun z y => by rw [b1_t y] at z; omega, fun z => b1_f z⟩
  clear ih
  refine px_go_ok (inl := [170,180]) 60 ?_
  simp only [px_go, px_Q0_at, px_sx_0, px_sx_s, px_cl, px_step, ↓px_ll, px_lg, f4_, ↓px_r1, ↓px_r2, ↓px_r4, ↓px_r5, ↓px_p1, ↓px_p2, ↓px_p3, ↓px_pop, px_k_0, px_k_s, px_k3_0, px_stk_, px_cats, px_ent, px_st1, px_st2, px_mask, ↓px_tsw, ↓px_lsw, ct_, mls_0, mls_1, mls_2, mls_3, mls_4, mls_5, kd_0, kd_1, kd_2, kd_3, ln_0, ln_1, ln_2, ln_3, gf_0, gf_1, gf_2, gf_3, gf_4, gf_7, gf_21, gf_63, dy_0, dy_1, dy_2, dy_3, dy_7, dy_21, px_brT, px_brF, true_and, and_true, and_false, false_and, and_self, true_implies, false_implies, or_true, true_or, or_false, false_or, eq_self, ne_eq, not_false_eq_true, not_true_eq_false, if_true, if_false, List.mem_cons, List.not_mem_nil, List.length_cons, List.length_nil, Nat.reduceEqDiff, Nat.reduceAdd, Nat.reduceSub, Nat.reduceLeDiff, Nat.reduceLT, Int.reduceEq, Int.reduceLT, Int.reduceLE, Int.reduceNeg, Int.reduceAdd, Int.reduceSub, Int.reduceToNat, ↓reduceIte, one_ne_zero_, zero_ne_one_, px_in32L, cd_274, cd_170, cd_180, e128]
  repeat' (first | (with_reducible apply And.intro) | (with_reducible refine px_br_intro (fun _ => ?_) (fun _ => ?_)))
  all_goals (try (first | (unfold px_in32; omega) | omega))
  · rename_i c1
    exact hx M hf (fun j j0 j1 => hlo j j0 (by omega))
  · rename_i c1 c2 c3
    refine hgo (by omega) 0 (b1_f (fun z => ?_)).symm
    rcases hfs.mp z with y | y | y
    · rcases y.2 with x | x
      · exact (hW0 (by omega)).mp c2 x
      · exact hV0.mp c3 x.1
    · exact absurd y.1 (by decide)
    · exact y.1 rfl
  · rename_i c1 c2 c3 c4
    refine hgo (by omega) 0 (b1_f (fun z => ?_)).symm
    rcases hfs.mp z with y | y | y
    · rcases y.2 with x | x
      · exact (hW0 (by omega)).mp c2 x
      · rw [(hj (by omega)).1] at x
        have := hsg.mp x.2
        omega
    · exact absurd y.1 (by decide)
    · exact y.1 rfl
  · rename_i c1 c2 c3 c4 c5
    refine hgo (by omega) 0 (b1_f (fun z => ?_)).symm
    rcases hfs.mp z with y | y | y
    · rcases y.2 with x | x
      · exact (hW0 (by omega)).mp c2 x
      · rw [(hj (by omega)).1] at x
        have := hsg.mp x.2
        omega
    · exact absurd y.1 (by decide)
    · exact y.1 rfl
  · rename_i c1 c2 c3 c4 c5
    refine hgo (by omega) 1 (b1_t ?_).symm
    refine hfs.mpr (Or.inl ⟨rfl, Or.inr ⟨Classical.byContradiction (fun z => c3 (hV0.mpr z)), ?_⟩⟩)
    rw [(hj (by omega)).1]
    exact hsg.mpr (by omega)
  · rename_i c1 c2
    refine hgo (by omega) 1 (b1_t ?_).symm
    exact hfs.mpr (Or.inl ⟨rfl, Or.inl (Classical.byContradiction (fun z => c2 ((hW0 (by omega)).mpr z)))⟩)
end PS
