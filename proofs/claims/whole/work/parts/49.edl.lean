/-! EditionVault.Edition: its list, its text -/
set_option maxRecDepth 100000 in
/-- X2_tellInto -/
theorem cd_41 : px_at 41 0 = some (1, [], .iconst 0, []) ∧ px_at 41 1 = some (2, [], .istore_n 3, []) ∧ px_at 41 2 = some (3, [], .iconst 0, []) ∧ px_at 41 3 = some (5, [], .istore 4, []) ∧ px_at 41 5 = some (7, [1, 1, 1, 1, 1, 0, 0], .iload 4, []) ∧ px_at 41 7 = some (8, [], .aload_n 0, []) ∧ px_at 41 8 = some (11, [], .getfield 30, [2, 2, 0, 0, 29]) ∧ px_at 41 11 = some (14, [], .if_icmp .ge 89, [100]) ∧ px_at 41 14 = some (15, [], .aload_n 0, []) ∧ px_at 41 15 = some (18, [], .getfield 9, [2, 0, 2, 1, 20]) ∧ px_at 41 18 = some (20, [], .iload 4, []) ∧ px_at 41 20 = some (21, [], .laload, []) ∧ px_at 41 21 = some (24, [], .invokestatic 48, [63, 1, 0, 193]) ∧ px_at 41 24 = some (26, [], .istore 5, []) ∧ px_at 41 26 = some (27, [], .iconst 0, []) ∧ px_at 41 27 = some (29, [], .istore 6, []) ∧ px_at 41 29 = some (31, [1, 1, 1, 1, 1, 1, 1], .iload 6, []) ∧ px_at 41 31 = some (33, [], .iload 5, []) ∧ px_at 41 33 = some (36, [], .if_icmp .ge 27, [60]) ∧ px_at 41 36 = some (37, [], .aload_n 1, []) ∧ px_at 41 37 = some (38, [], .iload_n 3, []) ∧ px_at 41 38 = some (39, [], .aload_n 0, []) ∧ px_at 41 39 = some (42, [], .getfield 9, [2, 0, 2, 1, 20]) ∧ px_at 41 42 = some (44, [], .iload 4, []) ∧ px_at 41 44 = some (45, [], .laload, []) ∧ px_at 41 45 = some (47, [], .iload 6, []) ∧ px_at 41 47 = some (50, [], .invokestatic 51, [64, 2, 0, 194]) ∧ px_at 41 50 = some (53, [], .invokestatic 55, [42, 3, 2, 195]) ∧ px_at 41 53 = some (54, [], .istore_n 3, []) ∧ px_at 41 54 = some (57, [], .iinc 6 1, []) ∧ px_at 41 57 = some (60, [], .goto (-28), [29]) ∧ px_at 41 60 = some (61, [], .aload_n 1, []) ∧ px_at 41 61 = some (62, [], .iload_n 3, []) ∧ px_at 41 62 = some (64, [], .bipush 61, []) ∧ px_at 41 64 = some (67, [], .invokestatic 55, [42, 3, 2, 195]) ∧ px_at 41 67 = some (68, [], .istore_n 3, []) ∧ px_at 41 68 = some (69, [], .aload_n 1, []) ∧ px_at 41 69 = some (70, [], .iload_n 3, []) ∧ px_at 41 70 = some (71, [], .aload_n 2, []) ∧ px_at 41 71 = some (74, [], .getfield 59, [1, 1, 2, 1, 70]) ∧ px_at 41 74 = some (75, [], .aload_n 0, []) ∧ px_at 41 75 = some (78, [], .getfield 15, [2, 1, 2, 1, 24]) ∧ px_at 41 78 = some (80, [], .iload 4, []) ∧ px_at 41 80 = some (81, [], .iaload, []) ∧ px_at 41 81 = some (82, [], .iaload, []) ∧ px_at 41 82 = some (85, [], .invokestatic 64, [43, 3, 2, 196]) ∧ px_at 41 85 = some (86, [], .istore_n 3, []) ∧ px_at 41 86 = some (87, [], .aload_n 1, []) ∧ px_at 41 87 = some (88, [], .iload_n 3, []) ∧ px_at 41 88 = some (90, [], .bipush 59, []) ∧ px_at 41 90 = some (93, [], .invokestatic 55, [42, 3, 2, 195]) ∧ px_at 41 93 = some (94, [], .istore_n 3, []) ∧ px_at 41 94 = some (97, [], .iinc 4 1, []) ∧ px_at 41 97 = some (100, [], .goto (-92), [5]) ∧ px_at 41 100 = some (101, [], .iload_n 3, []) ∧ px_at 41 101 = some (102, [], .ireturn, [0]) := ⟨rfl, rfl, rfl, rfl, rfl, rfl, rfl, rfl, rfl, rfl, rfl, rfl, rfl, rfl, rfl, rfl, rfl, rfl, rfl, rfl, rfl, rfl, rfl, rfl, rfl, rfl, rfl, rfl, rfl, rfl, rfl, rfl, rfl, rfl, rfl, rfl, rfl, rfl, rfl, rfl, rfl, rfl, rfl, rfl, rfl, rfl, rfl, rfl, rfl, rfl, rfl, rfl, rfl, rfl, rfl, rfl⟩
set_option maxRecDepth 100000 in
/-- X2_append -/
theorem cd_42 : px_at 42 0 = some (1, [], .iload_n 1, []) ∧ px_at 42 1 = some (2, [], .aload_n 0, []) ∧ px_at 42 2 = some (3, [], .arraylength, []) ∧ px_at 42 3 = some (6, [], .if_icmp .lt 5, [8]) ∧ px_at 42 6 = some (7, [], .iload_n 1, []) ∧ px_at 42 7 = some (8, [], .ireturn, [0]) ∧ px_at 42 8 = some (9, [], .aload_n 0, []) ∧ px_at 42 9 = some (10, [], .iload_n 1, []) ∧ px_at 42 10 = some (11, [], .iload_n 2, []) ∧ px_at 42 11 = some (12, [], .iastore, []) ∧ px_at 42 12 = some (13, [], .iload_n 1, []) ∧ px_at 42 13 = some (14, [], .iconst 1, []) ∧ px_at 42 14 = some (15, [], .iadd, []) ∧ px_at 42 15 = some (16, [], .ireturn, [0]) := ⟨rfl, rfl, rfl, rfl, rfl, rfl, rfl, rfl, rfl, rfl, rfl, rfl, rfl, rfl⟩
set_option maxRecDepth 100000 in
/-- X2_appendDigits -/
theorem cd_43 : px_at 43 0 = some (1, [], .iload_n 1, []) ∧ px_at 43 1 = some (2, [], .istore_n 3, []) ∧ px_at 43 2 = some (5, [], .sipush 10000, []) ∧ px_at 43 5 = some (7, [], .istore 4, []) ∧ px_at 43 7 = some (9, [1, 0, 1, 1, 1], .iload 4, []) ∧ px_at 43 9 = some (12, [], .ifCond .le 41, [50]) ∧ px_at 43 12 = some (13, [], .iload_n 2, []) ∧ px_at 43 13 = some (15, [], .iload 4, []) ∧ px_at 43 15 = some (18, [], .if_icmp .ge 9, [24]) ∧ px_at 43 18 = some (20, [], .iload 4, []) ∧ px_at 43 20 = some (21, [], .iconst 1, []) ∧ px_at 43 21 = some (24, [], .if_icmp .ne 19, [40]) ∧ px_at 43 24 = some (25, [], .aload_n 0, []) ∧ px_at 43 25 = some (26, [], .iload_n 3, []) ∧ px_at 43 26 = some (28, [], .bipush 48, []) ∧ px_at 43 28 = some (29, [], .iload_n 2, []) ∧ px_at 43 29 = some (31, [], .iload 4, []) ∧ px_at 43 31 = some (32, [], .idiv, []) ∧ px_at 43 32 = some (34, [], .bipush 10, []) ∧ px_at 43 34 = some (35, [], .irem, []) ∧ px_at 43 35 = some (36, [], .iadd, []) ∧ px_at 43 36 = some (39, [], .invokestatic 55, [42, 3, 2, 195]) ∧ px_at 43 39 = some (40, [], .istore_n 3, []) ∧ px_at 43 40 = some (42, [], .iload 4, []) ∧ px_at 43 42 = some (44, [], .bipush 10, []) ∧ px_at 43 44 = some (45, [], .idiv, []) ∧ px_at 43 45 = some (47, [], .istore 4, []) ∧ px_at 43 47 = some (50, [], .goto (-40), [7]) ∧ px_at 43 50 = some (51, [], .iload_n 3, []) ∧ px_at 43 51 = some (52, [], .ireturn, [0]) := ⟨rfl, rfl, rfl, rfl, rfl, rfl, rfl, rfl, rfl, rfl, rfl, rfl, rfl, rfl, rfl, rfl, rfl, rfl, rfl, rfl, rfl, rfl, rfl, rfl, rfl, rfl, rfl, rfl, rfl, rfl⟩
/-- an edition's list in the class: its paths -/
def lsC (M : px_mem) (e : Int) (pl : Int → List Int) : Prop := 0 ≤ M e 2 ∧ M e 2 ≤ 12 ∧ ∀ j, 0 ≤ j → j < M e 2 → okp (pl j) ∧ M (e + 1) j = enc (pl j) ∧ 0 ≤ M (e + 2) j ∧ M (e + 2) j < 40
noncomputable def cAt (M : px_mem) (e : Int) (pl : Int → List Int) (p : List Int) : Int := if idx (M e 2) (fun j => pl j = p) < 0 then -2 else M (e + 2) (idx (M e 2) (fun j => pl j = p))
noncomputable def nxt (M : px_mem) (e c : Int) : Int := if fnd (M e 2) (fun j => c < M (e + 1) j) = -1 then 1152921504606846976 else M (e + 1) (fnd (M e 2) (fun j => c < M (e + 1) j))
theorem idx_congr {n : Int} {p q : Int → Prop} (h : ∀ j, 0 ≤ j → j < n → (p j ↔ q j)) : idx n p = idx n q := by
  unfold idx
  rw [fnd_congr h]
/-- decimal digits, none but the last a nought ahead -/
def dgU (m u : Int) : List Int := if u ≤ m ∨ u = 1 then [48 + m / u % 10] else []
def dig (m : Int) : List Int := dgU m 10000 ++ dgU m 1000 ++ dgU m 100 ++ dgU m 10 ++ dgU m 1
theorem dig_len (m : Int) : (dig m).length ≤ 5 := by
  have h : ∀ u, (dgU m u).length ≤ 1 := fun u => by unfold dgU; split <;> simp
  unfold dig
  simp only [List.length_append]
  have := h 10000; have := h 1000; have := h 100; have := h 10; have := h 1
  omega
def tl1 (p : List Int) (m : Int) : List Int := p ++ [61] ++ dig m ++ [59]
def tlN (pl : Int → List Int) (mk : Int → Int) : Nat → List Int
  | 0 => []
  | k + 1 => tlN pl mk k ++ tl1 (pl k) (mk k)
/-- the text of a list -/
def tl (pl : Int → List Int) (mk : Int → Int) (n : Int) : List Int := tlN pl mk n.toNat
theorem tl_s {pl : Int → List Int} {mk : Int → Int} {k : Int} (h : 0 ≤ k) : tl pl mk (k + 1) = tl pl mk k ++ tl1 (pl k) (mk k) := by
  unfold tl
  rw [show (k + 1).toNat = k.toNat + 1 by omega]
  show tlN pl mk k.toNat ++ tl1 (pl (k.toNat : Int)) (mk (k.toNat : Int)) = _
  rw [Int.toNat_of_nonneg h]
theorem tl_len {pl : Int → List Int} {mk : Int → Int} {n : Int} (h : ∀ j, 0 ≤ j → j < n → (pl j).length ≤ 12) : ∀ k : Nat, (k : Int) ≤ n → ((tl pl mk k).length : Int) ≤ 19 * k := by
  intro k
  induction k with
  | zero => intro _; exact Int.le_refl 0
  | succ k ih =>
    intro hk
    rw [Int.natCast_succ] at *
    rw [tl_s (by omega), List.length_append]
    have := ih (by omega)
    have := h k (by omega) (by omega)
    have := dig_len (mk k)
    unfold tl1
    simp only [List.length_append, List.length_cons, List.length_nil]
    omega
section PS
variable {M : px_mem} {Q : Option pv → px_mem → Prop}
set_option maxHeartbeats 600000 in
set_option maxRecDepth 100000 in
theorem sp_ePlaceOf {e : Int} {pl : Int → List Int} {p : List Int} (he : isE e) (hl : lsC M e pl) (hp : okp p) (h : Q (some (0, idx (M e 2) (fun j => pl j = p))) M) : px_Ok 37 [(2, e), (1, enc p)] LAY M Q := by
  have hel := isE_lay he
  have heg := isE_gf he
  refine px_ok_go (inl := []) (ls0 := [(2, e), (1, enc p), (9, 0)]) 60 (by decide) (Nat.le_of_ble_eq_true rfl) rfl ?_
  simp only [px_go, px_Q0_at, px_sx_0, px_sx_s, px_cl, px_step, ↓px_ll, px_lg, f4_, ↓px_r1, ↓px_r2, ↓px_r4, ↓px_r5, ↓px_p1, ↓px_p2, ↓px_p3, ↓px_pop, px_k_0, px_k_s, px_k3_0, px_stk_, px_cats, px_ent, px_st1, px_st2, px_mask, ↓px_tsw, ↓px_lsw, ct_, mls_0, mls_1, mls_2, mls_3, mls_4, mls_5, kd_0, kd_1, kd_2, kd_3, ln_0, ln_1, ln_2, ln_3, gf_0, gf_1, gf_2, gf_3, gf_4, gf_7, gf_21, gf_63, dy_0, dy_1, dy_2, dy_3, dy_7, dy_21, px_brT, px_brF, true_and, and_true, and_false, false_and, and_self, true_implies, false_implies, or_true, true_or, or_false, false_or, eq_self, ne_eq, not_false_eq_true, not_true_eq_false, if_true, if_false, List.mem_cons, List.not_mem_nil, List.length_cons, List.length_nil, Nat.reduceEqDiff, Nat.reduceAdd, Nat.reduceSub, Nat.reduceLeDiff, Nat.reduceLT, Int.reduceEq, Int.reduceLT, Int.reduceLE, Int.reduceNeg, Int.reduceAdd, Int.reduceSub, Int.reduceToNat, ↓reduceIte, one_ne_zero_, zero_ne_one_, px_in32L, cd_37, hel, heg]
  repeat' (first | (with_reducible apply And.intro) | (with_reducible refine px_br_intro (fun _ => ?_) (fun _ => ?_)))
  all_goals (try (first | (unfold px_in32; omega) | omega))
  refine sp_placeIn hel.2.1 (by rw [hel.2.2.1]; exact hl.2.1) hl.1 (by rw [hel.2.2.1]; decide) ?_
  simp only [px_go, px_Q0_at, px_sx_0, px_sx_s, px_cl, px_step, ↓px_ll, px_lg, f4_, ↓px_r1, ↓px_r2, ↓px_r4, ↓px_r5, ↓px_p1, ↓px_p2, ↓px_p3, ↓px_pop, px_k_0, px_k_s, px_k3_0, px_stk_, px_cats, px_ent, px_st1, px_st2, px_mask, ↓px_tsw, ↓px_lsw, ct_, mls_0, mls_1, mls_2, mls_3, mls_4, mls_5, kd_0, kd_1, kd_2, kd_3, ln_0, ln_1, ln_2, ln_3, gf_0, gf_1, gf_2, gf_3, gf_4, gf_7, gf_21, gf_63, dy_0, dy_1, dy_2, dy_3, dy_7, dy_21, px_brT, px_brF, true_and, and_true, and_false, false_and, and_self, true_implies, false_implies, or_true, true_or, or_false, false_or, eq_self, ne_eq, not_false_eq_true, not_true_eq_false, if_true, if_false, List.mem_cons, List.not_mem_nil, List.length_cons, List.length_nil, Nat.reduceEqDiff, Nat.reduceAdd, Nat.reduceSub, Nat.reduceLeDiff, Nat.reduceLT, Int.reduceEq, Int.reduceLT, Int.reduceLE, Int.reduceNeg, Int.reduceAdd, Int.reduceSub, Int.reduceToNat, ↓reduceIte, one_ne_zero_, zero_ne_one_, px_in32L, cd_37]
  rw [idx_congr (q := fun j => pl j = p) (fun j j0 j1 => ?_)]
  · exact h
  · have := hl.2.2 j j0 j1
    rw [this.2.1]
    exact ⟨fun q => enc_inj this.1.1 hp.1 this.1.2 hp.2 q, fun q => by rw [q]⟩
set_option maxHeartbeats 600000 in
set_option maxRecDepth 100000 in
theorem sp_contentAt {e : Int} {pl : Int → List Int} {p : List Int} (he : isE e) (hl : lsC M e pl) (hp : okp p) (h : Q (some (0, cAt M e pl p)) M) : px_Ok 38 [(2, e), (1, enc p)] LAY M Q := by
  have hel := isE_lay he
  have heg := isE_gf he
  refine px_ok_go (inl := []) (ls0 := [(2, e), (1, enc p), (9, 0), (9, 0)]) 60 (by decide) (Nat.le_of_ble_eq_true rfl) rfl ?_
  simp only [px_go, px_Q0_at, px_sx_0, px_sx_s, px_cl, px_step, ↓px_ll, px_lg, f4_, ↓px_r1, ↓px_r2, ↓px_r4, ↓px_r5, ↓px_p1, ↓px_p2, ↓px_p3, ↓px_pop, px_k_0, px_k_s, px_k3_0, px_stk_, px_cats, px_ent, px_st1, px_st2, px_mask, ↓px_tsw, ↓px_lsw, ct_, mls_0, mls_1, mls_2, mls_3, mls_4, mls_5, kd_0, kd_1, kd_2, kd_3, ln_0, ln_1, ln_2, ln_3, gf_0, gf_1, gf_2, gf_3, gf_4, gf_7, gf_21, gf_63, dy_0, dy_1, dy_2, dy_3, dy_7, dy_21, px_brT, px_brF, true_and, and_true, and_false, false_and, and_self, true_implies, false_implies, or_true, true_or, or_false, false_or, eq_self, ne_eq, not_false_eq_true, not_true_eq_false, if_true, if_false, List.mem_cons, List.not_mem_nil, List.length_cons, List.length_nil, Nat.reduceEqDiff, Nat.reduceAdd, Nat.reduceSub, Nat.reduceLeDiff, Nat.reduceLT, Int.reduceEq, Int.reduceLT, Int.reduceLE, Int.reduceNeg, Int.reduceAdd, Int.reduceSub, Int.reduceToNat, ↓reduceIte, one_ne_zero_, zero_ne_one_, px_in32L, cd_38, hel, heg]
  repeat' (first | (with_reducible apply And.intro) | (with_reducible refine px_br_intro (fun _ => ?_) (fun _ => ?_)))
  all_goals (try (first | (unfold px_in32; omega) | omega))
  refine sp_ePlaceOf he hl hp ?_
  have hs := idx_spec (M e 2) (fun j => pl j = p)
  have hn := hl.2.1
  unfold cAt at h
  generalize idx (M e 2) (fun j => pl j = p) = r at *
  simp only [px_go, px_Q0_at, px_sx_0, px_sx_s, px_cl, px_step, ↓px_ll, px_lg, f4_, ↓px_r1, ↓px_r2, ↓px_r4, ↓px_r5, ↓px_p1, ↓px_p2, ↓px_p3, ↓px_pop, px_k_0, px_k_s, px_k3_0, px_stk_, px_cats, px_ent, px_st1, px_st2, px_mask, ↓px_tsw, ↓px_lsw, ct_, mls_0, mls_1, mls_2, mls_3, mls_4, mls_5, kd_0, kd_1, kd_2, kd_3, ln_0, ln_1, ln_2, ln_3, gf_0, gf_1, gf_2, gf_3, gf_4, gf_7, gf_21, gf_63, dy_0, dy_1, dy_2, dy_3, dy_7, dy_21, px_brT, px_brF, true_and, and_true, and_false, false_and, and_self, true_implies, false_implies, or_true, true_or, or_false, false_or, eq_self, ne_eq, not_false_eq_true, not_true_eq_false, if_true, if_false, List.mem_cons, List.not_mem_nil, List.length_cons, List.length_nil, Nat.reduceEqDiff, Nat.reduceAdd, Nat.reduceSub, Nat.reduceLeDiff, Nat.reduceLT, Int.reduceEq, Int.reduceLT, Int.reduceLE, Int.reduceNeg, Int.reduceAdd, Int.reduceSub, Int.reduceToNat, ↓reduceIte, one_ne_zero_, zero_ne_one_, px_in32L, cd_38, hel, heg]
  repeat' (first | (with_reducible apply And.intro) | (with_reducible refine px_br_intro (fun _ => ?_) (fun _ => ?_)))
  all_goals (try (first | (unfold px_in32; omega) | omega))
  · rw [if_neg (by omega)] at h; exact h
  · rw [if_pos (by omega)] at h; exact h
set_option maxHeartbeats 600000 in
set_option maxRecDepth 100000 in
theorem sp_eWithin {e : Int} {pl : Int → List Int} {t : List Int} (he : isE e) (hl : lsC M e pl) (ht : okp t) (h : Q (some (0, sm (M e 2) (fun j => b1 (wi (pl j) t)))) M) : px_Ok 39 [(2, e), (1, enc t)] LAY M Q := by
  have hel := isE_lay he
  have heg := isE_gf he
  refine px_ok_go (inl := []) (ls0 := [(2, e), (1, enc t), (9, 0)]) 60 (by decide) (Nat.le_of_ble_eq_true rfl) rfl ?_
  simp only [px_go, px_Q0_at, px_sx_0, px_sx_s, px_cl, px_step, ↓px_ll, px_lg, f4_, ↓px_r1, ↓px_r2, ↓px_r4, ↓px_r5, ↓px_p1, ↓px_p2, ↓px_p3, ↓px_pop, px_k_0, px_k_s, px_k3_0, px_stk_, px_cats, px_ent, px_st1, px_st2, px_mask, ↓px_tsw, ↓px_lsw, ct_, mls_0, mls_1, mls_2, mls_3, mls_4, mls_5, kd_0, kd_1, kd_2, kd_3, ln_0, ln_1, ln_2, ln_3, gf_0, gf_1, gf_2, gf_3, gf_4, gf_7, gf_21, gf_63, dy_0, dy_1, dy_2, dy_3, dy_7, dy_21, px_brT, px_brF, true_and, and_true, and_false, false_and, and_self, true_implies, false_implies, or_true, true_or, or_false, false_or, eq_self, ne_eq, not_false_eq_true, not_true_eq_false, if_true, if_false, List.mem_cons, List.not_mem_nil, List.length_cons, List.length_nil, Nat.reduceEqDiff, Nat.reduceAdd, Nat.reduceSub, Nat.reduceLeDiff, Nat.reduceLT, Int.reduceEq, Int.reduceLT, Int.reduceLE, Int.reduceNeg, Int.reduceAdd, Int.reduceSub, Int.reduceToNat, ↓reduceIte, one_ne_zero_, zero_ne_one_, px_in32L, cd_39, hel, heg]
  repeat' (first | (with_reducible apply And.intro) | (with_reducible refine px_br_intro (fun _ => ?_) (fun _ => ?_)))
  all_goals (try (first | (unfold px_in32; omega) | omega))
  refine sp_hmw (pl := pl) hel.2.1 hl.1 (by rw [hel.2.2.1]; exact hl.2.1) (by rw [hel.2.2.1]; decide) ht (fun i i0 i1 => ⟨(hl.2.2 i i0 i1).1, (hl.2.2 i i0 i1).2.1⟩) ?_
  simp only [px_go, px_Q0_at, px_sx_0, px_sx_s, px_cl, px_step, ↓px_ll, px_lg, f4_, ↓px_r1, ↓px_r2, ↓px_r4, ↓px_r5, ↓px_p1, ↓px_p2, ↓px_p3, ↓px_pop, px_k_0, px_k_s, px_k3_0, px_stk_, px_cats, px_ent, px_st1, px_st2, px_mask, ↓px_tsw, ↓px_lsw, ct_, mls_0, mls_1, mls_2, mls_3, mls_4, mls_5, kd_0, kd_1, kd_2, kd_3, ln_0, ln_1, ln_2, ln_3, gf_0, gf_1, gf_2, gf_3, gf_4, gf_7, gf_21, gf_63, dy_0, dy_1, dy_2, dy_3, dy_7, dy_21, px_brT, px_brF, true_and, and_true, and_false, false_and, and_self, true_implies, false_implies, or_true, true_or, or_false, false_or, eq_self, ne_eq, not_false_eq_true, not_true_eq_false, if_true, if_false, List.mem_cons, List.not_mem_nil, List.length_cons, List.length_nil, Nat.reduceEqDiff, Nat.reduceAdd, Nat.reduceSub, Nat.reduceLeDiff, Nat.reduceLT, Int.reduceEq, Int.reduceLT, Int.reduceLE, Int.reduceNeg, Int.reduceAdd, Int.reduceSub, Int.reduceToNat, ↓reduceIte, one_ne_zero_, zero_ne_one_, px_in32L, cd_39]
  exact h
set_option maxHeartbeats 600000 in
set_option maxRecDepth 100000 in
theorem lp_pathBehind {e c : Int} (he : isE e) (hn : 0 ≤ M e 2 ∧ M e 2 ≤ 12) (h : Q (some (1, nxt M e c)) M) (k : Int) (hk_k : k ≤ M e 2) : 0 ≤ k → (∀ j, 0 ≤ j → j < k → ¬ c < M (e + 1) j) → px_WP 40 0 0 (px_Q0 LAY Q) 2 [(2, e), (1, c), (9, 0), (0, k)] [] LAY M 0 0 := by
  refine up_ind (P := fun k => 0 ≤ k → (∀ j, 0 ≤ j → j < k → ¬ c < M (e + 1) j) → px_WP 40 0 0 (px_Q0 LAY Q) 2 [(2, e), (1, c), (9, 0), (0, k)] [] LAY M 0 0) (M e 2) (fun k hk_k ih => ?_) k hk_k
  intro k0 hj
  have hel := isE_lay he
  have heg := isE_gf he
  have hlc := (lcmp_lt (M (e + 1) k) c).2.2.2.2
  refine px_go_ok (inl := []) 60 ?_
  simp only [px_go, px_Q0_at, px_sx_0, px_sx_s, px_cl, px_step, ↓px_ll, px_lg, f4_, ↓px_r1, ↓px_r2, ↓px_r4, ↓px_r5, ↓px_p1, ↓px_p2, ↓px_p3, ↓px_pop, px_k_0, px_k_s, px_k3_0, px_stk_, px_cats, px_ent, px_st1, px_st2, px_mask, ↓px_tsw, ↓px_lsw, ct_, mls_0, mls_1, mls_2, mls_3, mls_4, mls_5, kd_0, kd_1, kd_2, kd_3, ln_0, ln_1, ln_2, ln_3, gf_0, gf_1, gf_2, gf_3, gf_4, gf_7, gf_21, gf_63, dy_0, dy_1, dy_2, dy_3, dy_7, dy_21, px_brT, px_brF, true_and, and_true, and_false, false_and, and_self, true_implies, false_implies, or_true, true_or, or_false, false_or, eq_self, ne_eq, not_false_eq_true, not_true_eq_false, if_true, if_false, List.mem_cons, List.not_mem_nil, List.length_cons, List.length_nil, Nat.reduceEqDiff, Nat.reduceAdd, Nat.reduceSub, Nat.reduceLeDiff, Nat.reduceLT, Int.reduceEq, Int.reduceLT, Int.reduceLE, Int.reduceNeg, Int.reduceAdd, Int.reduceSub, Int.reduceToNat, ↓reduceIte, one_ne_zero_, zero_ne_one_, px_in32L, cd_40, hel, heg]
  repeat' (first | (with_reducible apply And.intro) | (with_reducible refine px_br_intro (fun _ => ?_) (fun _ => ?_)))
  all_goals (try (first | (unfold px_in32; omega) | omega))
  · rename_i c1
    unfold nxt at h
    rw [fnd_miss (fun j j0 j1 => hj j j0 (by omega)), if_pos rfl] at h; exact h
  · rename_i c1 c2
    exact ih (by omega) (by omega) (fun j j0 j1 => by
      by_cases q : j = k
      · rw [q]; have := hlc.mp c2; omega
      · exact hj j j0 (by omega))
  · rename_i c1 c2
    have c3 : c < M (e + 1) k := by
      rcases Int.lt_or_le c (M (e + 1) k) with q | q
      · exact q
      · exact absurd (hlc.mpr q) c2
    unfold nxt at h
    rw [fnd_hit k0 (by omega) c3 hj, if_neg (by omega)] at h; exact h
set_option maxHeartbeats 600000 in
set_option maxRecDepth 100000 in
theorem sp_pathBehind {e c : Int} (he : isE e) (hn : 0 ≤ M e 2 ∧ M e 2 ≤ 12) (h : Q (some (1, nxt M e c)) M) : px_Ok 40 [(2, e), (1, c)] LAY M Q := by
  refine px_ok_go (inl := []) (ls0 := [(2, e), (1, c), (9, 0), (9, 0)]) 60 (by decide) (Nat.le_of_ble_eq_true rfl) rfl ?_
  simp only [px_go, px_Q0_at, px_sx_0, px_sx_s, px_cl, px_step, ↓px_ll, px_lg, f4_, ↓px_r1, ↓px_r2, ↓px_r4, ↓px_r5, ↓px_p1, ↓px_p2, ↓px_p3, ↓px_pop, px_k_0, px_k_s, px_k3_0, px_stk_, px_cats, px_ent, px_st1, px_st2, px_mask, ↓px_tsw, ↓px_lsw, ct_, mls_0, mls_1, mls_2, mls_3, mls_4, mls_5, kd_0, kd_1, kd_2, kd_3, ln_0, ln_1, ln_2, ln_3, gf_0, gf_1, gf_2, gf_3, gf_4, gf_7, gf_21, gf_63, dy_0, dy_1, dy_2, dy_3, dy_7, dy_21, px_brT, px_brF, true_and, and_true, and_false, false_and, and_self, true_implies, false_implies, or_true, true_or, or_false, false_or, eq_self, ne_eq, not_false_eq_true, not_true_eq_false, if_true, if_false, List.mem_cons, List.not_mem_nil, List.length_cons, List.length_nil, Nat.reduceEqDiff, Nat.reduceAdd, Nat.reduceSub, Nat.reduceLeDiff, Nat.reduceLT, Int.reduceEq, Int.reduceLT, Int.reduceLE, Int.reduceNeg, Int.reduceAdd, Int.reduceSub, Int.reduceToNat, ↓reduceIte, one_ne_zero_, zero_ne_one_, px_in32L, cd_40]
  repeat' (first | (with_reducible apply And.intro) | (with_reducible refine px_br_intro (fun _ => ?_) (fun _ => ?_)))
  all_goals (try (first | (unfold px_in32; omega) | omega))
  exact lp_pathBehind he hn h 0 hn.1 (Int.le_refl 0) (fun j j0 j1 => by omega)
set_option maxHeartbeats 600000 in
set_option maxRecDepth 100000 in
theorem sp_xApp {s y : Int} (hs : 0 ≤ s ∧ s < 240) (h : ∀ M', lst (M' 125) (s + 1) = lst (M 125) s ++ [y] → (∀ b, b ≠ 125 → M' b = M b) → Q (some (0, s + 1)) M') : px_Ok 42 [(2, 125), (0, s), (0, y)] LAY M Q := by
  refine px_ok_go (inl := []) (ls0 := [(2, 125), (0, s), (0, y)]) 60 (by decide) (Nat.le_of_ble_eq_true rfl) rfl ?_
  simp only [px_go, px_Q0_at, px_sx_0, px_sx_s, px_cl, px_step, ↓px_ll, px_lg, f4_, ↓px_r1, ↓px_r2, ↓px_r4, ↓px_r5, ↓px_p1, ↓px_p2, ↓px_p3, ↓px_pop, px_k_0, px_k_s, px_k3_0, px_stk_, px_cats, px_ent, px_st1, px_st2, px_mask, ↓px_tsw, ↓px_lsw, ct_, mls_0, mls_1, mls_2, mls_3, mls_4, mls_5, kd_0, kd_1, kd_2, kd_3, ln_0, ln_1, ln_2, ln_3, gf_0, gf_1, gf_2, gf_3, gf_4, gf_7, gf_21, gf_63, dy_0, dy_1, dy_2, dy_3, dy_7, dy_21, px_brT, px_brF, true_and, and_true, and_false, false_and, and_self, true_implies, false_implies, or_true, true_or, or_false, false_or, eq_self, ne_eq, not_false_eq_true, not_true_eq_false, if_true, if_false, List.mem_cons, List.not_mem_nil, List.length_cons, List.length_nil, Nat.reduceEqDiff, Nat.reduceAdd, Nat.reduceSub, Nat.reduceLeDiff, Nat.reduceLT, Int.reduceEq, Int.reduceLT, Int.reduceLE, Int.reduceNeg, Int.reduceAdd, Int.reduceSub, Int.reduceToNat, ↓reduceIte, one_ne_zero_, zero_ne_one_, px_in32L, cd_42]
  repeat' (first | (with_reducible apply And.intro) | (with_reducible refine px_br_intro (fun _ => ?_) (fun _ => ?_)))
  all_goals (try (first | (unfold px_in32; omega) | omega))
  exact h _ (lst_up M 125 y hs.1) (fun b b0 => row_ne b0)
set_option maxHeartbeats 4000000 in
set_option maxRecDepth 100000 in
theorem lp_dg {m u : Int} {s : List Int} (hm : 0 ≤ m ∧ m < 65521) (hu : 0 < u ∧ u ≤ 10000) (hs : s.length < 240) (h0 : lst (M 125) (s.length : Int) = s) (hx : ∀ M', lst (M' 125) ((s ++ dgU m u).length : Int) = s ++ dgU m u → (∀ b, b ≠ 125 → M' b = M b) → px_WP 43 0 0 (px_Q0 LAY Q) 7 [(2, 125), (9, 0), (0, m), (0, ((s ++ dgU m u).length : Int)), (0, u / 10)] [] LAY M' 0 0) : px_WP 43 0 0 (px_Q0 LAY Q) 7 [(2, 125), (9, 0), (0, m), (0, (s.length : Int)), (0, u)] [] LAY M 0 0 := by
  have hd : 0 ≤ m / u := Int.ediv_nonneg hm.1 (by omega)
  have key : u ≤ m ∨ u = 1 → ∀ M', lst (M' 125) ((s.length : Int) + 1) = lst (M 125) (s.length : Int) ++ [48 + m / u % 10] → (∀ b, b ≠ 125 → M' b = M b) → px_WP 43 0 0 (px_Q0 LAY Q) 7 [(2, 125), (9, 0), (0, m), (0, (s.length : Int) + 1), (0, u / 10)] [] LAY M' 0 0 := fun q M' e1 e2 => by
    have e : dgU m u = [48 + m / u % 10] := by unfold dgU; rw [if_pos q]
    have hx := hx M'
    rw [e, List.length_append] at hx
    exact hx (by rw [h0] at e1; exact e1) e2
  refine px_go_ok (inl := []) 60 ?_
  simp only [px_go, px_Q0_at, px_sx_0, px_sx_s, px_cl, px_step, ↓px_ll, px_lg, f4_, ↓px_r1, ↓px_r2, ↓px_r4, ↓px_r5, ↓px_p1, ↓px_p2, ↓px_p3, ↓px_pop, px_k_0, px_k_s, px_k3_0, px_stk_, px_cats, px_ent, px_st1, px_st2, px_mask, ↓px_tsw, ↓px_lsw, ct_, mls_0, mls_1, mls_2, mls_3, mls_4, mls_5, kd_0, kd_1, kd_2, kd_3, ln_0, ln_1, ln_2, ln_3, gf_0, gf_1, gf_2, gf_3, gf_4, gf_7, gf_21, gf_63, dy_0, dy_1, dy_2, dy_3, dy_7, dy_21, px_brT, px_brF, true_and, and_true, and_false, false_and, and_self, true_implies, false_implies, or_true, true_or, or_false, false_or, eq_self, ne_eq, not_false_eq_true, not_true_eq_false, if_true, if_false, List.mem_cons, List.not_mem_nil, List.length_cons, List.length_nil, Nat.reduceEqDiff, Nat.reduceAdd, Nat.reduceSub, Nat.reduceLeDiff, Nat.reduceLT, Int.reduceEq, Int.reduceLT, Int.reduceLE, Int.reduceNeg, Int.reduceAdd, Int.reduceSub, Int.reduceToNat, ↓reduceIte, one_ne_zero_, zero_ne_one_, px_in32L, cd_43]
  repeat' (first | (with_reducible apply And.intro) | (with_reducible refine px_br_intro (fun _ => ?_) (fun _ => ?_)))
  all_goals (try (first | (unfold px_in32; omega) | omega))
  · rename_i c1 c2
    refine sp_xApp ⟨by omega, by omega⟩ (fun M' e1 e2 => ?_)
    simp only [px_go, px_Q0_at, px_sx_0, px_sx_s, px_cl, px_step, ↓px_ll, px_lg, f4_, ↓px_r1, ↓px_r2, ↓px_r4, ↓px_r5, ↓px_p1, ↓px_p2, ↓px_p3, ↓px_pop, px_k_0, px_k_s, px_k3_0, px_stk_, px_cats, px_ent, px_st1, px_st2, px_mask, ↓px_tsw, ↓px_lsw, ct_, mls_0, mls_1, mls_2, mls_3, mls_4, mls_5, kd_0, kd_1, kd_2, kd_3, ln_0, ln_1, ln_2, ln_3, gf_0, gf_1, gf_2, gf_3, gf_4, gf_7, gf_21, gf_63, dy_0, dy_1, dy_2, dy_3, dy_7, dy_21, px_brT, px_brF, true_and, and_true, and_false, false_and, and_self, true_implies, false_implies, or_true, true_or, or_false, false_or, eq_self, ne_eq, not_false_eq_true, not_true_eq_false, if_true, if_false, List.mem_cons, List.not_mem_nil, List.length_cons, List.length_nil, Nat.reduceEqDiff, Nat.reduceAdd, Nat.reduceSub, Nat.reduceLeDiff, Nat.reduceLT, Int.reduceEq, Int.reduceLT, Int.reduceLE, Int.reduceNeg, Int.reduceAdd, Int.reduceSub, Int.reduceToNat, ↓reduceIte, one_ne_zero_, zero_ne_one_, px_in32L, cd_43]
    repeat' (first | (with_reducible apply And.intro) | (with_reducible refine px_br_intro (fun _ => ?_) (fun _ => ?_)))
    all_goals (try (first | (unfold px_in32; omega) | omega))
    exact key (Or.inl c2) M' e1 e2
  · rename_i c1 c2 c3
    refine sp_xApp ⟨by omega, by omega⟩ (fun M' e1 e2 => ?_)
    simp only [px_go, px_Q0_at, px_sx_0, px_sx_s, px_cl, px_step, ↓px_ll, px_lg, f4_, ↓px_r1, ↓px_r2, ↓px_r4, ↓px_r5, ↓px_p1, ↓px_p2, ↓px_p3, ↓px_pop, px_k_0, px_k_s, px_k3_0, px_stk_, px_cats, px_ent, px_st1, px_st2, px_mask, ↓px_tsw, ↓px_lsw, ct_, mls_0, mls_1, mls_2, mls_3, mls_4, mls_5, kd_0, kd_1, kd_2, kd_3, ln_0, ln_1, ln_2, ln_3, gf_0, gf_1, gf_2, gf_3, gf_4, gf_7, gf_21, gf_63, dy_0, dy_1, dy_2, dy_3, dy_7, dy_21, px_brT, px_brF, true_and, and_true, and_false, false_and, and_self, true_implies, false_implies, or_true, true_or, or_false, false_or, eq_self, ne_eq, not_false_eq_true, not_true_eq_false, if_true, if_false, List.mem_cons, List.not_mem_nil, List.length_cons, List.length_nil, Nat.reduceEqDiff, Nat.reduceAdd, Nat.reduceSub, Nat.reduceLeDiff, Nat.reduceLT, Int.reduceEq, Int.reduceLT, Int.reduceLE, Int.reduceNeg, Int.reduceAdd, Int.reduceSub, Int.reduceToNat, ↓reduceIte, one_ne_zero_, zero_ne_one_, px_in32L, cd_43]
    repeat' (first | (with_reducible apply And.intro) | (with_reducible refine px_br_intro (fun _ => ?_) (fun _ => ?_)))
    all_goals (try (first | (unfold px_in32; omega) | omega))
    exact key (Or.inr c3) M' e1 e2
  · rename_i c1 c2 c3
    have e : dgU m u = [] := by unfold dgU; rw [if_neg (by omega)]
    rw [e, List.append_nil] at hx
    exact hx M h0 (fun _ _ => rfl)
set_option maxHeartbeats 600000 in
set_option maxRecDepth 100000 in
theorem sp_xDig {m : Int} {s : List Int} (hm : 0 ≤ m ∧ m < 65521) (hs : s.length ≤ 230) (h0 : lst (M 125) (s.length : Int) = s) (h : ∀ M', lst (M' 125) ((s ++ dig m).length : Int) = s ++ dig m → (∀ b, b ≠ 125 → M' b = M b) → Q (some (0, ((s ++ dig m).length : Int))) M') : px_Ok 43 [(2, 125), (0, (s.length : Int)), (0, m)] LAY M Q := by
  refine px_ok_go (inl := []) (ls0 := [(2, 125), (0, (s.length : Int)), (0, m), (9, 0), (9, 0)]) 60 (by decide) (Nat.le_of_ble_eq_true rfl) rfl ?_
  simp only [px_go, px_Q0_at, px_sx_0, px_sx_s, px_cl, px_step, ↓px_ll, px_lg, f4_, ↓px_r1, ↓px_r2, ↓px_r4, ↓px_r5, ↓px_p1, ↓px_p2, ↓px_p3, ↓px_pop, px_k_0, px_k_s, px_k3_0, px_stk_, px_cats, px_ent, px_st1, px_st2, px_mask, ↓px_tsw, ↓px_lsw, ct_, mls_0, mls_1, mls_2, mls_3, mls_4, mls_5, kd_0, kd_1, kd_2, kd_3, ln_0, ln_1, ln_2, ln_3, gf_0, gf_1, gf_2, gf_3, gf_4, gf_7, gf_21, gf_63, dy_0, dy_1, dy_2, dy_3, dy_7, dy_21, px_brT, px_brF, true_and, and_true, and_false, false_and, and_self, true_implies, false_implies, or_true, true_or, or_false, false_or, eq_self, ne_eq, not_false_eq_true, not_true_eq_false, if_true, if_false, List.mem_cons, List.not_mem_nil, List.length_cons, List.length_nil, Nat.reduceEqDiff, Nat.reduceAdd, Nat.reduceSub, Nat.reduceLeDiff, Nat.reduceLT, Int.reduceEq, Int.reduceLT, Int.reduceLE, Int.reduceNeg, Int.reduceAdd, Int.reduceSub, Int.reduceToNat, ↓reduceIte, one_ne_zero_, zero_ne_one_, px_in32L, cd_43]
  repeat' (first | (with_reducible apply And.intro) | (with_reducible refine px_br_intro (fun _ => ?_) (fun _ => ?_)))
  all_goals (try (first | (unfold px_in32; omega) | omega))
  have hl : ∀ u, (dgU m u).length ≤ 1 := fun u => by unfold dgU; split <;> simp
  refine lp_dg hm (by decide) (by omega) h0 (fun M1 a1 b1 => ?_)
  refine lp_dg hm (by decide) (by rw [List.length_append]; have := hl 10000; omega) a1 (fun M2 a2 b2 => ?_)
  refine lp_dg hm (by decide) (by simp only [List.length_append]; have := hl 10000; have := hl (10000 / 10); omega) a2 (fun M3 a3 b3 => ?_)
  refine lp_dg hm (by decide) (by simp only [List.length_append]; have := hl 10000; have := hl (10000 / 10); have := hl (10000 / 10 / 10); omega) a3 (fun M4 a4 b4 => ?_)
  refine lp_dg hm (by decide) (by simp only [List.length_append]; have := hl 10000; have := hl (10000 / 10); have := hl (10000 / 10 / 10); have := hl (10000 / 10 / 10 / 10); omega) a4 (fun M5 a5 b5 => ?_)
  have e : s ++ dgU m 10000 ++ dgU m (10000 / 10) ++ dgU m (10000 / 10 / 10) ++ dgU m (10000 / 10 / 10 / 10) ++ dgU m (10000 / 10 / 10 / 10 / 10) = s ++ dig m := by
    unfold dig
    rw [show (10000 : Int) / 10 = 1000 from rfl, show (1000 : Int) / 10 = 100 from rfl, show (100 : Int) / 10 = 10 from rfl, show (10 : Int) / 10 = 1 from rfl]
    simp only [List.append_assoc]
  rw [e] at a5 ⊢
  refine px_go_ok (inl := []) 60 ?_
  simp only [px_go, px_Q0_at, px_sx_0, px_sx_s, px_cl, px_step, ↓px_ll, px_lg, f4_, ↓px_r1, ↓px_r2, ↓px_r4, ↓px_r5, ↓px_p1, ↓px_p2, ↓px_p3, ↓px_pop, px_k_0, px_k_s, px_k3_0, px_stk_, px_cats, px_ent, px_st1, px_st2, px_mask, ↓px_tsw, ↓px_lsw, ct_, mls_0, mls_1, mls_2, mls_3, mls_4, mls_5, kd_0, kd_1, kd_2, kd_3, ln_0, ln_1, ln_2, ln_3, gf_0, gf_1, gf_2, gf_3, gf_4, gf_7, gf_21, gf_63, dy_0, dy_1, dy_2, dy_3, dy_7, dy_21, px_brT, px_brF, true_and, and_true, and_false, false_and, and_self, true_implies, false_implies, or_true, true_or, or_false, false_or, eq_self, ne_eq, not_false_eq_true, not_true_eq_false, if_true, if_false, List.mem_cons, List.not_mem_nil, List.length_cons, List.length_nil, Nat.reduceEqDiff, Nat.reduceAdd, Nat.reduceSub, Nat.reduceLeDiff, Nat.reduceLT, Int.reduceEq, Int.reduceLT, Int.reduceLE, Int.reduceNeg, Int.reduceAdd, Int.reduceSub, Int.reduceToNat, ↓reduceIte, one_ne_zero_, zero_ne_one_, px_in32L, cd_43]
  repeat' (first | (with_reducible apply And.intro) | (with_reducible refine px_br_intro (fun _ => ?_) (fun _ => ?_)))
  all_goals (try (first | (unfold px_in32; omega) | omega))
  exact h M5 a5 (fun b b0 => by rw [b5 b b0, b4 b b0, b3 b b0, b2 b b0, b1 b b0])
set_option maxHeartbeats 600000 in
set_option maxRecDepth 100000 in
theorem lp_tell2 {M0 : px_mem} {e i m : Int} {p s : List Int} (he : isE e) (hi : 0 ≤ i ∧ i < 12 ∧ i < M0 e 2) (hp : okp p) (hpe : M0 (e + 1) i = enc p) (hm : M0 58 (M0 (e + 2) i) = m) (hm2 : 0 ≤ m ∧ m < 65521) (hc : 0 ≤ M0 (e + 2) i ∧ M0 (e + 2) i < 40) (hs : s.length ≤ 209) (hx : ∀ M', lst (M' 125) ((s ++ tl1 p m).length : Int) = s ++ tl1 p m → (∀ b, b ≠ 125 → M' b = M0 b) → px_WP 41 0 0 (px_Q0 LAY Q) 5 [(2, e), (2, 125), (2, 56), (0, ((s ++ tl1 p m).length : Int)), (0, i + 1), (9, 0), (9, 0)] [] LAY M' 0 0) (k : Int) (hk_k : k ≤ (p.length:Int)) : ∀ (M : px_mem), 0 ≤ k → lst (M 125) ((s.length : Int) + k) = s ++ p.take k.toNat → (∀ b, b ≠ 125 → M b = M0 b) → px_WP 41 0 0 (px_Q0 LAY Q) 29 [(2, e), (2, 125), (2, 56), (0, (s.length : Int) + k), (0, i), (0, (p.length : Int)), (0, k)] [] LAY M 0 0 := by
  refine up_ind (P := fun k => ∀ (M : px_mem), 0 ≤ k → lst (M 125) ((s.length : Int) + k) = s ++ p.take k.toNat → (∀ b, b ≠ 125 → M b = M0 b) → px_WP 41 0 0 (px_Q0 LAY Q) 29 [(2, e), (2, 125), (2, 56), (0, (s.length : Int) + k), (0, i), (0, (p.length : Int)), (0, k)] [] LAY M 0 0) ((p.length:Int)) (fun k hk_k ih => ?_) k hk_k
  intro M k0 hl hf
  have hel := isE_lay he
  have heg := isE_gf he
  have hem := isE_m he
  have hpl := hp.2
  have f1 := hf (e + 1) (by omega)
  have f2 := hf (e + 2) (by omega)
  have f58 := hf 58 (by decide)
  refine px_go_ok (inl := []) 60 ?_
  simp only [px_go, px_Q0_at, px_sx_0, px_sx_s, px_cl, px_step, ↓px_ll, px_lg, f4_, ↓px_r1, ↓px_r2, ↓px_r4, ↓px_r5, ↓px_p1, ↓px_p2, ↓px_p3, ↓px_pop, px_k_0, px_k_s, px_k3_0, px_stk_, px_cats, px_ent, px_st1, px_st2, px_mask, ↓px_tsw, ↓px_lsw, ct_, mls_0, mls_1, mls_2, mls_3, mls_4, mls_5, kd_0, kd_1, kd_2, kd_3, ln_0, ln_1, ln_2, ln_3, gf_0, gf_1, gf_2, gf_3, gf_4, gf_7, gf_21, gf_63, dy_0, dy_1, dy_2, dy_3, dy_7, dy_21, px_brT, px_brF, true_and, and_true, and_false, false_and, and_self, true_implies, false_implies, or_true, true_or, or_false, false_or, eq_self, ne_eq, not_false_eq_true, not_true_eq_false, if_true, if_false, List.mem_cons, List.not_mem_nil, List.length_cons, List.length_nil, Nat.reduceEqDiff, Nat.reduceAdd, Nat.reduceSub, Nat.reduceLeDiff, Nat.reduceLT, Int.reduceEq, Int.reduceLT, Int.reduceLE, Int.reduceNeg, Int.reduceAdd, Int.reduceSub, Int.reduceToNat, ↓reduceIte, one_ne_zero_, zero_ne_one_, px_in32L, cd_41, hel, heg]
  repeat' (first | (with_reducible apply And.intro) | (with_reducible refine px_br_intro (fun _ => ?_) (fun _ => ?_)))
  all_goals (try (first | (unfold px_in32; omega) | omega))
  · rename_i c1
    have hk : k = p.length := by omega
    rw [hk, List.take_of_length_le (by omega)] at hl
    rw [hk]
    refine sp_xApp ⟨by omega, by omega⟩ (fun M1 a1 b1 => ?_)
    have g2 := b1 (e + 2) (by omega)
    have g58 := b1 58 (by decide)
    have g2c : M1 (e + 2) i = M0 (e + 2) i := by rw [g2, f2]
    simp only [px_go, px_Q0_at, px_sx_0, px_sx_s, px_cl, px_step, ↓px_ll, px_lg, f4_, ↓px_r1, ↓px_r2, ↓px_r4, ↓px_r5, ↓px_p1, ↓px_p2, ↓px_p3, ↓px_pop, px_k_0, px_k_s, px_k3_0, px_stk_, px_cats, px_ent, px_st1, px_st2, px_mask, ↓px_tsw, ↓px_lsw, ct_, mls_0, mls_1, mls_2, mls_3, mls_4, mls_5, kd_0, kd_1, kd_2, kd_3, ln_0, ln_1, ln_2, ln_3, gf_0, gf_1, gf_2, gf_3, gf_4, gf_7, gf_21, gf_63, dy_0, dy_1, dy_2, dy_3, dy_7, dy_21, px_brT, px_brF, true_and, and_true, and_false, false_and, and_self, true_implies, false_implies, or_true, true_or, or_false, false_or, eq_self, ne_eq, not_false_eq_true, not_true_eq_false, if_true, if_false, List.mem_cons, List.not_mem_nil, List.length_cons, List.length_nil, Nat.reduceEqDiff, Nat.reduceAdd, Nat.reduceSub, Nat.reduceLeDiff, Nat.reduceLT, Int.reduceEq, Int.reduceLT, Int.reduceLE, Int.reduceNeg, Int.reduceAdd, Int.reduceSub, Int.reduceToNat, ↓reduceIte, one_ne_zero_, zero_ne_one_, px_in32L, cd_41, hel, heg]
    repeat' (first | (with_reducible apply And.intro) | (with_reducible refine px_br_intro (fun _ => ?_) (fun _ => ?_)))
    all_goals (try (first | (unfold px_in32; omega) | omega))
    · skip
      have hlen1 : (s.length : Int) + p.length + 1 = ((s ++ p ++ [61]).length : Int) := by simp only [List.length_append, List.length_cons, List.length_nil]; omega
      rw [g2, f2, g58, f58, hm, hlen1]
      rw [hl, hlen1] at a1
      refine sp_xDig hm2 (by simp only [List.length_append, List.length_cons, List.length_nil]; omega) a1 (fun M2 a2 b2 => ?_)
      simp only [px_go, px_Q0_at, px_sx_0, px_sx_s, px_cl, px_step, ↓px_ll, px_lg, f4_, ↓px_r1, ↓px_r2, ↓px_r4, ↓px_r5, ↓px_p1, ↓px_p2, ↓px_p3, ↓px_pop, px_k_0, px_k_s, px_k3_0, px_stk_, px_cats, px_ent, px_st1, px_st2, px_mask, ↓px_tsw, ↓px_lsw, ct_, mls_0, mls_1, mls_2, mls_3, mls_4, mls_5, kd_0, kd_1, kd_2, kd_3, ln_0, ln_1, ln_2, ln_3, gf_0, gf_1, gf_2, gf_3, gf_4, gf_7, gf_21, gf_63, dy_0, dy_1, dy_2, dy_3, dy_7, dy_21, px_brT, px_brF, true_and, and_true, and_false, false_and, and_self, true_implies, false_implies, or_true, true_or, or_false, false_or, eq_self, ne_eq, not_false_eq_true, not_true_eq_false, if_true, if_false, List.mem_cons, List.not_mem_nil, List.length_cons, List.length_nil, Nat.reduceEqDiff, Nat.reduceAdd, Nat.reduceSub, Nat.reduceLeDiff, Nat.reduceLT, Int.reduceEq, Int.reduceLT, Int.reduceLE, Int.reduceNeg, Int.reduceAdd, Int.reduceSub, Int.reduceToNat, ↓reduceIte, one_ne_zero_, zero_ne_one_, px_in32L, cd_41, hel, heg]
      have hd := dig_len m
      refine sp_xApp ⟨by omega, by simp only [List.length_append, List.length_cons, List.length_nil]; omega⟩ (fun M3 a3 b3 => ?_)
      simp only [px_go, px_Q0_at, px_sx_0, px_sx_s, px_cl, px_step, ↓px_ll, px_lg, f4_, ↓px_r1, ↓px_r2, ↓px_r4, ↓px_r5, ↓px_p1, ↓px_p2, ↓px_p3, ↓px_pop, px_k_0, px_k_s, px_k3_0, px_stk_, px_cats, px_ent, px_st1, px_st2, px_mask, ↓px_tsw, ↓px_lsw, ct_, mls_0, mls_1, mls_2, mls_3, mls_4, mls_5, kd_0, kd_1, kd_2, kd_3, ln_0, ln_1, ln_2, ln_3, gf_0, gf_1, gf_2, gf_3, gf_4, gf_7, gf_21, gf_63, dy_0, dy_1, dy_2, dy_3, dy_7, dy_21, px_brT, px_brF, true_and, and_true, and_false, false_and, and_self, true_implies, false_implies, or_true, true_or, or_false, false_or, eq_self, ne_eq, not_false_eq_true, not_true_eq_false, if_true, if_false, List.mem_cons, List.not_mem_nil, List.length_cons, List.length_nil, Nat.reduceEqDiff, Nat.reduceAdd, Nat.reduceSub, Nat.reduceLeDiff, Nat.reduceLT, Int.reduceEq, Int.reduceLT, Int.reduceLE, Int.reduceNeg, Int.reduceAdd, Int.reduceSub, Int.reduceToNat, ↓reduceIte, one_ne_zero_, zero_ne_one_, px_in32L, cd_41, hel, heg]
      repeat' (first | (with_reducible apply And.intro) | (with_reducible refine px_br_intro (fun _ => ?_) (fun _ => ?_)))
      all_goals (try (first | (unfold px_in32; omega) | omega))
      rw [a2] at a3
      have e3 : s ++ p ++ [61] ++ dig m ++ [59] = s ++ tl1 p m := by unfold tl1; simp only [List.append_assoc]
      have e4 : ((s ++ p ++ [61] ++ dig m).length : Int) + 1 = ((s ++ tl1 p m).length : Int) := by rw [← e3]; simp only [List.length_append, List.length_cons, List.length_nil]; omega
      rw [e3, e4] at a3
      rw [e4]
      exact hx M3 a3 (fun b b0 => by rw [b3 b b0, b2 b b0, b1 b b0, hf b b0])
  · rename_i c1
    rw [f1, hpe]
    refine sp_byteOr hp.2 ?_
    simp only [px_go, px_Q0_at, px_sx_0, px_sx_s, px_cl, px_step, ↓px_ll, px_lg, f4_, ↓px_r1, ↓px_r2, ↓px_r4, ↓px_r5, ↓px_p1, ↓px_p2, ↓px_p3, ↓px_pop, px_k_0, px_k_s, px_k3_0, px_stk_, px_cats, px_ent, px_st1, px_st2, px_mask, ↓px_tsw, ↓px_lsw, ct_, mls_0, mls_1, mls_2, mls_3, mls_4, mls_5, kd_0, kd_1, kd_2, kd_3, ln_0, ln_1, ln_2, ln_3, gf_0, gf_1, gf_2, gf_3, gf_4, gf_7, gf_21, gf_63, dy_0, dy_1, dy_2, dy_3, dy_7, dy_21, px_brT, px_brF, true_and, and_true, and_false, false_and, and_self, true_implies, false_implies, or_true, true_or, or_false, false_or, eq_self, ne_eq, not_false_eq_true, not_true_eq_false, if_true, if_false, List.mem_cons, List.not_mem_nil, List.length_cons, List.length_nil, Nat.reduceEqDiff, Nat.reduceAdd, Nat.reduceSub, Nat.reduceLeDiff, Nat.reduceLT, Int.reduceEq, Int.reduceLT, Int.reduceLE, Int.reduceNeg, Int.reduceAdd, Int.reduceSub, Int.reduceToNat, ↓reduceIte, one_ne_zero_, zero_ne_one_, px_in32L, cd_41, hel, heg]
    refine sp_xApp ⟨by omega, by omega⟩ (fun M1 a1 b1 => ?_)
    simp only [px_go, px_Q0_at, px_sx_0, px_sx_s, px_cl, px_step, ↓px_ll, px_lg, f4_, ↓px_r1, ↓px_r2, ↓px_r4, ↓px_r5, ↓px_p1, ↓px_p2, ↓px_p3, ↓px_pop, px_k_0, px_k_s, px_k3_0, px_stk_, px_cats, px_ent, px_st1, px_st2, px_mask, ↓px_tsw, ↓px_lsw, ct_, mls_0, mls_1, mls_2, mls_3, mls_4, mls_5, kd_0, kd_1, kd_2, kd_3, ln_0, ln_1, ln_2, ln_3, gf_0, gf_1, gf_2, gf_3, gf_4, gf_7, gf_21, gf_63, dy_0, dy_1, dy_2, dy_3, dy_7, dy_21, px_brT, px_brF, true_and, and_true, and_false, false_and, and_self, true_implies, false_implies, or_true, true_or, or_false, false_or, eq_self, ne_eq, not_false_eq_true, not_true_eq_false, if_true, if_false, List.mem_cons, List.not_mem_nil, List.length_cons, List.length_nil, Nat.reduceEqDiff, Nat.reduceAdd, Nat.reduceSub, Nat.reduceLeDiff, Nat.reduceLT, Int.reduceEq, Int.reduceLT, Int.reduceLE, Int.reduceNeg, Int.reduceAdd, Int.reduceSub, Int.reduceToNat, ↓reduceIte, one_ne_zero_, zero_ne_one_, px_in32L, cd_41, hel, heg]
    repeat' (first | (with_reducible apply And.intro) | (with_reducible refine px_br_intro (fun _ => ?_) (fun _ => ?_)))
    all_goals (try (first | (unfold px_in32; omega) | omega))
    rw [show (s.length : Int) + k + 1 = (s.length : Int) + (k + 1) by omega] at a1 ⊢
    refine ih (by omega) M1 (by omega) ?_ (fun b b0 => by rw [b1 b b0, hf b b0])
    have hget : p[k.toNat]? = some (p[k.toNat]'(by omega)) := List.getElem?_eq_getElem (by omega)
    have hsg := sgA_at hget
    rw [Int.toNat_of_nonneg k0] at hsg
    rw [a1, hl, hsg, usg_sg (hp.1 _ (List.getElem_mem _)), show (k + 1).toNat = k.toNat + 1 by omega, List.take_succ, hget, List.append_assoc]
    rfl
set_option maxHeartbeats 600000 in
set_option maxRecDepth 100000 in
theorem lp_tell {M0 : px_mem} {e : Int} {pl : Int → List Int} (he : isE e) (hls : lsC M0 e pl) (hmk : ∀ c, 0 ≤ c → c < 40 → (∃ j, 0 ≤ j ∧ j < M0 e 2 ∧ M0 (e + 2) j = c) → 0 ≤ M0 58 c ∧ M0 58 c < 65521) (h : ∀ M', lst (M' 125) ((tl pl (fun j => M0 58 (M0 (e + 2) j)) (M0 e 2)).length : Int) = tl pl (fun j => M0 58 (M0 (e + 2) j)) (M0 e 2) → (∀ b, b ≠ 125 → M' b = M0 b) → Q (some (0, ((tl pl (fun j => M0 58 (M0 (e + 2) j)) (M0 e 2)).length : Int))) M') (i : Int) (hk_i : i ≤ M0 e 2) : ∀ (M : px_mem), 0 ≤ i → lst (M 125) ((tl pl (fun j => M0 58 (M0 (e + 2) j)) i).length : Int) = tl pl (fun j => M0 58 (M0 (e + 2) j)) i → (∀ b, b ≠ 125 → M b = M0 b) → px_WP 41 0 0 (px_Q0 LAY Q) 5 [(2, e), (2, 125), (2, 56), (0, ((tl pl (fun j => M0 58 (M0 (e + 2) j)) i).length : Int)), (0, i), (9, 0), (9, 0)] [] LAY M 0 0 := by
  refine up_ind (P := fun i => ∀ (M : px_mem), 0 ≤ i → lst (M 125) ((tl pl (fun j => M0 58 (M0 (e + 2) j)) i).length : Int) = tl pl (fun j => M0 58 (M0 (e + 2) j)) i → (∀ b, b ≠ 125 → M b = M0 b) → px_WP 41 0 0 (px_Q0 LAY Q) 5 [(2, e), (2, 125), (2, 56), (0, ((tl pl (fun j => M0 58 (M0 (e + 2) j)) i).length : Int)), (0, i), (9, 0), (9, 0)] [] LAY M 0 0) (M0 e 2) (fun i hk_i ih => ?_) i hk_i
  intro M i0 hl hf
  have hel := isE_lay he
  have heg := isE_gf he
  have hem := isE_m he
  have hn := hls.2.1
  have f0 := hf e (by omega)
  have f1 := hf (e + 1) (by omega)
  have htl := tl_len (pl := pl) (mk := fun j => M0 58 (M0 (e + 2) j)) (n := M0 e 2) (fun j j0 j1 => (hls.2.2 j j0 j1).1.2) i.toNat (by omega)
  rw [Int.toNat_of_nonneg i0] at htl
  refine px_go_ok (inl := []) 60 ?_
  simp only [px_go, px_Q0_at, px_sx_0, px_sx_s, px_cl, px_step, ↓px_ll, px_lg, f4_, ↓px_r1, ↓px_r2, ↓px_r4, ↓px_r5, ↓px_p1, ↓px_p2, ↓px_p3, ↓px_pop, px_k_0, px_k_s, px_k3_0, px_stk_, px_cats, px_ent, px_st1, px_st2, px_mask, ↓px_tsw, ↓px_lsw, ct_, mls_0, mls_1, mls_2, mls_3, mls_4, mls_5, kd_0, kd_1, kd_2, kd_3, ln_0, ln_1, ln_2, ln_3, gf_0, gf_1, gf_2, gf_3, gf_4, gf_7, gf_21, gf_63, dy_0, dy_1, dy_2, dy_3, dy_7, dy_21, px_brT, px_brF, true_and, and_true, and_false, false_and, and_self, true_implies, false_implies, or_true, true_or, or_false, false_or, eq_self, ne_eq, not_false_eq_true, not_true_eq_false, if_true, if_false, List.mem_cons, List.not_mem_nil, List.length_cons, List.length_nil, Nat.reduceEqDiff, Nat.reduceAdd, Nat.reduceSub, Nat.reduceLeDiff, Nat.reduceLT, Int.reduceEq, Int.reduceLT, Int.reduceLE, Int.reduceNeg, Int.reduceAdd, Int.reduceSub, Int.reduceToNat, ↓reduceIte, one_ne_zero_, zero_ne_one_, px_in32L, cd_41, hel, heg, f0]
  repeat' (first | (with_reducible apply And.intro) | (with_reducible refine px_br_intro (fun _ => ?_) (fun _ => ?_)))
  all_goals (try (first | (unfold px_in32; omega) | omega))
  · rename_i c1
    have hi : i = M0 e 2 := by omega
    rw [hi] at hl ⊢
    exact h M hl hf
  · rename_i c1
    have hj := hls.2.2 i i0 (by omega)
    rw [f1, hj.2.1]
    refine sp_lengthOf hj.1.2 hj.1.1 ?_
    simp only [px_go, px_Q0_at, px_sx_0, px_sx_s, px_cl, px_step, ↓px_ll, px_lg, f4_, ↓px_r1, ↓px_r2, ↓px_r4, ↓px_r5, ↓px_p1, ↓px_p2, ↓px_p3, ↓px_pop, px_k_0, px_k_s, px_k3_0, px_stk_, px_cats, px_ent, px_st1, px_st2, px_mask, ↓px_tsw, ↓px_lsw, ct_, mls_0, mls_1, mls_2, mls_3, mls_4, mls_5, kd_0, kd_1, kd_2, kd_3, ln_0, ln_1, ln_2, ln_3, gf_0, gf_1, gf_2, gf_3, gf_4, gf_7, gf_21, gf_63, dy_0, dy_1, dy_2, dy_3, dy_7, dy_21, px_brT, px_brF, true_and, and_true, and_false, false_and, and_self, true_implies, false_implies, or_true, true_or, or_false, false_or, eq_self, ne_eq, not_false_eq_true, not_true_eq_false, if_true, if_false, List.mem_cons, List.not_mem_nil, List.length_cons, List.length_nil, Nat.reduceEqDiff, Nat.reduceAdd, Nat.reduceSub, Nat.reduceLeDiff, Nat.reduceLT, Int.reduceEq, Int.reduceLT, Int.reduceLE, Int.reduceNeg, Int.reduceAdd, Int.reduceSub, Int.reduceToNat, ↓reduceIte, one_ne_zero_, zero_ne_one_, px_in32L, cd_41, hel, heg]
    have hts := tl_s (pl := pl) (mk := fun j => M0 58 (M0 (e + 2) j)) i0
    have hmm := hmk (M0 (e + 2) i) hj.2.2.1 hj.2.2.2 ⟨i, i0, by omega, rfl⟩
    have := lp_tell2 (M0 := M0) (Q := Q) (e := e) (i := i) (m := M0 58 (M0 (e + 2) i)) (p := pl i) (s := tl pl (fun j => M0 58 (M0 (e + 2) j)) i) he ⟨i0, by omega, by omega⟩ hj.1 hj.2.1 rfl hmm hj.2.2 (by omega) (fun M' a1 b1 => by
      rw [← hts] at a1 ⊢
      exact ih (by omega) M' (by omega) a1 b1) 0 (by omega) M (Int.le_refl 0) (by rw [Int.add_zero]; show _ = _ ++ []; rw [List.append_nil]; exact hl) hf
    rw [Int.add_zero] at this
    exact this
set_option maxHeartbeats 600000 in
set_option maxRecDepth 100000 in
theorem sp_tellInto {e : Int} {pl : Int → List Int} (he : isE e) (hls : lsC M e pl) (hmk : ∀ c, 0 ≤ c → c < 40 → (∃ j, 0 ≤ j ∧ j < M e 2 ∧ M (e + 2) j = c) → 0 ≤ M 58 c ∧ M 58 c < 65521) (h : ∀ M', lst (M' 125) ((tl pl (fun j => M 58 (M (e + 2) j)) (M e 2)).length : Int) = tl pl (fun j => M 58 (M (e + 2) j)) (M e 2) → (∀ b, b ≠ 125 → M' b = M b) → Q (some (0, ((tl pl (fun j => M 58 (M (e + 2) j)) (M e 2)).length : Int))) M') : px_Ok 41 [(2, e), (2, 125), (2, 56)] LAY M Q := by
  refine px_ok_go (inl := []) (ls0 := [(2, e), (2, 125), (2, 56), (9, 0), (9, 0), (9, 0), (9, 0)]) 60 (by decide) (Nat.le_of_ble_eq_true rfl) rfl ?_
  simp only [px_go, px_Q0_at, px_sx_0, px_sx_s, px_cl, px_step, ↓px_ll, px_lg, f4_, ↓px_r1, ↓px_r2, ↓px_r4, ↓px_r5, ↓px_p1, ↓px_p2, ↓px_p3, ↓px_pop, px_k_0, px_k_s, px_k3_0, px_stk_, px_cats, px_ent, px_st1, px_st2, px_mask, ↓px_tsw, ↓px_lsw, ct_, mls_0, mls_1, mls_2, mls_3, mls_4, mls_5, kd_0, kd_1, kd_2, kd_3, ln_0, ln_1, ln_2, ln_3, gf_0, gf_1, gf_2, gf_3, gf_4, gf_7, gf_21, gf_63, dy_0, dy_1, dy_2, dy_3, dy_7, dy_21, px_brT, px_brF, true_and, and_true, and_false, false_and, and_self, true_implies, false_implies, or_true, true_or, or_false, false_or, eq_self, ne_eq, not_false_eq_true, not_true_eq_false, if_true, if_false, List.mem_cons, List.not_mem_nil, List.length_cons, List.length_nil, Nat.reduceEqDiff, Nat.reduceAdd, Nat.reduceSub, Nat.reduceLeDiff, Nat.reduceLT, Int.reduceEq, Int.reduceLT, Int.reduceLE, Int.reduceNeg, Int.reduceAdd, Int.reduceSub, Int.reduceToNat, ↓reduceIte, one_ne_zero_, zero_ne_one_, px_in32L, cd_41]
  repeat' (first | (with_reducible apply And.intro) | (with_reducible refine px_br_intro (fun _ => ?_) (fun _ => ?_)))
  all_goals (try (first | (unfold px_in32; omega) | omega))
  exact lp_tell (M0 := M) he hls hmk h 0 hls.1 M (Int.le_refl 0) rfl (fun _ _ => rfl)
end PS
