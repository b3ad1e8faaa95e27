set_option maxRecDepth 100000 in
/-- X12_reads -/
theorem cd_193 : px_at 193 0 = some (1, [], .iconst 0, []) ∧ px_at 193 1 = some (2, [], .istore_n 2, []) ∧ px_at 193 2 = some (3, [], .aload_n 0, []) ∧ px_at 193 3 = some (6, [], .getfield 35, [11, 10, 2, 1, 135]) ∧ px_at 193 6 = some (7, [], .iconst 0, []) ∧ px_at 193 7 = some (8, [], .iload_n 1, []) ∧ px_at 193 8 = some (9, [], .iastore, []) ∧ px_at 193 9 = some (10, [1, 0, 1, 0], .aload_n 0, []) ∧ px_at 193 10 = some (11, [], .aload_n 0, []) ∧ px_at 193 11 = some (14, [], .getfield 35, [11, 10, 2, 1, 135]) ∧ px_at 193 14 = some (15, [], .iload_n 2, []) ∧ px_at 193 15 = some (16, [], .iaload, []) ∧ px_at 193 16 = some (17, [], .iconst 5, []) ∧ px_at 193 17 = some (20, [], .invokevirtual 109, [187, 2, 11, 259]) ∧ px_at 193 20 = some (22, [], .bipush (-2), []) ∧ px_at 193 22 = some (25, [], .if_icmp .eq 29, [51]) ∧ px_at 193 25 = some (26, [], .aload_n 0, []) ∧ px_at 193 26 = some (29, [], .getfield 35, [11, 10, 2, 1, 135]) ∧ px_at 193 29 = some (30, [], .iload_n 2, []) ∧ px_at 193 30 = some (31, [], .iconst 1, []) ∧ px_at 193 31 = some (32, [], .iadd, []) ∧ px_at 193 32 = some (33, [], .aload_n 0, []) ∧ px_at 193 33 = some (34, [], .aload_n 0, []) ∧ px_at 193 34 = some (37, [], .getfield 35, [11, 10, 2, 1, 135]) ∧ px_at 193 37 = some (38, [], .iload_n 2, []) ∧ px_at 193 38 = some (39, [], .iaload, []) ∧ px_at 193 39 = some (40, [], .iconst 5, []) ∧ px_at 193 40 = some (43, [], .invokevirtual 109, [187, 2, 11, 259]) ∧ px_at 193 43 = some (44, [], .iastore, []) ∧ px_at 193 44 = some (45, [], .iload_n 2, []) ∧ px_at 193 45 = some (46, [], .iconst 1, []) ∧ px_at 193 46 = some (47, [], .iadd, []) ∧ px_at 193 47 = some (48, [], .istore_n 2, []) ∧ px_at 193 48 = some (51, [], .goto (-39), [9]) ∧ px_at 193 51 = some (52, [], .aload_n 0, []) ∧ px_at 193 52 = some (53, [], .aload_n 0, []) ∧ px_at 193 53 = some (54, [], .aload_n 0, []) ∧ px_at 193 54 = some (57, [], .getfield 35, [11, 10, 2, 1, 135]) ∧ px_at 193 57 = some (58, [], .iload_n 2, []) ∧ px_at 193 58 = some (59, [], .iaload, []) ∧ px_at 193 59 = some (60, [], .iconst 1, []) ∧ px_at 193 60 = some (63, [], .invokevirtual 109, [187, 2, 11, 259]) ∧ px_at 193 63 = some (66, [], .putfield 115, [11, 9, 0, 0, 134]) ∧ px_at 193 66 = some (67, [], .iconst 0, []) ∧ px_at 193 67 = some (68, [], .istore_n 3, []) ∧ px_at 193 68 = some (69, [1, 0, 1, 1], .iload_n 3, []) ∧ px_at 193 69 = some (70, [], .aload_n 0, []) ∧ px_at 193 70 = some (73, [], .getfield 115, [11, 9, 0, 0, 134]) ∧ px_at 193 73 = some (76, [], .if_icmp .ge 37, [110]) ∧ px_at 193 76 = some (77, [], .aload_n 0, []) ∧ px_at 193 77 = some (80, [], .getfield 29, [11, 7, 2, 1, 132]) ∧ px_at 193 80 = some (81, [], .iload_n 3, []) ∧ px_at 193 81 = some (82, [], .aload_n 0, []) ∧ px_at 193 82 = some (85, [], .getfield 7, [11, 0, 2, 1, 125]) ∧ px_at 193 85 = some (88, [], .sipush 894, []) ∧ px_at 193 88 = some (89, [], .aload_n 0, []) ∧ px_at 193 89 = some (90, [], .aload_n 0, []) ∧ px_at 193 90 = some (93, [], .getfield 35, [11, 10, 2, 1, 135]) ∧ px_at 193 93 = some (94, [], .iload_n 2, []) ∧ px_at 193 94 = some (95, [], .iaload, []) ∧ px_at 193 95 = some (96, [], .iconst 3, []) ∧ px_at 193 96 = some (99, [], .invokevirtual 109, [187, 2, 11, 259]) ∧ px_at 193 99 = some (100, [], .iadd, []) ∧ px_at 193 100 = some (101, [], .iload_n 3, []) ∧ px_at 193 101 = some (102, [], .iadd, []) ∧ px_at 193 102 = some (103, [], .iaload, []) ∧ px_at 193 103 = some (104, [], .iastore, []) ∧ px_at 193 104 = some (107, [], .iinc 3 1, []) ∧ px_at 193 107 = some (110, [], .goto (-39), [68]) ∧ px_at 193 110 = some (111, [], .iload_n 2, []) ∧ px_at 193 111 = some (112, [], .iconst 1, []) ∧ px_at 193 112 = some (113, [], .isub, []) ∧ px_at 193 113 = some (114, [], .istore_n 3, []) ∧ px_at 193 114 = some (115, [1, 0, 0, 1], .iload_n 3, []) ∧ px_at 193 115 = some (118, [], .ifCond .lt 28, [143]) ∧ px_at 193 118 = some (119, [], .aload_n 0, []) ∧ px_at 193 119 = some (120, [], .aload_n 0, []) ∧ px_at 193 120 = some (123, [], .getfield 35, [11, 10, 2, 1, 135]) ∧ px_at 193 123 = some (124, [], .iload_n 3, []) ∧ px_at 193 124 = some (125, [], .iaload, []) ∧ px_at 193 125 = some (126, [], .aload_n 0, []) ∧ px_at 193 126 = some (129, [], .getfield 115, [11, 9, 0, 0, 134]) ∧ px_at 193 129 = some (132, [], .invokevirtual 118, [192, 2, 11, 260]) ∧ px_at 193 132 = some (135, [], .ifCond .ne 5, [137]) ∧ px_at 193 135 = some (136, [], .iconst 0, []) ∧ px_at 193 136 = some (137, [], .ireturn, [4]) ∧ px_at 193 137 = some (140, [], .iinc 3 (-1), []) ∧ px_at 193 140 = some (143, [], .goto (-26), [114]) ∧ px_at 193 143 = some (144, [], .iconst 1, []) ∧ px_at 193 144 = some (145, [], .ireturn, [4]) := ⟨rfl, rfl, rfl, rfl, rfl, rfl, rfl, rfl, rfl, rfl, rfl, rfl, rfl, rfl, rfl, rfl, rfl, rfl, rfl, rfl, rfl, rfl, rfl, rfl, rfl, rfl, rfl, rfl, rfl, rfl, rfl, rfl, rfl, rfl, rfl, rfl, rfl, rfl, rfl, rfl, rfl, rfl, rfl, rfl, rfl, rfl, rfl, rfl, rfl, rfl, rfl, rfl, rfl, rfl, rfl, rfl, rfl, rfl, rfl, rfl, rfl, rfl, rfl, rfl, rfl, rfl, rfl, rfl, rfl, rfl, rfl, rfl, rfl, rfl, rfl, rfl, rfl, rfl, rfl, rfl, rfl, rfl, rfl, rfl, rfl, rfl, rfl, rfl, rfl, rfl⟩
set_option maxRecDepth 100000 in
/-- X12_isWhole -/
theorem cd_194 : px_at 194 0 = some (1, [], .aload_n 0, []) ∧ px_at 194 1 = some (2, [], .iload_n 1, []) ∧ px_at 194 2 = some (5, [], .invokevirtual 122, [193, 1, 11, 258]) ∧ px_at 194 5 = some (8, [], .ifCond .eq 28, [33]) ∧ px_at 194 8 = some (9, [], .aload_n 0, []) ∧ px_at 194 9 = some (12, [], .getfield 29, [11, 7, 2, 1, 132]) ∧ px_at 194 12 = some (13, [], .iconst 0, []) ∧ px_at 194 13 = some (14, [], .aload_n 0, []) ∧ px_at 194 14 = some (17, [], .getfield 115, [11, 9, 0, 0, 134]) ∧ px_at 194 17 = some (20, [], .invokestatic 125, [186, 3, 11, 262]) ∧ px_at 194 20 = some (21, [], .aload_n 0, []) ∧ px_at 194 21 = some (22, [], .iload_n 1, []) ∧ px_at 194 22 = some (23, [], .iconst 2, []) ∧ px_at 194 23 = some (26, [], .invokevirtual 109, [187, 2, 11, 259]) ∧ px_at 194 26 = some (29, [], .if_icmp .ne 7, [33]) ∧ px_at 194 29 = some (30, [], .iconst 1, []) ∧ px_at 194 30 = some (33, [], .goto 4, [34]) ∧ px_at 194 33 = some (34, [], .iconst 0, []) ∧ px_at 194 34 = some (35, [], .ireturn, [4]) := ⟨rfl, rfl, rfl, rfl, rfl, rfl, rfl, rfl, rfl, rfl, rfl, rfl, rfl, rfl, rfl, rfl, rfl, rfl, rfl⟩
/-! the reference: reading a content with its bases -/
section PV
variable {M : px_mem} {Q : Option pv → px_mem → Prop}
set_option maxHeartbeats 600000 in
set_option maxRecDepth 100000 in
theorem lp_rplain {M0 : px_mem} {c d n s : Int} (hn : M0 127 9 = n) (hn2 : 0 ≤ n ∧ n ≤ 40) (hd : 0 ≤ d ∧ d < 4) (hc : M0 136 d = c) (hc2 : 0 ≤ c ∧ c < 40) (hs : rC (M0 128) c 3 = s) (hs2 : 0 ≤ s ∧ s + n ≤ 400) (hx : ∀ M', lst (M' 134) n = lst (fun j => M0 128 (894 + (s + j))) n → (∀ b, b ≠ 134 → M' b = M0 b) → px_WP 193 0 0 (px_Q0 LAY Q) 114 [(2, 127), (9, 0), (9, 0), (0, d - 1)] [] LAY M' 0 0) (k : Int) (hk_k : k ≤ n) : ∀ (M : px_mem), 0 ≤ k → lst (M 134) k = lst (fun j => M0 128 (894 + (s + j))) k → (∀ b, b ≠ 134 → M b = M0 b) → px_WP 193 0 0 (px_Q0 LAY Q) 68 [(2, 127), (9, 0), (0, d), (0, k)] [] LAY M 0 0 := by
  refine up_ind (P := fun k => ∀ (M : px_mem), 0 ≤ k → lst (M 134) k = lst (fun j => M0 128 (894 + (s + j))) k → (∀ b, b ≠ 134 → M b = M0 b) → px_WP 193 0 0 (px_Q0 LAY Q) 68 [(2, 127), (9, 0), (0, d), (0, k)] [] LAY M 0 0) (n) (fun k hk_k ih => ?_) k hk_k
  intro M k0 ha hf
  have h127 := hf 127 (by decide)
  have h128 := hf 128 (by decide)
  have h136 := hf 136 (by decide)
  refine px_go_ok (inl := []) 60 ?_
  simp only [px_go, px_Q0_at, px_sx_0, px_sx_s, px_cl, px_step, ↓px_ll, px_lg, f4_, ↓px_r1, ↓px_r2, ↓px_r4, ↓px_r5, ↓px_p1, ↓px_p2, ↓px_p3, ↓px_pop, px_k_0, px_k_s, px_k3_0, px_stk_, px_cats, px_ent, px_st1, px_st2, px_mask, ↓px_tsw, ↓px_lsw, ct_, mls_0, mls_1, mls_2, mls_3, mls_4, mls_5, kd_0, kd_1, kd_2, kd_3, ln_0, ln_1, ln_2, ln_3, gf_0, gf_1, gf_2, gf_3, gf_4, gf_7, gf_21, gf_63, dy_0, dy_1, dy_2, dy_3, dy_7, dy_21, px_brT, px_brF, true_and, and_true, and_false, false_and, and_self, true_implies, false_implies, or_true, true_or, or_false, false_or, eq_self, ne_eq, not_false_eq_true, not_true_eq_false, if_true, if_false, List.mem_cons, List.not_mem_nil, List.length_cons, List.length_nil, Nat.reduceEqDiff, Nat.reduceAdd, Nat.reduceSub, Nat.reduceLeDiff, Nat.reduceLT, Int.reduceEq, Int.reduceLT, Int.reduceLE, Int.reduceNeg, Int.reduceAdd, Int.reduceSub, Int.reduceToNat, ↓reduceIte, one_ne_zero_, zero_ne_one_, px_in32L, cd_193, h127, h128, h136, hn, hc]
  repeat' (first | (with_reducible apply And.intro) | (with_reducible refine px_br_intro (fun _ => ?_) (fun _ => ?_)))
  all_goals (try (first | (unfold px_in32; omega) | omega))
  · have q : k = n := by omega
    subst q
    exact hx M ha hf
  · refine sp_partOf hc2 (by decide) ?_
    rw [h128, hs]
    simp only [px_go, px_Q0_at, px_sx_0, px_sx_s, px_cl, px_step, ↓px_ll, px_lg, f4_, ↓px_r1, ↓px_r2, ↓px_r4, ↓px_r5, ↓px_p1, ↓px_p2, ↓px_p3, ↓px_pop, px_k_0, px_k_s, px_k3_0, px_stk_, px_cats, px_ent, px_st1, px_st2, px_mask, ↓px_tsw, ↓px_lsw, ct_, mls_0, mls_1, mls_2, mls_3, mls_4, mls_5, kd_0, kd_1, kd_2, kd_3, ln_0, ln_1, ln_2, ln_3, gf_0, gf_1, gf_2, gf_3, gf_4, gf_7, gf_21, gf_63, dy_0, dy_1, dy_2, dy_3, dy_7, dy_21, px_brT, px_brF, true_and, and_true, and_false, false_and, and_self, true_implies, false_implies, or_true, true_or, or_false, false_or, eq_self, ne_eq, not_false_eq_true, not_true_eq_false, if_true, if_false, List.mem_cons, List.not_mem_nil, List.length_cons, List.length_nil, Nat.reduceEqDiff, Nat.reduceAdd, Nat.reduceSub, Nat.reduceLeDiff, Nat.reduceLT, Int.reduceEq, Int.reduceLT, Int.reduceLE, Int.reduceNeg, Int.reduceAdd, Int.reduceSub, Int.reduceToNat, ↓reduceIte, one_ne_zero_, zero_ne_one_, px_in32L, cd_193, h127, h128, h136, hn, hc]
    repeat' (first | (with_reducible apply And.intro) | (with_reducible refine px_br_intro (fun _ => ?_) (fun _ => ?_)))
    all_goals (try (first | (unfold px_in32; omega) | omega))
    refine ih (by omega) _ (by omega) ?_ (fun b b0 => by rw [row_ne b0]; exact hf b b0)
    rw [lst_up M 134 _ (by omega), ha, lst_snoc (f := fun j => M0 128 (894 + (s + j))) k0, show (894 : Int) + s + k = 894 + (s + k) by omega]
end PV
/-! the bytes of a content, as the reference keeps them -/
def rB (F : Int → Int) (c : Int) : Option (List Int) := rd (rC F) (fun k => F (894 + k)) 5 c
def rok (F dd : Int → Int) : Prop := cw (rC F) dd ∧ bw (fun k => F (894 + k))
theorem rB_len {F dd : Int → Int} (h : rok F dd) {c : Int} (c0 : 0 ≤ c) (c1 : c < 40) (c2 : 0 ≤ dd c) {l : List Int} (hl : rB F c = some l) : (l.length : Int) = rC F c 1 ∧ (l.length : Int) ≤ 40 ∧ ∀ b ∈ l, 0 ≤ b ∧ b < 256 := by
  have h1 := rd_rng h.1 h.2 5 c l c0 c1 c2 hl
  have h2 := h.1 c c0 c1 c2
  unfold cok at h2
  exact ⟨h1.1, by omega, h1.2⟩
theorem rB_plain {F dd : Int → Int} (h : rok F dd) {c : Int} (c0 : 0 ≤ c) (c1 : c < 40) (c2 : 0 ≤ dd c) (hb : rC F c 5 < 0) : rB F c = some (lst (fun k => F (894 + (rC F c 3 + k))) (rC F c 1)) := by
  unfold rB
  rw [rd_eq h.1 c0 c1 c2, if_pos hb]
theorem rB_up {F dd B : Int → Int} (h : rok F dd) {c b : Int} {l : List Int} (c0 : 0 ≤ c) (c1 : c < 40) (c2 : 0 ≤ dd c) (hb : rC F c 5 = b) (b0 : 0 ≤ b) (b1 : b < 40) (b2 : 0 ≤ dd b) (hl : rB F b = some l) (hB : lst B (l.length : Int) = l) : rB F c = dp (fun k => F (894 + k)) B (l.length : Int) (rC F c 3 + rC F c 4) (rC F c 1) 401 (rC F c 3) [] := by
  have hn := (rB_len h b0 b1 b2 hl).1
  unfold rB at hl ⊢
  rw [rd_eq h.1 c0 c1 c2, hb, if_neg (by omega), hl, ← hn]
  refine dp_congr (fun _ _ _ => rfl) (fun k k0 k1 => ?_)
  have := nth_lst (f := B) k0 k1
  rw [hB] at this
  exact this
theorem rB_dn {F dd : Int → Int} (h : rok F dd) {c b : Int} (c0 : 0 ≤ c) (c1 : c < 40) (c2 : 0 ≤ dd c) (hb : rC F c 5 = b) (b0 : 0 ≤ b) (hl : rB F b = none) : rB F c = none := by
  unfold rB at hl ⊢
  rw [rd_eq h.1 c0 c1 c2, hb, if_neg (by omega), hl]
/-- bases, one behind the other -/
def chn (ct : Int → Int → Int) (c : Int) : Nat → Int
  | 0 => c
  | k + 1 => ct (chn ct c k) 5
theorem chn_ok {ct : Int → Int → Int} {dd : Int → Int} (hw : cw ct dd) {c : Int} (c0 : 0 ≤ c) (c1 : c < 40) (c2 : 0 ≤ dd c) : ∀ k : Nat, (k : Int) ≤ dd c → 0 ≤ chn ct c k ∧ chn ct c k < 40 ∧ dd (chn ct c k) = dd c - k := by
  intro k
  induction k with
  | zero => intro _; exact ⟨c0, c1, by show dd c = _; omega⟩
  | succ k ih =>
    intro hk
    obtain ⟨a1, a2, a3⟩ := ih (by omega)
    have hc := hw _ a1 a2 (by omega)
    unfold cok at hc
    show 0 ≤ ct (chn ct c k) 5 ∧ ct (chn ct c k) 5 < 40 ∧ dd (ct (chn ct c k) 5) = _
    omega
theorem chn_none {F dd : Int → Int} (h : rok F dd) {c : Int} (c0 : 0 ≤ c) (c1 : c < 40) (c2 : 0 ≤ dd c) : ∀ k : Nat, (k : Int) ≤ dd c → rB F (chn (rC F) c k) = none → rB F c = none := by
  intro k
  induction k with
  | zero => intro _ h; exact h
  | succ k ih =>
    intro hk hn
    have a := chn_ok h.1 c0 c1 c2 k (by omega)
    have b := chn_ok h.1 c0 c1 c2 (k + 1) hk
    exact ih (by omega) (rB_dn h a.1 a.2.1 (by omega) rfl b.1 hn)
/-- what reading leaves alone -/
def frd (M' M : px_mem) : Prop := (∀ j, j ≠ 9 → M' 127 j = M 127 j) ∧ ∀ b, b ≠ 127 → b ≠ 134 → b ≠ 135 → b ≠ 136 → M' b = M b
theorem frd_refl (M : px_mem) : frd M M := ⟨fun _ _ => rfl, fun _ _ _ _ _ => rfl⟩
theorem frd_trans {A B C : px_mem} (h : frd A B) (h2 : frd B C) : frd A C := ⟨fun j j0 => by rw [h.1 j j0, h2.1 j j0], fun b b0 b1 b2 b3 => by rw [h.2 b b0 b1 b2 b3, h2.2 b b0 b1 b2 b3]⟩
theorem frd_128 {A B : px_mem} (h : frd A B) : A 128 = B 128 := h.2 128 (by decide) (by decide) (by decide) (by decide)
section PW
variable {M : px_mem} {Q : Option pv → px_mem → Prop}
set_option maxHeartbeats 600000 in
set_option maxRecDepth 100000 in
theorem lp_rup {M0 : px_mem} {dd : Int → Int} {c : Int} (hr : rok (M0 128) dd) (hc : 0 ≤ c ∧ c < 40 ∧ 0 ≤ dd c) (h136 : ∀ j : Nat, (j : Int) ≤ dd c → M0 136 j = chn (rC (M0 128)) c j) (h1 : ∀ M' l, rB (M0 128) c = some l → lst (M' 134) (l.length : Int) = l → M' 127 9 = (l.length : Int) → frd M' M0 → Q (some (0, 1)) M') (h0 : ∀ M', rB (M0 128) c = none → frd M' M0 → Q (some (0, 0)) M') (i : Int) (hk_i : -1 ≤ i) : ∀ (M : px_mem) (l : List Int), i < dd c → rB (M0 128) (chn (rC (M0 128)) c (i + 1).toNat) = some l → lst (M 134) (l.length : Int) = l → M 127 9 = (l.length : Int) → (∀ j, j ≠ 9 → M 127 j = M0 127 j) → (∀ b, b ≠ 127 → b ≠ 134 → b ≠ 135 → M b = M0 b) → px_WP 193 0 0 (px_Q0 LAY Q) 114 [(2, 127), (9, 0), (9, 0), (0, i)] [] LAY M 0 0 := by
  refine dn_ind (P := fun i => ∀ (M : px_mem) (l : List Int), i < dd c → rB (M0 128) (chn (rC (M0 128)) c (i + 1).toNat) = some l → lst (M 134) (l.length : Int) = l → M 127 9 = (l.length : Int) → (∀ j, j ≠ 9 → M 127 j = M0 127 j) → (∀ b, b ≠ 127 → b ≠ 134 → b ≠ 135 → M b = M0 b) → px_WP 193 0 0 (px_Q0 LAY Q) 114 [(2, 127), (9, 0), (9, 0), (0, i)] [] LAY M 0 0) (-1) (fun i hk_i ih => ?_) i hk_i
  intro M l im hl hlm h9 hj hf
  have h3 := (hr.1 c hc.1 hc.2.1 hc.2.2).1
  have e128 := hf 128 (by decide) (by decide) (by decide)
  have e136 := hf 136 (by decide) (by decide) (by decide)
  refine px_go_ok (inl := []) 60 ?_
  simp only [px_go, px_Q0_at, px_sx_0, px_sx_s, px_cl, px_step, ↓px_ll, px_lg, f4_, ↓px_r1, ↓px_r2, ↓px_r4, ↓px_r5, ↓px_p1, ↓px_p2, ↓px_p3, ↓px_pop, px_k_0, px_k_s, px_k3_0, px_stk_, px_cats, px_ent, px_st1, px_st2, px_mask, ↓px_tsw, ↓px_lsw, ct_, mls_0, mls_1, mls_2, mls_3, mls_4, mls_5, kd_0, kd_1, kd_2, kd_3, ln_0, ln_1, ln_2, ln_3, gf_0, gf_1, gf_2, gf_3, gf_4, gf_7, gf_21, gf_63, dy_0, dy_1, dy_2, dy_3, dy_7, dy_21, px_brT, px_brF, true_and, and_true, and_false, false_and, and_self, true_implies, false_implies, or_true, true_or, or_false, false_or, eq_self, ne_eq, not_false_eq_true, not_true_eq_false, if_true, if_false, List.mem_cons, List.not_mem_nil, List.length_cons, List.length_nil, Nat.reduceEqDiff, Nat.reduceAdd, Nat.reduceSub, Nat.reduceLeDiff, Nat.reduceLT, Int.reduceEq, Int.reduceLT, Int.reduceLE, Int.reduceNeg, Int.reduceAdd, Int.reduceSub, Int.reduceToNat, ↓reduceIte, one_ne_zero_, zero_ne_one_, px_in32L, cd_193]
  repeat' (first | (with_reducible apply And.intro) | (with_reducible refine px_br_intro (fun _ => ?_) (fun _ => ?_)))
  all_goals (try (first | (unfold px_in32; omega) | omega))
  · rename_i c1
    have e : i = -1 := by omega
    subst e
    exact h1 M l hl hlm h9 ⟨hj, fun b b0 b1 b2 _ => hf b b0 b1 b2⟩
  · rename_i c1
    have hi := chn_ok hr.1 hc.1 hc.2.1 hc.2.2 i.toNat (by omega)
    have hi1 := chn_ok hr.1 hc.1 hc.2.1 hc.2.2 (i + 1).toNat (by omega)
    have hk := hr.1 _ hi.1 hi.2.1 (by omega)
    unfold cok at hk
    have hl2 := rB_len hr hi1.1 hi1.2.1 (by omega) hl
    have hb : rC (M0 128) (chn (rC (M0 128)) c i.toNat) 5 = chn (rC (M0 128)) c (i + 1).toNat := by
      rw [show (i + 1).toNat = i.toNat + 1 by omega]; rfl
    have hm := h136 i.toNat (by omega)
    rw [Int.toNat_of_nonneg (by omega)] at hm
    have hup := rB_up hr hi.1 hi.2.1 (by omega) hb hi1.1 hi1.2.1 (by omega) hl hlm
    rw [e136, hm, h9]
    refine sp_readsPieces ⟨hi.1, hi.2.1⟩ (by rw [e128]; omega) (by rw [e128]; omega) (by omega) (by rw [e128]; exact hr.2) (fun M' l' a1 a2 a9 a3 a4 => ?_) (fun M' a1 a3 a4 => ?_)
    · rw [e128, ← hup] at a1
      rw [e128] at a2 a9
      have hl' := rB_len hr hi.1 hi.2.1 (by omega) a1
      simp only [px_go, px_Q0_at, px_sx_0, px_sx_s, px_cl, px_step, ↓px_ll, px_lg, f4_, ↓px_r1, ↓px_r2, ↓px_r4, ↓px_r5, ↓px_p1, ↓px_p2, ↓px_p3, ↓px_pop, px_k_0, px_k_s, px_k3_0, px_stk_, px_cats, px_ent, px_st1, px_st2, px_mask, ↓px_tsw, ↓px_lsw, ct_, mls_0, mls_1, mls_2, mls_3, mls_4, mls_5, kd_0, kd_1, kd_2, kd_3, ln_0, ln_1, ln_2, ln_3, gf_0, gf_1, gf_2, gf_3, gf_4, gf_7, gf_21, gf_63, dy_0, dy_1, dy_2, dy_3, dy_7, dy_21, px_brT, px_brF, true_and, and_true, and_false, false_and, and_self, true_implies, false_implies, or_true, true_or, or_false, false_or, eq_self, ne_eq, not_false_eq_true, not_true_eq_false, if_true, if_false, List.mem_cons, List.not_mem_nil, List.length_cons, List.length_nil, Nat.reduceEqDiff, Nat.reduceAdd, Nat.reduceSub, Nat.reduceLeDiff, Nat.reduceLT, Int.reduceEq, Int.reduceLT, Int.reduceLE, Int.reduceNeg, Int.reduceAdd, Int.reduceSub, Int.reduceToNat, ↓reduceIte, one_ne_zero_, zero_ne_one_, px_in32L, cd_193]
      repeat' (first | (with_reducible apply And.intro) | (with_reducible refine px_br_intro (fun _ => ?_) (fun _ => ?_)))
      all_goals (try (first | (unfold px_in32; omega) | omega))
      refine ih (by omega) M' l' (by omega) (by rw [show i - 1 + 1 = i by omega]; exact a1) (by rw [hl'.1]; exact a2) (by rw [hl'.1]; exact a9) (fun j j0 => by rw [a3 j j0, hj j j0]) (fun b b0 b1 b2 => by rw [a4 b b1 b2 b0, hf b b0 b1 b2])
    · rw [e128, ← hup] at a1
      simp only [px_go, px_Q0_at, px_sx_0, px_sx_s, px_cl, px_step, ↓px_ll, px_lg, f4_, ↓px_r1, ↓px_r2, ↓px_r4, ↓px_r5, ↓px_p1, ↓px_p2, ↓px_p3, ↓px_pop, px_k_0, px_k_s, px_k3_0, px_stk_, px_cats, px_ent, px_st1, px_st2, px_mask, ↓px_tsw, ↓px_lsw, ct_, mls_0, mls_1, mls_2, mls_3, mls_4, mls_5, kd_0, kd_1, kd_2, kd_3, ln_0, ln_1, ln_2, ln_3, gf_0, gf_1, gf_2, gf_3, gf_4, gf_7, gf_21, gf_63, dy_0, dy_1, dy_2, dy_3, dy_7, dy_21, px_brT, px_brF, true_and, and_true, and_false, false_and, and_self, true_implies, false_implies, or_true, true_or, or_false, false_or, eq_self, ne_eq, not_false_eq_true, not_true_eq_false, if_true, if_false, List.mem_cons, List.not_mem_nil, List.length_cons, List.length_nil, Nat.reduceEqDiff, Nat.reduceAdd, Nat.reduceSub, Nat.reduceLeDiff, Nat.reduceLT, Int.reduceEq, Int.reduceLT, Int.reduceLE, Int.reduceNeg, Int.reduceAdd, Int.reduceSub, Int.reduceToNat, ↓reduceIte, one_ne_zero_, zero_ne_one_, px_in32L, cd_193]
      exact h0 M' (chn_none hr hc.1 hc.2.1 hc.2.2 i.toNat (by omega) a1) ⟨fun j j0 => by rw [a3 j j0, hj j j0], fun b b0 b1 b2 b3 => by rw [a4 b b1 b2 b0, hf b b0 b1 b2]⟩
set_option maxHeartbeats 600000 in
set_option maxRecDepth 100000 in
theorem lp_rdown {M0 : px_mem} {dd : Int → Int} {c : Int} (hr : rok (M0 128) dd) (hc : 0 ≤ c ∧ c < 40 ∧ 0 ≤ dd c) (h1 : ∀ M' l, rB (M0 128) c = some l → lst (M' 134) (l.length : Int) = l → M' 127 9 = (l.length : Int) → frd M' M0 → Q (some (0, 1)) M') (h0 : ∀ M', rB (M0 128) c = none → frd M' M0 → Q (some (0, 0)) M') (i : Int) (hk_i : i ≤ dd c) : ∀ (M : px_mem), 0 ≤ i → (∀ j : Nat, (j : Int) ≤ i → M 136 j = chn (rC (M0 128)) c j) → (∀ b, b ≠ 136 → M b = M0 b) → px_WP 193 0 0 (px_Q0 LAY Q) 9 [(2, 127), (9, 0), (0, i), (9, 0)] [] LAY M 0 0 := by
  refine up_ind (P := fun i => ∀ (M : px_mem), 0 ≤ i → (∀ j : Nat, (j : Int) ≤ i → M 136 j = chn (rC (M0 128)) c j) → (∀ b, b ≠ 136 → M b = M0 b) → px_WP 193 0 0 (px_Q0 LAY Q) 9 [(2, 127), (9, 0), (0, i), (9, 0)] [] LAY M 0 0) (dd c) (fun i hk_i ih => ?_) i hk_i
  intro M i0 h136 hf
  have h3 := (hr.1 c hc.1 hc.2.1 hc.2.2).1
  have e128 := hf 128 (by decide)
  have hm := h136 i.toNat (by omega)
  rw [Int.toNat_of_nonneg i0] at hm
  have hi := chn_ok hr.1 hc.1 hc.2.1 hc.2.2 i.toNat (by omega)
  have hk := hr.1 _ hi.1 hi.2.1 (by omega)
  unfold cok at hk
  generalize hx : chn (rC (M0 128)) c i.toNat = x at *
  refine px_go_ok (inl := []) 60 ?_
  simp only [px_go, px_Q0_at, px_sx_0, px_sx_s, px_cl, px_step, ↓px_ll, px_lg, f4_, ↓px_r1, ↓px_r2, ↓px_r4, ↓px_r5, ↓px_p1, ↓px_p2, ↓px_p3, ↓px_pop, px_k_0, px_k_s, px_k3_0, px_stk_, px_cats, px_ent, px_st1, px_st2, px_mask, ↓px_tsw, ↓px_lsw, ct_, mls_0, mls_1, mls_2, mls_3, mls_4, mls_5, kd_0, kd_1, kd_2, kd_3, ln_0, ln_1, ln_2, ln_3, gf_0, gf_1, gf_2, gf_3, gf_4, gf_7, gf_21, gf_63, dy_0, dy_1, dy_2, dy_3, dy_7, dy_21, px_brT, px_brF, true_and, and_true, and_false, false_and, and_self, true_implies, false_implies, or_true, true_or, or_false, false_or, eq_self, ne_eq, not_false_eq_true, not_true_eq_false, if_true, if_false, List.mem_cons, List.not_mem_nil, List.length_cons, List.length_nil, Nat.reduceEqDiff, Nat.reduceAdd, Nat.reduceSub, Nat.reduceLeDiff, Nat.reduceLT, Int.reduceEq, Int.reduceLT, Int.reduceLE, Int.reduceNeg, Int.reduceAdd, Int.reduceSub, Int.reduceToNat, ↓reduceIte, one_ne_zero_, zero_ne_one_, px_in32L, cd_193, hm]
  repeat' (first | (with_reducible apply And.intro) | (with_reducible refine px_br_intro (fun _ => ?_) (fun _ => ?_)))
  all_goals (try (first | (unfold px_in32; omega) | omega))
  refine sp_partOf ⟨hi.1, hi.2.1⟩ (by decide) ?_
  rw [e128]
  simp only [px_go, px_Q0_at, px_sx_0, px_sx_s, px_cl, px_step, ↓px_ll, px_lg, f4_, ↓px_r1, ↓px_r2, ↓px_r4, ↓px_r5, ↓px_p1, ↓px_p2, ↓px_p3, ↓px_pop, px_k_0, px_k_s, px_k3_0, px_stk_, px_cats, px_ent, px_st1, px_st2, px_mask, ↓px_tsw, ↓px_lsw, ct_, mls_0, mls_1, mls_2, mls_3, mls_4, mls_5, kd_0, kd_1, kd_2, kd_3, ln_0, ln_1, ln_2, ln_3, gf_0, gf_1, gf_2, gf_3, gf_4, gf_7, gf_21, gf_63, dy_0, dy_1, dy_2, dy_3, dy_7, dy_21, px_brT, px_brF, true_and, and_true, and_false, false_and, and_self, true_implies, false_implies, or_true, true_or, or_false, false_or, eq_self, ne_eq, not_false_eq_true, not_true_eq_false, if_true, if_false, List.mem_cons, List.not_mem_nil, List.length_cons, List.length_nil, Nat.reduceEqDiff, Nat.reduceAdd, Nat.reduceSub, Nat.reduceLeDiff, Nat.reduceLT, Int.reduceEq, Int.reduceLT, Int.reduceLE, Int.reduceNeg, Int.reduceAdd, Int.reduceSub, Int.reduceToNat, ↓reduceIte, one_ne_zero_, zero_ne_one_, px_in32L, cd_193, hm]
  repeat' (first | (with_reducible apply And.intro) | (with_reducible refine px_br_intro (fun _ => ?_) (fun _ => ?_)))
  all_goals (try (first | (unfold px_in32; omega) | omega))
  · rename_i c1
    refine sp_partOf ⟨hi.1, hi.2.1⟩ (by decide) ?_
    rw [e128]
    simp only [px_go, px_Q0_at, px_sx_0, px_sx_s, px_cl, px_step, ↓px_ll, px_lg, f4_, ↓px_r1, ↓px_r2, ↓px_r4, ↓px_r5, ↓px_p1, ↓px_p2, ↓px_p3, ↓px_pop, px_k_0, px_k_s, px_k3_0, px_stk_, px_cats, px_ent, px_st1, px_st2, px_mask, ↓px_tsw, ↓px_lsw, ct_, mls_0, mls_1, mls_2, mls_3, mls_4, mls_5, kd_0, kd_1, kd_2, kd_3, ln_0, ln_1, ln_2, ln_3, gf_0, gf_1, gf_2, gf_3, gf_4, gf_7, gf_21, gf_63, dy_0, dy_1, dy_2, dy_3, dy_7, dy_21, px_brT, px_brF, true_and, and_true, and_false, false_and, and_self, true_implies, false_implies, or_true, true_or, or_false, false_or, eq_self, ne_eq, not_false_eq_true, not_true_eq_false, if_true, if_false, List.mem_cons, List.not_mem_nil, List.length_cons, List.length_nil, Nat.reduceEqDiff, Nat.reduceAdd, Nat.reduceSub, Nat.reduceLeDiff, Nat.reduceLT, Int.reduceEq, Int.reduceLT, Int.reduceLE, Int.reduceNeg, Int.reduceAdd, Int.reduceSub, Int.reduceToNat, ↓reduceIte, one_ne_zero_, zero_ne_one_, px_in32L, cd_193, hm]
    repeat' (first | (with_reducible apply And.intro) | (with_reducible refine px_br_intro (fun _ => ?_) (fun _ => ?_)))
    all_goals (try (first | (unfold px_in32; omega) | omega))
    refine lp_rplain (M0 := px_up M 127 9 (rC (M0 128) x 1)) (c := x) (s := rC (M0 128) x 3) (by rw [px_up_at, if_pos ⟨rfl, rfl⟩]) (by omega) (by omega) (by rw [row_ne (by decide)]; exact hm) ⟨hi.1, hi.2.1⟩ (by rw [row_ne (by decide), e128]) (by omega) (fun M' a1 a2 => ?_) 0 (by omega) _ (Int.le_refl 0) rfl (fun _ _ => rfl)
    rw [row_ne (by decide), e128] at a1
    have b128 : M' 128 = M0 128 := by rw [a2 128 (by decide), row_ne (by decide), e128]
    have b136 : M' 136 = M 136 := by rw [a2 136 (by decide), row_ne (by decide)]
    have hp := rB_plain hr hi.1 hi.2.1 (by omega) (by omega)
    have hpl := (rB_len hr hi.1 hi.2.1 (by omega) hp).1
    have fr : frd M' M0 := ⟨fun j j0 => by rw [a2 127 (by decide), px_up_at, if_neg (fun z => j0 z.2), hf 127 (by decide)], fun b b0 b1 b2 b3 => by rw [a2 b b1, row_ne b0, hf b b3]⟩
    have edd : i = dd c := by omega
    refine lp_rup (M0 := M') (dd := dd) (c := c) (by rw [b128]; exact hr) hc (fun j j0 => ?_) (fun M2 l e1 e2 e3 e4 => ?_) (fun M2 e1 e4 => ?_) (i - 1) (by omega) M' (lst (fun k => M0 128 (894 + (rC (M0 128) x 3 + k))) (rC (M0 128) x 1)) (by omega) ?_ ?_ ?_ (fun _ _ => rfl) (fun _ _ _ _ => rfl)
    · rw [b136, b128]; exact h136 j (by omega)
    · rw [b128] at e1; exact h1 M2 l e1 e2 e3 (frd_trans e4 fr)
    · rw [b128] at e1; exact h0 M2 e1 (frd_trans e4 fr)
    · rw [b128, show i - 1 + 1 = i by omega, hx]; exact hp
    · rw [hpl]; exact a1
    · rw [hpl, a2 127 (by decide), px_up_at, if_pos ⟨rfl, rfl⟩]
  · rename_i c1
    refine sp_partOf ⟨hi.1, hi.2.1⟩ (by decide) ?_
    rw [e128]
    simp only [px_go, px_Q0_at, px_sx_0, px_sx_s, px_cl, px_step, ↓px_ll, px_lg, f4_, ↓px_r1, ↓px_r2, ↓px_r4, ↓px_r5, ↓px_p1, ↓px_p2, ↓px_p3, ↓px_pop, px_k_0, px_k_s, px_k3_0, px_stk_, px_cats, px_ent, px_st1, px_st2, px_mask, ↓px_tsw, ↓px_lsw, ct_, mls_0, mls_1, mls_2, mls_3, mls_4, mls_5, kd_0, kd_1, kd_2, kd_3, ln_0, ln_1, ln_2, ln_3, gf_0, gf_1, gf_2, gf_3, gf_4, gf_7, gf_21, gf_63, dy_0, dy_1, dy_2, dy_3, dy_7, dy_21, px_brT, px_brF, true_and, and_true, and_false, false_and, and_self, true_implies, false_implies, or_true, true_or, or_false, false_or, eq_self, ne_eq, not_false_eq_true, not_true_eq_false, if_true, if_false, List.mem_cons, List.not_mem_nil, List.length_cons, List.length_nil, Nat.reduceEqDiff, Nat.reduceAdd, Nat.reduceSub, Nat.reduceLeDiff, Nat.reduceLT, Int.reduceEq, Int.reduceLT, Int.reduceLE, Int.reduceNeg, Int.reduceAdd, Int.reduceSub, Int.reduceToNat, ↓reduceIte, one_ne_zero_, zero_ne_one_, px_in32L, cd_193, hm]
    repeat' (first | (with_reducible apply And.intro) | (with_reducible refine px_br_intro (fun _ => ?_) (fun _ => ?_)))
    all_goals (try (first | (unfold px_in32; omega) | omega))
    refine ih (by omega) _ (by omega) (fun j j0 => ?_) (fun b b0 => by rw [row_ne b0]; exact hf b b0)
    rw [px_up_at]
    by_cases q : (j : Int) = i + 1
    · rw [if_pos ⟨rfl, q⟩, show j = i.toNat + 1 by omega]
      show _ = rC (M0 128) (chn (rC (M0 128)) c i.toNat) 5
      rw [hx]
    · rw [if_neg (fun z => q z.2)]; exact h136 j (by omega)
set_option maxHeartbeats 600000 in
set_option maxRecDepth 100000 in
theorem sp_reads {dd : Int → Int} {c : Int} (hr : rok (M 128) dd) (hc : 0 ≤ c ∧ c < 40 ∧ 0 ≤ dd c) (h1 : ∀ M' l, rB (M 128) c = some l → lst (M' 134) (l.length : Int) = l → M' 127 9 = (l.length : Int) → frd M' M → Q (some (0, 1)) M') (h0 : ∀ M', rB (M 128) c = none → frd M' M → Q (some (0, 0)) M') : px_Ok 193 [(2, 127), (0, c)] LAY M Q := by
  refine px_ok_go (inl := []) (ls0 := [(2, 127), (0, c), (9, 0), (9, 0)]) 60 (by decide) (Nat.le_of_ble_eq_true rfl) rfl ?_
  simp only [px_go, px_Q0_at, px_sx_0, px_sx_s, px_cl, px_step, ↓px_ll, px_lg, f4_, ↓px_r1, ↓px_r2, ↓px_r4, ↓px_r5, ↓px_p1, ↓px_p2, ↓px_p3, ↓px_pop, px_k_0, px_k_s, px_k3_0, px_stk_, px_cats, px_ent, px_st1, px_st2, px_mask, ↓px_tsw, ↓px_lsw, ct_, mls_0, mls_1, mls_2, mls_3, mls_4, mls_5, kd_0, kd_1, kd_2, kd_3, ln_0, ln_1, ln_2, ln_3, gf_0, gf_1, gf_2, gf_3, gf_4, gf_7, gf_21, gf_63, dy_0, dy_1, dy_2, dy_3, dy_7, dy_21, px_brT, px_brF, true_and, and_true, and_false, false_and, and_self, true_implies, false_implies, or_true, true_or, or_false, false_or, eq_self, ne_eq, not_false_eq_true, not_true_eq_false, if_true, if_false, List.mem_cons, List.not_mem_nil, List.length_cons, List.length_nil, Nat.reduceEqDiff, Nat.reduceAdd, Nat.reduceSub, Nat.reduceLeDiff, Nat.reduceLT, Int.reduceEq, Int.reduceLT, Int.reduceLE, Int.reduceNeg, Int.reduceAdd, Int.reduceSub, Int.reduceToNat, ↓reduceIte, one_ne_zero_, zero_ne_one_, px_in32L, cd_193]
  repeat' (first | (with_reducible apply And.intro) | (with_reducible refine px_br_intro (fun _ => ?_) (fun _ => ?_)))
  all_goals (try (first | (unfold px_in32; omega) | omega))
  have e128 : px_up M 136 0 c 128 = M 128 := row_ne (by decide)
  have fr : frd (px_up M 136 0 c) M := ⟨fun j _ => by rw [row_ne (by decide)], fun b _ _ _ b3 => by rw [row_ne b3]⟩
  refine lp_rdown (M0 := px_up M 136 0 c) (dd := dd) (c := c) (by rw [e128]; exact hr) hc (fun M' l a1 a2 a3 a4 => h1 M' l (by rw [e128] at a1; exact a1) a2 a3 (frd_trans a4 fr)) (fun M' a1 a4 => h0 M' (by rw [e128] at a1; exact a1) (frd_trans a4 fr)) 0 hc.2.2 _ (Int.le_refl 0) (fun j j0 => ?_) (fun _ _ => rfl)
  have e : j = 0 := by omega
  subst e
  rw [px_up_at, if_pos ⟨rfl, rfl⟩]; rfl
/-- whole, as the reference finds -/
def whR (F : Int → Int) (c : Int) : Prop := ∃ l, rB F c = some l ∧ mkl l = rC F c 2
set_option maxHeartbeats 600000 in
set_option maxRecDepth 100000 in
theorem sp_isWhole {dd : Int → Int} {c : Int} (hr : rok (M 128) dd) (hc : 0 ≤ c ∧ c < 40 ∧ 0 ≤ dd c) (h1 : ∀ M' l, rB (M 128) c = some l → mkl l = rC (M 128) c 2 → lst (M' 134) (l.length : Int) = l → M' 127 9 = (l.length : Int) → frd M' M → Q (some (0, 1)) M') (h0 : ∀ M', ¬ whR (M 128) c → frd M' M → Q (some (0, 0)) M') : px_Ok 194 [(2, 127), (0, c)] LAY M Q := by
  refine px_ok_go (inl := []) (ls0 := [(2, 127), (0, c)]) 60 (by decide) (Nat.le_of_ble_eq_true rfl) rfl ?_
  simp only [px_go, px_Q0_at, px_sx_0, px_sx_s, px_cl, px_step, ↓px_ll, px_lg, f4_, ↓px_r1, ↓px_r2, ↓px_r4, ↓px_r5, ↓px_p1, ↓px_p2, ↓px_p3, ↓px_pop, px_k_0, px_k_s, px_k3_0, px_stk_, px_cats, px_ent, px_st1, px_st2, px_mask, ↓px_tsw, ↓px_lsw, ct_, mls_0, mls_1, mls_2, mls_3, mls_4, mls_5, kd_0, kd_1, kd_2, kd_3, ln_0, ln_1, ln_2, ln_3, gf_0, gf_1, gf_2, gf_3, gf_4, gf_7, gf_21, gf_63, dy_0, dy_1, dy_2, dy_3, dy_7, dy_21, px_brT, px_brF, true_and, and_true, and_false, false_and, and_self, true_implies, false_implies, or_true, true_or, or_false, false_or, eq_self, ne_eq, not_false_eq_true, not_true_eq_false, if_true, if_false, List.mem_cons, List.not_mem_nil, List.length_cons, List.length_nil, Nat.reduceEqDiff, Nat.reduceAdd, Nat.reduceSub, Nat.reduceLeDiff, Nat.reduceLT, Int.reduceEq, Int.reduceLT, Int.reduceLE, Int.reduceNeg, Int.reduceAdd, Int.reduceSub, Int.reduceToNat, ↓reduceIte, one_ne_zero_, zero_ne_one_, px_in32L, cd_194]
  repeat' (first | (with_reducible apply And.intro) | (with_reducible refine px_br_intro (fun _ => ?_) (fun _ => ?_)))
  all_goals (try (first | (unfold px_in32; omega) | omega))
  refine sp_reads hr hc (fun M' l a1 a2 a3 a4 => ?_) (fun M' a1 a4 => ?_)
  · have hl := rB_len hr hc.1 hc.2.1 hc.2.2 a1
    have e128 := frd_128 a4
    simp only [px_go, px_Q0_at, px_sx_0, px_sx_s, px_cl, px_step, ↓px_ll, px_lg, f4_, ↓px_r1, ↓px_r2, ↓px_r4, ↓px_r5, ↓px_p1, ↓px_p2, ↓px_p3, ↓px_pop, px_k_0, px_k_s, px_k3_0, px_stk_, px_cats, px_ent, px_st1, px_st2, px_mask, ↓px_tsw, ↓px_lsw, ct_, mls_0, mls_1, mls_2, mls_3, mls_4, mls_5, kd_0, kd_1, kd_2, kd_3, ln_0, ln_1, ln_2, ln_3, gf_0, gf_1, gf_2, gf_3, gf_4, gf_7, gf_21, gf_63, dy_0, dy_1, dy_2, dy_3, dy_7, dy_21, px_brT, px_brF, true_and, and_true, and_false, false_and, and_self, true_implies, false_implies, or_true, true_or, or_false, false_or, eq_self, ne_eq, not_false_eq_true, not_true_eq_false, if_true, if_false, List.mem_cons, List.not_mem_nil, List.length_cons, List.length_nil, Nat.reduceEqDiff, Nat.reduceAdd, Nat.reduceSub, Nat.reduceLeDiff, Nat.reduceLT, Int.reduceEq, Int.reduceLT, Int.reduceLE, Int.reduceNeg, Int.reduceAdd, Int.reduceSub, Int.reduceToNat, ↓reduceIte, one_ne_zero_, zero_ne_one_, px_in32L, cd_194, a3]
    refine sp_rmark rfl (Int.le_refl 0) (by omega) (by rw [show px_ln LAY 134 = 40 from rfl]; omega) (by decide) (fun j j0 j1 => ?_) ?_
    · rw [Int.zero_add]
      have q := nth_lst (f := M' 134) j0 j1
      rw [a2] at q
      rw [← q]
      exact hl.2.2 _ (nth_mem j0 j1)
    · have em : mk (fun j => M' 134 (0 + j)) (l.length : Int) = mkl l := by
        rw [mkl_lst (by omega), lst0, a2]
      rw [em]
      simp only [px_go, px_Q0_at, px_sx_0, px_sx_s, px_cl, px_step, ↓px_ll, px_lg, f4_, ↓px_r1, ↓px_r2, ↓px_r4, ↓px_r5, ↓px_p1, ↓px_p2, ↓px_p3, ↓px_pop, px_k_0, px_k_s, px_k3_0, px_stk_, px_cats, px_ent, px_st1, px_st2, px_mask, ↓px_tsw, ↓px_lsw, ct_, mls_0, mls_1, mls_2, mls_3, mls_4, mls_5, kd_0, kd_1, kd_2, kd_3, ln_0, ln_1, ln_2, ln_3, gf_0, gf_1, gf_2, gf_3, gf_4, gf_7, gf_21, gf_63, dy_0, dy_1, dy_2, dy_3, dy_7, dy_21, px_brT, px_brF, true_and, and_true, and_false, false_and, and_self, true_implies, false_implies, or_true, true_or, or_false, false_or, eq_self, ne_eq, not_false_eq_true, not_true_eq_false, if_true, if_false, List.mem_cons, List.not_mem_nil, List.length_cons, List.length_nil, Nat.reduceEqDiff, Nat.reduceAdd, Nat.reduceSub, Nat.reduceLeDiff, Nat.reduceLT, Int.reduceEq, Int.reduceLT, Int.reduceLE, Int.reduceNeg, Int.reduceAdd, Int.reduceSub, Int.reduceToNat, ↓reduceIte, one_ne_zero_, zero_ne_one_, px_in32L, cd_194, a3]
      refine sp_partOf ⟨hc.1, hc.2.1⟩ (by decide) ?_
      rw [e128]
      simp only [px_go, px_Q0_at, px_sx_0, px_sx_s, px_cl, px_step, ↓px_ll, px_lg, f4_, ↓px_r1, ↓px_r2, ↓px_r4, ↓px_r5, ↓px_p1, ↓px_p2, ↓px_p3, ↓px_pop, px_k_0, px_k_s, px_k3_0, px_stk_, px_cats, px_ent, px_st1, px_st2, px_mask, ↓px_tsw, ↓px_lsw, ct_, mls_0, mls_1, mls_2, mls_3, mls_4, mls_5, kd_0, kd_1, kd_2, kd_3, ln_0, ln_1, ln_2, ln_3, gf_0, gf_1, gf_2, gf_3, gf_4, gf_7, gf_21, gf_63, dy_0, dy_1, dy_2, dy_3, dy_7, dy_21, px_brT, px_brF, true_and, and_true, and_false, false_and, and_self, true_implies, false_implies, or_true, true_or, or_false, false_or, eq_self, ne_eq, not_false_eq_true, not_true_eq_false, if_true, if_false, List.mem_cons, List.not_mem_nil, List.length_cons, List.length_nil, Nat.reduceEqDiff, Nat.reduceAdd, Nat.reduceSub, Nat.reduceLeDiff, Nat.reduceLT, Int.reduceEq, Int.reduceLT, Int.reduceLE, Int.reduceNeg, Int.reduceAdd, Int.reduceSub, Int.reduceToNat, ↓reduceIte, one_ne_zero_, zero_ne_one_, px_in32L, cd_194, a3]
      repeat' (first | (with_reducible apply And.intro) | (with_reducible refine px_br_intro (fun _ => ?_) (fun _ => ?_)))
      · rename_i q
        exact h1 M' l a1 q a2 a3 a4
      · rename_i q
        refine h0 M' (fun ⟨l2, z1, z2⟩ => q ?_) a4
        rw [a1] at z1
        injection z1 with z1
        rw [z1]; exact z2
  · simp only [px_go, px_Q0_at, px_sx_0, px_sx_s, px_cl, px_step, ↓px_ll, px_lg, f4_, ↓px_r1, ↓px_r2, ↓px_r4, ↓px_r5, ↓px_p1, ↓px_p2, ↓px_p3, ↓px_pop, px_k_0, px_k_s, px_k3_0, px_stk_, px_cats, px_ent, px_st1, px_st2, px_mask, ↓px_tsw, ↓px_lsw, ct_, mls_0, mls_1, mls_2, mls_3, mls_4, mls_5, kd_0, kd_1, kd_2, kd_3, ln_0, ln_1, ln_2, ln_3, gf_0, gf_1, gf_2, gf_3, gf_4, gf_7, gf_21, gf_63, dy_0, dy_1, dy_2, dy_3, dy_7, dy_21, px_brT, px_brF, true_and, and_true, and_false, false_and, and_self, true_implies, false_implies, or_true, true_or, or_false, false_or, eq_self, ne_eq, not_false_eq_true, not_true_eq_false, if_true, if_false, List.mem_cons, List.not_mem_nil, List.length_cons, List.length_nil, Nat.reduceEqDiff, Nat.reduceAdd, Nat.reduceSub, Nat.reduceLeDiff, Nat.reduceLT, Int.reduceEq, Int.reduceLT, Int.reduceLE, Int.reduceNeg, Int.reduceAdd, Int.reduceSub, Int.reduceToNat, ↓reduceIte, one_ne_zero_, zero_ne_one_, px_in32L, cd_194]
    refine h0 M' (fun ⟨l2, z1, z2⟩ => ?_) a4
    rw [a1] at z1
    exact absurd z1 (by simp)
end PW
