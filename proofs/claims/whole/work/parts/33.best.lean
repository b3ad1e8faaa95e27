/-! EditionVault.Contents: the best base -/
set_option maxRecDepth 100000 in
/-- X1_bestBase -/
theorem cd_17 : px_at 17 0 = some (2, [], .bipush (-2), []) ∧ px_at 17 2 = some (4, [], .istore 4, []) ∧ px_at 17 4 = some (5, [], .iload_n 2, []) ∧ px_at 17 5 = some (7, [], .istore 5, []) ∧ px_at 17 7 = some (8, [], .iconst 0, []) ∧ px_at 17 8 = some (10, [], .istore 6, []) ∧ px_at 17 10 = some (12, [1, 1, 1, 1, 1, 1, 1, 0], .iload 6, []) ∧ px_at 17 12 = some (14, [], .bipush 40, []) ∧ px_at 17 14 = some (17, [], .if_icmp .ge 72, [86]) ∧ px_at 17 17 = some (18, [], .aload_n 3, []) ∧ px_at 17 18 = some (20, [], .iload 6, []) ∧ px_at 17 20 = some (21, [], .iaload, []) ∧ px_at 17 21 = some (24, [], .ifCond .lt 25, [46]) ∧ px_at 17 24 = some (25, [], .aload_n 3, []) ∧ px_at 17 25 = some (27, [], .iload 6, []) ∧ px_at 17 27 = some (28, [], .iaload, []) ∧ px_at 17 28 = some (29, [], .iconst 3, []) ∧ px_at 17 29 = some (32, [], .if_icmp .ge 17, [46]) ∧ px_at 17 32 = some (33, [], .aload_n 0, []) ∧ px_at 17 33 = some (36, [], .getfield 39, [1, 8, 2, 1, 83]) ∧ px_at 17 36 = some (38, [], .iload 6, []) ∧ px_at 17 38 = some (39, [], .baload, []) ∧ px_at 17 39 = some (42, [], .ifCond .eq 7, [46]) ∧ px_at 17 42 = some (43, [], .iconst 1, []) ∧ px_at 17 43 = some (46, [], .goto 4, [47]) ∧ px_at 17 46 = some (47, [], .iconst 0, []) ∧ px_at 17 47 = some (49, [], .istore 7, []) ∧ px_at 17 49 = some (51, [], .iload 7, []) ∧ px_at 17 51 = some (54, [], .ifCond .eq 29, [80]) ∧ px_at 17 54 = some (55, [], .aload_n 0, []) ∧ px_at 17 55 = some (57, [], .iload 6, []) ∧ px_at 17 57 = some (58, [], .aload_n 1, []) ∧ px_at 17 58 = some (59, [], .iload_n 2, []) ∧ px_at 17 59 = some (62, [], .invokevirtual 91, [16, 3, 1, 74]) ∧ px_at 17 62 = some (64, [], .iload 5, []) ∧ px_at 17 64 = some (67, [], .if_icmp .ge 16, [80]) ∧ px_at 17 67 = some (69, [], .iload 6, []) ∧ px_at 17 69 = some (71, [], .istore 4, []) ∧ px_at 17 71 = some (72, [], .aload_n 0, []) ∧ px_at 17 72 = some (75, [], .getfield 45, [1, 10, 2, 1, 86]) ∧ px_at 17 75 = some (78, [], .getfield 95, [5, 1, 0, 0, 63]) ∧ px_at 17 78 = some (80, [], .istore 5, []) ∧ px_at 17 80 = some (83, [], .iinc 6 1, []) ∧ px_at 17 83 = some (86, [], .goto (-73), [10]) ∧ px_at 17 86 = some (88, [], .iload 4, []) ∧ px_at 17 88 = some (91, [], .ifCond .lt 12, [100]) ∧ px_at 17 91 = some (92, [], .aload_n 0, []) ∧ px_at 17 92 = some (94, [], .iload 4, []) ∧ px_at 17 94 = some (95, [], .aload_n 1, []) ∧ px_at 17 95 = some (96, [], .iload_n 2, []) ∧ px_at 17 96 = some (99, [], .invokevirtual 91, [16, 3, 1, 74]) ∧ px_at 17 99 = some (100, [], .pop, []) ∧ px_at 17 100 = some (102, [], .iload 4, []) ∧ px_at 17 102 = some (103, [], .ireturn, [0]) := ⟨rfl, rfl, rfl, rfl, rfl, rfl, rfl, rfl, rfl, rfl, rfl, rfl, rfl, rfl, rfl, rfl, rfl, rfl, rfl, rfl, rfl, rfl, rfl, rfl, rfl, rfl, rfl, rfl, rfl, rfl, rfl, rfl, rfl, rfl, rfl, rfl, rfl, rfl, rfl, rfl, rfl, rfl, rfl, rfl, rfl, rfl, rfl, rfl, rfl, rfl, rfl, rfl, rfl, rfl⟩
/-- the best of the first so many contents -/
def isBB (cand : Int → Prop) (sz : Int → Int) (n k b l : Int) : Prop :=
  (b = -2 ∧ l = n ∧ ∀ c, 0 ≤ c → c < k → cand c → n ≤ sz c) ∨
  (0 ≤ b ∧ b < k ∧ cand b ∧ sz b = l ∧ l < n ∧ (∀ c, 0 ≤ c → c < k → cand c → l ≤ sz c) ∧ ∀ c, 0 ≤ c → c < b → cand c → l < sz c)
theorem isBB_uniq {cand : Int → Prop} {sz : Int → Int} {n k b l b' l' : Int} (h : isBB cand sz n k b l) (h' : isBB cand sz n k b' l') : b = b' ∧ l = l' := by
  rcases h with ⟨h1, h2, h3⟩ | ⟨h1, h2, h3, h4, h5, h6, h7⟩ <;> rcases h' with ⟨g1, g2, g3⟩ | ⟨g1, g2, g3, g4, g5, g6, g7⟩
  · exact ⟨by omega, by omega⟩
  · have := h3 b' g1 g2 g3; omega
  · have := g3 b h1 h2 h3; omega
  · have a := h6 b' g1 g2 g3
    have a' := g6 b h1 h2 h3
    refine ⟨?_, by omega⟩
    by_cases c : b < b'
    · have := g7 b h1 c h3; omega
    · by_cases c2 : b' < b
      · have := h7 b' g1 c2 g3; omega
      · omega
theorem isBB_no {cand : Int → Prop} {sz : Int → Int} {n k b l : Int} (h : isBB cand sz n k b l) (hk : cand k → l ≤ sz k) : isBB cand sz n (k + 1) b l := by
  rcases h with ⟨h1, h2, h3⟩ | ⟨h1, h2, h3, h4, h5, h6, h7⟩
  · refine Or.inl ⟨h1, h2, fun c c0 c1 hc => ?_⟩
    by_cases e : c = k
    · subst e; have := hk hc; omega
    · exact h3 c c0 (by omega) hc
  · refine Or.inr ⟨h1, by omega, h3, h4, h5, fun c c0 c1 hc => ?_, h7⟩
    by_cases e : c = k
    · subst e; exact hk hc
    · exact h6 c c0 (by omega) hc
theorem isBB_yes {cand : Int → Prop} {sz : Int → Int} {n k b l : Int} (h0 : 0 ≤ k) (h : isBB cand sz n k b l) (hc : cand k) (hs : sz k < l) : isBB cand sz n (k + 1) k (sz k) := by
  rcases h with ⟨h1, h2, h3⟩ | ⟨h1, h2, h3, h4, h5, h6, h7⟩
  · refine Or.inr ⟨h0, by omega, hc, rfl, by omega, fun c c0 c1 h => ?_, fun c c0 c1 h => ?_⟩
    · by_cases e : c = k
      · subst e; omega
      · have := h3 c c0 (by omega) h; omega
    · have := h3 c c0 (by omega) h; omega
  · refine Or.inr ⟨h0, by omega, hc, rfl, by omega, fun c c0 c1 h => ?_, fun c c0 c1 h => ?_⟩
    · by_cases e : c = k
      · subst e; omega
      · have := h6 c c0 (by omega) h; omega
    · have := h6 c c0 (by omega) h; omega
/-- what the class's pieces of a row's bytes by a content are -/
noncomputable def pcs (M : px_mem) (v n c : Int) : List Int := mkp (M v) (M (64 + c)) n (M 57 c)
/-- may be a base, by these depths -/
def cnd (M : px_mem) (d c : Int) : Prop := 0 ≤ M d c ∧ M d c < 3 ∧ M 105 c ≠ 0
def isBest (M : px_mem) (v n d k b l : Int) : Prop := isBB (cnd M d) (fun c => ((pcs M v n c).length : Int)) n k b l
section PS
variable {M : px_mem} {Q : Option pv → px_mem → Prop}
set_option maxHeartbeats 600000 in
set_option maxRecDepth 100000 in
theorem sp_make {v w n m : Int} (hkv : px_kd LAY v = 0) (hkw : px_kd LAY w = 0) (hlv : n ≤ px_ln LAY v) (hlw : m ≤ px_ln LAY w) (hv : v ≠ 106 ∧ v ≠ 107) (hw : w ≠ 106 ∧ w ≠ 107) (hn0 : 0 ≤ n) (hn : n ≤ 40) (hm0 : 0 ≤ m) (hm : m ≤ 40) (hbv : ∀ j, 0 ≤ j → j < n → 0 ≤ M v j ∧ M v j < 256) (h : ∀ M', M' 106 1 = ((mkp (M v) (M w) n m).length : Int) → lst (M' 107) ((mkp (M v) (M w) n m).length : Int) = mkp (M v) (M w) n m → (∀ b, b ≠ 106 → b ≠ 107 → M' b = M b) → Q (some (0, ((mkp (M v) (M w) n m).length : Int))) M') : px_Ok 71 [(2, 106), (2, v), (0, n), (2, w), (0, m)] LAY M Q := by
  refine px_ok_go (inl := []) (ls0 := [(2, 106), (2, v), (0, n), (2, w), (0, m), (9, 0), (9, 0)]) 60 (by decide) (Nat.le_of_ble_eq_true rfl) rfl ?_
  simp only [px_go, px_Q0_at, px_sx_0, px_sx_s, px_cl, px_step, ↓px_ll, px_lg, f4_, ↓px_r1, ↓px_r2, ↓px_r4, ↓px_r5, ↓px_p1, ↓px_p2, ↓px_p3, ↓px_pop, px_k_0, px_k_s, px_k3_0, px_stk_, px_cats, px_ent, px_st1, px_st2, px_mask, ↓px_tsw, ↓px_lsw, ct_, mls_0, mls_1, mls_2, mls_3, mls_4, mls_5, kd_0, kd_1, kd_2, kd_3, ln_0, ln_1, ln_2, ln_3, gf_0, gf_1, gf_2, gf_3, gf_4, gf_7, gf_21, gf_63, dy_0, dy_1, dy_2, dy_3, dy_7, dy_21, px_brT, px_brF, true_and, and_true, and_false, false_and, and_self, true_implies, false_implies, or_true, true_or, or_false, false_or, eq_self, ne_eq, not_false_eq_true, not_true_eq_false, if_true, if_false, List.mem_cons, List.not_mem_nil, List.length_cons, List.length_nil, Nat.reduceEqDiff, Nat.reduceAdd, Nat.reduceSub, Nat.reduceLeDiff, Nat.reduceLT, Int.reduceEq, Int.reduceLT, Int.reduceLE, Int.reduceNeg, Int.reduceAdd, Int.reduceSub, Int.reduceToNat, ↓reduceIte, one_ne_zero_, zero_ne_one_, px_in32L, cd_71]
  repeat' (first | (with_reducible apply And.intro) | (with_reducible refine px_br_intro (fun _ => ?_) (fun _ => ?_)))
  all_goals (try (first | (unfold px_in32; omega) | omega))
  refine lp_make hkv hkw hlv hlw hv hw hn hm0 hm hbv h 40 0 (-1) [] [] _ (Int.le_refl 0) hn0 (by omega) rfl ?_ ?_ ?_ (by decide) (Or.inl ⟨rfl, rfl⟩) (fun b b0 b1 => row_ne b0)
  · rw [px_up_at, if_pos ⟨rfl, rfl⟩]; rfl
  · rw [px_up_at, if_pos ⟨rfl, rfl⟩]; rfl
  · rw [px_up_at, if_pos ⟨rfl, rfl⟩]; decide
set_option maxHeartbeats 600000 in
set_option maxRecDepth 100000 in
theorem sp_piecesBy {c v n : Int} (hc : 0 ≤ c ∧ c < 40) (hkv : px_kd LAY v = 0) (hlv : n ≤ px_ln LAY v) (hv : v ≠ 106 ∧ v ≠ 107) (hn0 : 0 ≤ n) (hn : n ≤ 40) (hl : 0 ≤ M 57 c ∧ M 57 c ≤ 40) (hbv : ∀ j, 0 ≤ j → j < n → 0 ≤ M v j ∧ M v j < 256) (h : ∀ M', M' 106 1 = ((pcs M v n c).length : Int) → lst (M' 107) ((pcs M v n c).length : Int) = pcs M v n c → (∀ b, b ≠ 106 → b ≠ 107 → M' b = M b) → Q (some (0, ((pcs M v n c).length : Int))) M') : px_Ok 16 [(2, 56), (0, c), (2, v), (0, n)] LAY M Q := by
  refine px_ok_go (inl := []) (ls0 := [(2, 56), (0, c), (2, v), (0, n)]) 60 (by decide) (Nat.le_of_ble_eq_true rfl) rfl ?_
  simp only [px_go, px_Q0_at, px_sx_0, px_sx_s, px_cl, px_step, ↓px_ll, px_lg, f4_, ↓px_r1, ↓px_r2, ↓px_r4, ↓px_r5, ↓px_p1, ↓px_p2, ↓px_p3, ↓px_pop, px_k_0, px_k_s, px_k3_0, px_stk_, px_cats, px_ent, px_st1, px_st2, px_mask, ↓px_tsw, ↓px_lsw, ct_, mls_0, mls_1, mls_2, mls_3, mls_4, mls_5, kd_0, kd_1, kd_2, kd_3, ln_0, ln_1, ln_2, ln_3, gf_0, gf_1, gf_2, gf_3, gf_4, gf_7, gf_21, gf_63, dy_0, dy_1, dy_2, dy_3, dy_7, dy_21, px_brT, px_brF, true_and, and_true, and_false, false_and, and_self, true_implies, false_implies, or_true, true_or, or_false, false_or, eq_self, ne_eq, not_false_eq_true, not_true_eq_false, if_true, if_false, List.mem_cons, List.not_mem_nil, List.length_cons, List.length_nil, Nat.reduceEqDiff, Nat.reduceAdd, Nat.reduceSub, Nat.reduceLeDiff, Nat.reduceLT, Int.reduceEq, Int.reduceLT, Int.reduceLE, Int.reduceNeg, Int.reduceAdd, Int.reduceSub, Int.reduceToNat, ↓reduceIte, one_ne_zero_, zero_ne_one_, px_in32L, cd_16]
  repeat' (first | (with_reducible apply And.intro) | (with_reducible refine px_br_intro (fun _ => ?_) (fun _ => ?_)))
  all_goals (try (first | (unfold px_in32; omega) | omega))
  have hr := row_lay (v := 64 + c) (by omega)
  refine sp_make hkv hr.1 hlv (by omega) hv (by omega) hn0 hn hl.1 hl.2 hbv (fun M' e1 e2 e3 => ?_)
  simp only [px_go, px_Q0_at, px_sx_0, px_sx_s, px_cl, px_step, ↓px_ll, px_lg, f4_, ↓px_r1, ↓px_r2, ↓px_r4, ↓px_r5, ↓px_p1, ↓px_p2, ↓px_p3, ↓px_pop, px_k_0, px_k_s, px_k3_0, px_stk_, px_cats, px_ent, px_st1, px_st2, px_mask, ↓px_tsw, ↓px_lsw, ct_, mls_0, mls_1, mls_2, mls_3, mls_4, mls_5, kd_0, kd_1, kd_2, kd_3, ln_0, ln_1, ln_2, ln_3, gf_0, gf_1, gf_2, gf_3, gf_4, gf_7, gf_21, gf_63, dy_0, dy_1, dy_2, dy_3, dy_7, dy_21, px_brT, px_brF, true_and, and_true, and_false, false_and, and_self, true_implies, false_implies, or_true, true_or, or_false, false_or, eq_self, ne_eq, not_false_eq_true, not_true_eq_false, if_true, if_false, List.mem_cons, List.not_mem_nil, List.length_cons, List.length_nil, Nat.reduceEqDiff, Nat.reduceAdd, Nat.reduceSub, Nat.reduceLeDiff, Nat.reduceLT, Int.reduceEq, Int.reduceLT, Int.reduceLE, Int.reduceNeg, Int.reduceAdd, Int.reduceSub, Int.reduceToNat, ↓reduceIte, one_ne_zero_, zero_ne_one_, px_in32L, cd_16]
  exact h M' e1 e2 e3
set_option maxHeartbeats 600000 in
set_option maxRecDepth 100000 in
theorem lp_bestBase {M0 : px_mem} {v n d : Int} (hkv : px_kd LAY v = 0) (hlv : n ≤ px_ln LAY v) (hv : v ≠ 106 ∧ v ≠ 107) (hkd : px_kd LAY d = 0) (hld : px_ln LAY d = 40) (hd : d ≠ 106 ∧ d ≠ 107) (hn0 : 0 ≤ n) (hn : n ≤ 40) (hl : ∀ c, 0 ≤ c → c < 40 → cnd M0 d c → 0 ≤ M0 57 c ∧ M0 57 c ≤ 40) (hbv : ∀ j, 0 ≤ j → j < n → 0 ≤ M0 v j ∧ M0 v j < 256) (h : ∀ M' b l, isBest M0 v n d 40 b l → (0 ≤ b → M' 106 1 = l ∧ lst (M' 107) l = pcs M0 v n b) → (∀ b, b ≠ 106 → b ≠ 107 → M' b = M0 b) → Q (some (0, b)) M') (c : Int) (hk_c : c ≤ 40) : ∀ (M : px_mem) (b l : Int), 0 ≤ c → isBest M0 v n d c b l → (∀ b, b ≠ 106 → b ≠ 107 → M b = M0 b) → px_WP 17 0 0 (px_Q0 LAY Q) 10 [(2, 56), (2, v), (0, n), (2, d), (0, b), (0, l), (0, c), (9, 0)] [] LAY M 0 0 := by
  refine up_ind (P := fun c => ∀ (M : px_mem) (b l : Int), 0 ≤ c → isBest M0 v n d c b l → (∀ b, b ≠ 106 → b ≠ 107 → M b = M0 b) → px_WP 17 0 0 (px_Q0 LAY Q) 10 [(2, 56), (2, v), (0, n), (2, d), (0, b), (0, l), (0, c), (9, 0)] [] LAY M 0 0) (40) (fun c hk_c ih => ?_) c hk_c
  intro M b l hc0 hb hfr
  have hp : ∀ x, 0 ≤ x → x < 40 → pcs M v n x = pcs M0 v n x := fun x x0 x1 => by
    unfold pcs
    rw [hfr v hv.1 hv.2, hfr (64 + x) (by omega) (by omega), hfr 57 (by decide) (by decide)]
  have hM := hfr d hd.1 hd.2
  have h57 := hfr 57 (by decide) (by decide)
  have h105 := hfr 105 (by decide) (by decide)
  have hMv := hfr v hv.1 hv.2
  refine px_go_ok (inl := []) 60 ?_
  simp only [px_go, px_Q0_at, px_sx_0, px_sx_s, px_cl, px_step, ↓px_ll, px_lg, f4_, ↓px_r1, ↓px_r2, ↓px_r4, ↓px_r5, ↓px_p1, ↓px_p2, ↓px_p3, ↓px_pop, px_k_0, px_k_s, px_k3_0, px_stk_, px_cats, px_ent, px_st1, px_st2, px_mask, ↓px_tsw, ↓px_lsw, ct_, mls_0, mls_1, mls_2, mls_3, mls_4, mls_5, kd_0, kd_1, kd_2, kd_3, ln_0, ln_1, ln_2, ln_3, gf_0, gf_1, gf_2, gf_3, gf_4, gf_7, gf_21, gf_63, dy_0, dy_1, dy_2, dy_3, dy_7, dy_21, px_brT, px_brF, true_and, and_true, and_false, false_and, and_self, true_implies, false_implies, or_true, true_or, or_false, false_or, eq_self, ne_eq, not_false_eq_true, not_true_eq_false, if_true, if_false, List.mem_cons, List.not_mem_nil, List.length_cons, List.length_nil, Nat.reduceEqDiff, Nat.reduceAdd, Nat.reduceSub, Nat.reduceLeDiff, Nat.reduceLT, Int.reduceEq, Int.reduceLT, Int.reduceLE, Int.reduceNeg, Int.reduceAdd, Int.reduceSub, Int.reduceToNat, ↓reduceIte, one_ne_zero_, zero_ne_one_, px_in32L, cd_17, hkd, hld]
  repeat' (first | (with_reducible apply And.intro) | (with_reducible refine px_br_intro (fun _ => ?_) (fun _ => ?_)))
  all_goals (try (first | (unfold px_in32; omega) | omega))
  · rename_i c1 c2
    rw [show c = 40 by omega] at hb
    exact h M b l hb (fun e => by omega) hfr
  · rename_i c1 c2
    rw [show c = 40 by omega] at hb
    have hb2 := hb
    rcases hb2 with x | ⟨g1, g2, g3, g4, g5, g6, g7⟩
    · omega
    · have hl2 := hl b g1 g2 g3
      refine sp_piecesBy ⟨g1, g2⟩ hkv hlv hv hn0 hn (by rw [h57]; exact hl2) (by rw [hMv]; exact hbv) (fun M' e1 e2 e3 => ?_)
      rw [hp b g1 g2] at e1 e2
      have g4 : ((pcs M0 v n b).length : Int) = l := g4
      rw [g4] at e1 e2
      simp only [px_go, px_Q0_at, px_sx_0, px_sx_s, px_cl, px_step, ↓px_ll, px_lg, f4_, ↓px_r1, ↓px_r2, ↓px_r4, ↓px_r5, ↓px_p1, ↓px_p2, ↓px_p3, ↓px_pop, px_k_0, px_k_s, px_k3_0, px_stk_, px_cats, px_ent, px_st1, px_st2, px_mask, ↓px_tsw, ↓px_lsw, ct_, mls_0, mls_1, mls_2, mls_3, mls_4, mls_5, kd_0, kd_1, kd_2, kd_3, ln_0, ln_1, ln_2, ln_3, gf_0, gf_1, gf_2, gf_3, gf_4, gf_7, gf_21, gf_63, dy_0, dy_1, dy_2, dy_3, dy_7, dy_21, px_brT, px_brF, true_and, and_true, and_false, false_and, and_self, true_implies, false_implies, or_true, true_or, or_false, false_or, eq_self, ne_eq, not_false_eq_true, not_true_eq_false, if_true, if_false, List.mem_cons, List.not_mem_nil, List.length_cons, List.length_nil, Nat.reduceEqDiff, Nat.reduceAdd, Nat.reduceSub, Nat.reduceLeDiff, Nat.reduceLT, Int.reduceEq, Int.reduceLT, Int.reduceLE, Int.reduceNeg, Int.reduceAdd, Int.reduceSub, Int.reduceToNat, ↓reduceIte, one_ne_zero_, zero_ne_one_, px_in32L, cd_17]
      exact h M' b l hb (fun _ => ⟨e1, e2⟩) (fun b b0 b1 => by rw [e3 b b0 b1]; exact hfr b b0 b1)
  · rename_i c1 c2
    exact ih (by omega) M b l (by omega) (isBB_no hb (fun x => absurd x.1 (by rw [← hM]; omega))) hfr
  · rename_i c1 c2 c3
    exact ih (by omega) M b l (by omega) (isBB_no hb (fun x => absurd x.2.1 (by rw [← hM]; omega))) hfr
  · rename_i c1 c2 c3 c4
    exact ih (by omega) M b l (by omega) (isBB_no hb (fun x => absurd x.2.2 (by rw [← h105]; omega))) hfr
  · rename_i c1 c2 c3 c4
    have hcd : cnd M0 d c := ⟨by rw [← hM]; omega, by rw [← hM]; omega, by rw [← h105]; exact c4⟩
    have hl2 := hl c hc0 (by omega) hcd
    refine sp_piecesBy ⟨hc0, by omega⟩ hkv hlv hv hn0 hn (by rw [h57]; exact hl2) (by rw [hMv]; exact hbv) (fun M' e1 e2 e3 => ?_)
    rw [hp c hc0 (by omega)] at *
    have hfr' : ∀ b, b ≠ 106 → b ≠ 107 → M' b = M0 b := fun b b0 b1 => by rw [e3 b b0 b1]; exact hfr b b0 b1
    simp only [px_go, px_Q0_at, px_sx_0, px_sx_s, px_cl, px_step, ↓px_ll, px_lg, f4_, ↓px_r1, ↓px_r2, ↓px_r4, ↓px_r5, ↓px_p1, ↓px_p2, ↓px_p3, ↓px_pop, px_k_0, px_k_s, px_k3_0, px_stk_, px_cats, px_ent, px_st1, px_st2, px_mask, ↓px_tsw, ↓px_lsw, ct_, mls_0, mls_1, mls_2, mls_3, mls_4, mls_5, kd_0, kd_1, kd_2, kd_3, ln_0, ln_1, ln_2, ln_3, gf_0, gf_1, gf_2, gf_3, gf_4, gf_7, gf_21, gf_63, dy_0, dy_1, dy_2, dy_3, dy_7, dy_21, px_brT, px_brF, true_and, and_true, and_false, false_and, and_self, true_implies, false_implies, or_true, true_or, or_false, false_or, eq_self, ne_eq, not_false_eq_true, not_true_eq_false, if_true, if_false, List.mem_cons, List.not_mem_nil, List.length_cons, List.length_nil, Nat.reduceEqDiff, Nat.reduceAdd, Nat.reduceSub, Nat.reduceLeDiff, Nat.reduceLT, Int.reduceEq, Int.reduceLT, Int.reduceLE, Int.reduceNeg, Int.reduceAdd, Int.reduceSub, Int.reduceToNat, ↓reduceIte, one_ne_zero_, zero_ne_one_, px_in32L, cd_17]
    repeat' (first | (with_reducible apply And.intro) | (with_reducible refine px_br_intro (fun _ => ?_) (fun _ => ?_)))
    all_goals (try (first | (unfold px_in32; omega) | omega))
    · rename_i c5
      exact ih (by omega) M' b l (by omega) (isBB_no hb (fun _ => by show l ≤ ((pcs M0 v n c).length : Int); omega)) hfr'
    · rename_i c5
      rw [e1]
      exact ih (by omega) M' c _ (by omega) (isBB_yes hc0 hb hcd (by show ((pcs M0 v n c).length : Int) < l; omega)) hfr'
set_option maxHeartbeats 600000 in
set_option maxRecDepth 100000 in
theorem sp_bestBase {v n d : Int} (hkv : px_kd LAY v = 0) (hlv : n ≤ px_ln LAY v) (hv : v ≠ 106 ∧ v ≠ 107) (hkd : px_kd LAY d = 0) (hld : px_ln LAY d = 40) (hd : d ≠ 106 ∧ d ≠ 107) (hn0 : 0 ≤ n) (hn : n ≤ 40) (hl : ∀ c, 0 ≤ c → c < 40 → cnd M d c → 0 ≤ M 57 c ∧ M 57 c ≤ 40) (hbv : ∀ j, 0 ≤ j → j < n → 0 ≤ M v j ∧ M v j < 256) (h : ∀ M' b l, isBest M v n d 40 b l → (0 ≤ b → M' 106 1 = l ∧ lst (M' 107) l = pcs M v n b) → (∀ b, b ≠ 106 → b ≠ 107 → M' b = M b) → Q (some (0, b)) M') : px_Ok 17 [(2, 56), (2, v), (0, n), (2, d)] LAY M Q := by
  refine px_ok_go (inl := []) (ls0 := [(2, 56), (2, v), (0, n), (2, d), (9, 0), (9, 0), (9, 0), (9, 0)]) 60 (by decide) (Nat.le_of_ble_eq_true rfl) rfl ?_
  simp only [px_go, px_Q0_at, px_sx_0, px_sx_s, px_cl, px_step, ↓px_ll, px_lg, f4_, ↓px_r1, ↓px_r2, ↓px_r4, ↓px_r5, ↓px_p1, ↓px_p2, ↓px_p3, ↓px_pop, px_k_0, px_k_s, px_k3_0, px_stk_, px_cats, px_ent, px_st1, px_st2, px_mask, ↓px_tsw, ↓px_lsw, ct_, mls_0, mls_1, mls_2, mls_3, mls_4, mls_5, kd_0, kd_1, kd_2, kd_3, ln_0, ln_1, ln_2, ln_3, gf_0, gf_1, gf_2, gf_3, gf_4, gf_7, gf_21, gf_63, dy_0, dy_1, dy_2, dy_3, dy_7, dy_21, px_brT, px_brF, true_and, and_true, and_false, false_and, and_self, true_implies, false_implies, or_true, true_or, or_false, false_or, eq_self, ne_eq, not_false_eq_true, not_true_eq_false, if_true, if_false, List.mem_cons, List.not_mem_nil, List.length_cons, List.length_nil, Nat.reduceEqDiff, Nat.reduceAdd, Nat.reduceSub, Nat.reduceLeDiff, Nat.reduceLT, Int.reduceEq, Int.reduceLT, Int.reduceLE, Int.reduceNeg, Int.reduceAdd, Int.reduceSub, Int.reduceToNat, ↓reduceIte, one_ne_zero_, zero_ne_one_, px_in32L, cd_17]
  repeat' (first | (with_reducible apply And.intro) | (with_reducible refine px_br_intro (fun _ => ?_) (fun _ => ?_)))
  all_goals (try (first | (unfold px_in32; omega) | omega))
  exact lp_bestBase hkv hlv hv hkd hld hd hn0 hn hl hbv h 0 (by decide) M (-2) n (Int.le_refl 0) (Or.inl ⟨rfl, rfl, fun c a b => by omega⟩) (fun _ _ _ => rfl)
end PS
