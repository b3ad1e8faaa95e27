/-! EditionVault.Contents: losing -/
set_option maxRecDepth 100000 in
/-- X1_remember -/
theorem cd_20 : px_at 20 0 = some (1, [], .aload_n 0, []) ∧ px_at 20 1 = some (4, [], .getfield 55, [1, 9, 2, 1, 85]) ∧ px_at 20 4 = some (7, [], .invokevirtual 122, [76, 0, 6, 66]) ∧ px_at 20 7 = some (8, [], .iconst 0, []) ∧ px_at 20 8 = some (9, [], .istore_n 1, []) ∧ px_at 20 9 = some (10, [1, 1], .iload_n 1, []) ∧ px_at 20 10 = some (12, [], .bipush 40, []) ∧ px_at 20 12 = some (15, [], .if_icmp .ge 20, [32]) ∧ px_at 20 15 = some (16, [], .aload_n 0, []) ∧ px_at 20 16 = some (19, [], .getfield 52, [1, 12, 2, 1, 88]) ∧ px_at 20 19 = some (20, [], .iload_n 1, []) ∧ px_at 20 20 = some (21, [], .aload_n 0, []) ∧ px_at 20 21 = some (22, [], .iload_n 1, []) ∧ px_at 20 22 = some (25, [], .invokevirtual 60, [7, 1, 1, 67]) ∧ px_at 20 25 = some (26, [], .bastore, []) ∧ px_at 20 26 = some (29, [], .iinc 1 1, []) ∧ px_at 20 29 = some (32, [], .goto (-20), [9]) ∧ px_at 20 32 = some (33, [], .return_, []) := ⟨rfl, rfl, rfl, rfl, rfl, rfl, rfl, rfl, rfl, rfl, rfl, rfl, rfl, rfl, rfl, rfl, rfl, rfl⟩
set_option maxRecDepth 100000 in
/-- X1_restore -/
theorem cd_21 : px_at 21 0 = some (1, [], .aload_n 0, []) ∧ px_at 21 1 = some (4, [], .getfield 55, [1, 9, 2, 1, 85]) ∧ px_at 21 4 = some (7, [], .invokevirtual 125, [77, 0, 6, 87]) ∧ px_at 21 7 = some (8, [], .iconst 0, []) ∧ px_at 21 8 = some (9, [], .istore_n 1, []) ∧ px_at 21 9 = some (10, [1, 1], .iload_n 1, []) ∧ px_at 21 10 = some (12, [], .bipush 40, []) ∧ px_at 21 12 = some (15, [], .if_icmp .ge 31, [43]) ∧ px_at 21 15 = some (16, [], .aload_n 0, []) ∧ px_at 21 16 = some (17, [], .iload_n 1, []) ∧ px_at 21 17 = some (20, [], .invokevirtual 60, [7, 1, 1, 67]) ∧ px_at 21 20 = some (23, [], .ifCond .eq 17, [37]) ∧ px_at 21 23 = some (24, [], .aload_n 0, []) ∧ px_at 21 24 = some (27, [], .getfield 52, [1, 12, 2, 1, 88]) ∧ px_at 21 27 = some (28, [], .iload_n 1, []) ∧ px_at 21 28 = some (29, [], .baload, []) ∧ px_at 21 29 = some (32, [], .ifCond .ne 8, [37]) ∧ px_at 21 32 = some (33, [], .aload_n 0, []) ∧ px_at 21 33 = some (34, [], .iload_n 1, []) ∧ px_at 21 34 = some (37, [], .invokevirtual 128, [22, 1, 1, 88]) ∧ px_at 21 37 = some (40, [], .iinc 1 1, []) ∧ px_at 21 40 = some (43, [], .goto (-31), [9]) ∧ px_at 21 43 = some (44, [], .return_, []) := ⟨rfl, rfl, rfl, rfl, rfl, rfl, rfl, rfl, rfl, rfl, rfl, rfl, rfl, rfl, rfl, rfl, rfl, rfl, rfl, rfl, rfl, rfl, rfl⟩
set_option maxRecDepth 100000 in
/-- X1_lose -/
theorem cd_22 : px_at 22 0 = some (1, [], .aload_n 0, []) ∧ px_at 22 1 = some (4, [], .getfield 55, [1, 9, 2, 1, 85]) ∧ px_at 22 4 = some (5, [], .aload_n 0, []) ∧ px_at 22 5 = some (8, [], .getfield 18, [1, 2, 2, 1, 71]) ∧ px_at 22 8 = some (9, [], .iload_n 1, []) ∧ px_at 22 9 = some (10, [], .iaload, []) ∧ px_at 22 10 = some (11, [], .aload_n 0, []) ∧ px_at 22 11 = some (14, [], .getfield 21, [1, 3, 2, 1, 72]) ∧ px_at 22 14 = some (15, [], .iload_n 1, []) ∧ px_at 22 15 = some (16, [], .iaload, []) ∧ px_at 22 16 = some (18, [], .bipush (-2), []) ∧ px_at 22 18 = some (21, [], .invokevirtual 118, [81, 3, 6, 81]) ∧ px_at 22 21 = some (22, [], .aload_n 0, []) ∧ px_at 22 22 = some (25, [], .getfield 27, [1, 5, 2, 1, 76]) ∧ px_at 22 25 = some (26, [], .iload_n 1, []) ∧ px_at 22 26 = some (27, [], .iconst (-1), []) ∧ px_at 22 27 = some (28, [], .iastore, []) ∧ px_at 22 28 = some (29, [], .return_, []) := ⟨rfl, rfl, rfl, rfl, rfl, rfl, rfl, rfl, rfl, rfl, rfl, rfl, rfl, rfl, rfl, rfl, rfl, rfl⟩
set_option maxRecDepth 100000 in
/-- X1_loseUntied -/
theorem cd_23 : px_at 23 0 = some (1, [], .iconst 0, []) ∧ px_at 23 1 = some (2, [], .istore_n 2, []) ∧ px_at 23 2 = some (3, [], .iconst 0, []) ∧ px_at 23 3 = some (4, [], .istore_n 3, []) ∧ px_at 23 4 = some (5, [1, 1, 1, 1], .iload_n 3, []) ∧ px_at 23 5 = some (7, [], .bipush 40, []) ∧ px_at 23 7 = some (10, [], .if_icmp .ge 31, [38]) ∧ px_at 23 10 = some (11, [], .aload_n 0, []) ∧ px_at 23 11 = some (12, [], .iload_n 3, []) ∧ px_at 23 12 = some (15, [], .invokevirtual 60, [7, 1, 1, 67]) ∧ px_at 23 15 = some (18, [], .ifCond .eq 17, [32]) ∧ px_at 23 18 = some (19, [], .aload_n 1, []) ∧ px_at 23 19 = some (20, [], .iload_n 3, []) ∧ px_at 23 20 = some (21, [], .iaload, []) ∧ px_at 23 21 = some (24, [], .ifCond .ne 11, [32]) ∧ px_at 23 24 = some (25, [], .aload_n 0, []) ∧ px_at 23 25 = some (26, [], .iload_n 3, []) ∧ px_at 23 26 = some (29, [], .invokevirtual 128, [22, 1, 1, 88]) ∧ px_at 23 29 = some (32, [], .iinc 2 1, []) ∧ px_at 23 32 = some (35, [], .iinc 3 1, []) ∧ px_at 23 35 = some (38, [], .goto (-31), [4]) ∧ px_at 23 38 = some (39, [], .iload_n 2, []) ∧ px_at 23 39 = some (40, [], .ireturn, [0]) := ⟨rfl, rfl, rfl, rfl, rfl, rfl, rfl, rfl, rfl, rfl, rfl, rfl, rfl, rfl, rfl, rfl, rfl, rfl, rfl, rfl, rfl, rfl, rfl⟩
/-- some have gone: those before k that are there and are in p -/
def gone (M0 M : px_mem) (p : Int → Prop) (k : Int) : Prop :=
  (∀ x, (0 ≤ x ∧ x < k ∧ 0 ≤ M0 62 x ∧ p x → M 62 x = -1) ∧ (¬ (0 ≤ x ∧ x < k ∧ 0 ≤ M0 62 x ∧ p x) → M 62 x = M0 62 x)) ∧
  (∀ x, 0 ≤ x → x < 400 → (0 ≤ M0 54 x ∧ M0 54 x < k ∧ p (M0 54 x) → M 54 x = -2) ∧ (¬ (0 ≤ M0 54 x ∧ M0 54 x < k ∧ p (M0 54 x)) → M 54 x = M0 54 x))
theorem gone_step {M0 M M' : px_mem} {p : Int → Prop} {k : Int} (ho : own M0) (k0 : 0 ≤ k) (k1 : k < 40) (hu : 0 ≤ M0 62 k) (hp : p k) (h : gone M0 M p k) (h1 : ∀ x, M' 54 x = if M0 59 k ≤ x ∧ x < M0 59 k + M0 60 k then -2 else M 54 x) (h2 : ∀ x, M' 62 x = if x = k then -1 else M 62 x) : gone M0 M' p (k + 1) := by
  obtain ⟨a, b⟩ := h
  obtain ⟨o1, o2⟩ := ho
  refine ⟨fun x => ?_, fun x x0 x1 => ?_⟩
  · have := a x
    rw [h2 x]
    by_cases e : x = k
    · subst e; rw [if_pos rfl]; exact ⟨fun _ => rfl, fun c => absurd ⟨k0, by omega, hu, hp⟩ c⟩
    · rw [if_neg e]
      exact ⟨fun c => this.1 ⟨c.1, by omega, c.2.2⟩, fun c => this.2 (fun d => c ⟨d.1, by omega, d.2.2⟩)⟩
  · have := b x x0 x1
    have g1 := o1 k k0 k1 hu x
    have g2 := o2 x x0 x1
    rw [h1 x]
    by_cases e : M0 59 k ≤ x ∧ x < M0 59 k + M0 60 k
    · rw [if_pos e]
      have g := g1 e.1 e.2
      exact ⟨fun _ => rfl, fun c => absurd ⟨by omega, by omega, by rw [g]; exact hp⟩ c⟩
    · rw [if_neg e]
      refine ⟨fun c => this.1 ⟨c.1, ?_, c.2.2⟩, fun c => this.2 (fun d => c ⟨d.1, by omega, d.2.2⟩)⟩
      by_cases e2 : M0 54 x = k
      · rw [e2] at g2; omega
      · omega
theorem gone_skip {M0 M : px_mem} {p : Int → Prop} {k : Int} (ho : own M0) (hn : ¬ (0 ≤ M0 62 k ∧ p k)) (h : gone M0 M p k) : gone M0 M p (k + 1) := by
  obtain ⟨a, b⟩ := h
  obtain ⟨o1, o2⟩ := ho
  refine ⟨fun x => ?_, fun x x0 x1 => ?_⟩
  · have := a x
    by_cases e : x = k
    · subst e; exact ⟨fun c => absurd c.2.2 hn, fun c => this.2 (fun d => by omega)⟩
    · exact ⟨fun c => this.1 ⟨c.1, by omega, c.2.2⟩, fun c => this.2 (fun d => c ⟨d.1, by omega, d.2.2⟩)⟩
  · have := b x x0 x1
    have g2 := o2 x x0 x1
    refine ⟨fun c => this.1 ⟨c.1, ?_, c.2.2⟩, fun c => this.2 (fun d => c ⟨d.1, by omega, d.2.2⟩)⟩
    by_cases e2 : M0 54 x = k
    · rw [e2] at g2 c; exact absurd ⟨by omega, c.2.2⟩ hn
    · omega
theorem gone_0 (M : px_mem) (p : Int → Prop) : gone M M p 0 :=
  ⟨fun x => ⟨fun c => by omega, fun _ => rfl⟩, fun x _ _ => ⟨fun c => by omega, fun _ => rfl⟩⟩
section PS
variable {M : px_mem} {Q : Option pv → px_mem → Prop}
set_option maxHeartbeats 600000 in
set_option maxRecDepth 100000 in
theorem sp_lose {c : Int} (hc : 0 ≤ c ∧ c < 40) (hp : 0 ≤ M 59 c ∧ 0 ≤ M 60 c ∧ M 59 c + M 60 c ≤ 400) (h : ∀ M', (∀ x, M' 54 x = if M 59 c ≤ x ∧ x < M 59 c + M 60 c then -2 else M 54 x) → (∀ x, M' 62 x = if x = c then -1 else M 62 x) → (∀ b, b ≠ 54 → b ≠ 62 → M' b = M b) → Q none M') : px_Ok 22 [(2, 56), (0, c)] LAY M Q := by
  refine px_ok_go (inl := []) (ls0 := [(2, 56), (0, c)]) 60 (by decide) (Nat.le_of_ble_eq_true rfl) rfl ?_
  simp only [px_go, px_Q0_at, px_sx_0, px_sx_s, px_cl, px_step, ↓px_ll, px_lg, f4_, ↓px_r1, ↓px_r2, ↓px_r4, ↓px_r5, ↓px_p1, ↓px_p2, ↓px_p3, ↓px_pop, px_k_0, px_k_s, px_k3_0, px_stk_, px_cats, px_ent, px_st1, px_st2, px_mask, ↓px_tsw, ↓px_lsw, ct_, mls_0, mls_1, mls_2, mls_3, mls_4, mls_5, kd_0, kd_1, kd_2, kd_3, ln_0, ln_1, ln_2, ln_3, gf_0, gf_1, gf_2, gf_3, gf_4, gf_7, gf_21, gf_63, dy_0, dy_1, dy_2, dy_3, dy_7, dy_21, px_brT, px_brF, true_and, and_true, and_false, false_and, and_self, true_implies, false_implies, or_true, true_or, or_false, false_or, eq_self, ne_eq, not_false_eq_true, not_true_eq_false, if_true, if_false, List.mem_cons, List.not_mem_nil, List.length_cons, List.length_nil, Nat.reduceEqDiff, Nat.reduceAdd, Nat.reduceSub, Nat.reduceLeDiff, Nat.reduceLT, Int.reduceEq, Int.reduceLT, Int.reduceLE, Int.reduceNeg, Int.reduceAdd, Int.reduceSub, Int.reduceToNat, ↓reduceIte, one_ne_zero_, zero_ne_one_, px_in32L, cd_22]
  repeat' (first | (with_reducible apply And.intro) | (with_reducible refine px_br_intro (fun _ => ?_) (fun _ => ?_)))
  all_goals (try (first | (unfold px_in32; omega) | omega))
  refine sp_own (by omega) (by omega) (by omega) (fun M' e1 e2 => ?_)
  simp only [px_go, px_Q0_at, px_sx_0, px_sx_s, px_cl, px_step, ↓px_ll, px_lg, f4_, ↓px_r1, ↓px_r2, ↓px_r4, ↓px_r5, ↓px_p1, ↓px_p2, ↓px_p3, ↓px_pop, px_k_0, px_k_s, px_k3_0, px_stk_, px_cats, px_ent, px_st1, px_st2, px_mask, ↓px_tsw, ↓px_lsw, ct_, mls_0, mls_1, mls_2, mls_3, mls_4, mls_5, kd_0, kd_1, kd_2, kd_3, ln_0, ln_1, ln_2, ln_3, gf_0, gf_1, gf_2, gf_3, gf_4, gf_7, gf_21, gf_63, dy_0, dy_1, dy_2, dy_3, dy_7, dy_21, px_brT, px_brF, true_and, and_true, and_false, false_and, and_self, true_implies, false_implies, or_true, true_or, or_false, false_or, eq_self, ne_eq, not_false_eq_true, not_true_eq_false, if_true, if_false, List.mem_cons, List.not_mem_nil, List.length_cons, List.length_nil, Nat.reduceEqDiff, Nat.reduceAdd, Nat.reduceSub, Nat.reduceLeDiff, Nat.reduceLT, Int.reduceEq, Int.reduceLT, Int.reduceLE, Int.reduceNeg, Int.reduceAdd, Int.reduceSub, Int.reduceToNat, ↓reduceIte, one_ne_zero_, zero_ne_one_, px_in32L, cd_22]
  repeat' (first | (with_reducible apply And.intro) | (with_reducible refine px_br_intro (fun _ => ?_) (fun _ => ?_)))
  all_goals (try (first | (unfold px_in32; omega) | omega))
  refine h _ (fun x => ?_) (fun x => ?_) (fun b b0 b1 => ?_)
  · rw [row_ne (by decide)]; exact e1 x
  · rw [px_up_at, e2 62 (by decide)]
    by_cases e : x = c
    · rw [if_pos e, if_pos ⟨rfl, e⟩]
    · rw [if_neg e, if_neg (fun d => e d.2)]
  · rw [row_ne b1]; exact e2 b b0
set_option maxHeartbeats 600000 in
set_option maxRecDepth 100000 in
theorem lp_loseUntied {M0 : px_mem} {v : Int} (hk : px_kd LAY v = 0) (hl : px_ln LAY v = 40) (hv : v ≠ 54 ∧ v ≠ 62) (ho : own M0) (hp : ∀ c, 0 ≤ c → c < 40 → 0 ≤ M0 62 c → 0 ≤ M0 59 c ∧ 0 ≤ M0 60 c ∧ M0 59 c + M0 60 c ≤ 400) (h : ∀ M', gone M0 M' (fun c => M0 v c = 0) 40 → (∀ b, b ≠ 54 → b ≠ 62 → M' b = M0 b) → Q (some (0, sm 40 (fun c => b1 (0 ≤ M0 62 c ∧ M0 v c = 0)))) M') (k : Int) (hk_k : k ≤ 40) : ∀ (M : px_mem) (n : Int), 0 ≤ k → n = sm k (fun c => b1 (0 ≤ M0 62 c ∧ M0 v c = 0)) → gone M0 M (fun c => M0 v c = 0) k → (∀ b, b ≠ 54 → b ≠ 62 → M b = M0 b) → px_WP 23 0 0 (px_Q0 LAY Q) 4 [(2, 56), (2, v), (0, n), (0, k)] [] LAY M 0 0 := by
  refine up_ind (P := fun k => ∀ (M : px_mem) (n : Int), 0 ≤ k → n = sm k (fun c => b1 (0 ≤ M0 62 c ∧ M0 v c = 0)) → gone M0 M (fun c => M0 v c = 0) k → (∀ b, b ≠ 54 → b ≠ 62 → M b = M0 b) → px_WP 23 0 0 (px_Q0 LAY Q) 4 [(2, 56), (2, v), (0, n), (0, k)] [] LAY M 0 0) (40) (fun k hk_k ih => ?_) k hk_k
  intro M n k0 hn hg hf
  have hs := sm_s k0 (fun c => b1 (0 ≤ M0 62 c ∧ M0 v c = 0))
  have hr := sm_bnd (c := 1) k0 (f := fun c => b1 (0 ≤ M0 62 c ∧ M0 v c = 0)) (fun j a b => b1_rng _)
  have hMv := hf v hv.1 hv.2
  have h62 : M 62 k = M0 62 k := (hg.1 k).2 (by omega)
  refine px_go_ok (inl := [7]) 60 ?_
  simp only [px_go, px_Q0_at, px_sx_0, px_sx_s, px_cl, px_step, ↓px_ll, px_lg, f4_, ↓px_r1, ↓px_r2, ↓px_r4, ↓px_r5, ↓px_p1, ↓px_p2, ↓px_p3, ↓px_pop, px_k_0, px_k_s, px_k3_0, px_stk_, px_cats, px_ent, px_st1, px_st2, px_mask, ↓px_tsw, ↓px_lsw, ct_, mls_0, mls_1, mls_2, mls_3, mls_4, mls_5, kd_0, kd_1, kd_2, kd_3, ln_0, ln_1, ln_2, ln_3, gf_0, gf_1, gf_2, gf_3, gf_4, gf_7, gf_21, gf_63, dy_0, dy_1, dy_2, dy_3, dy_7, dy_21, px_brT, px_brF, true_and, and_true, and_false, false_and, and_self, true_implies, false_implies, or_true, true_or, or_false, false_or, eq_self, ne_eq, not_false_eq_true, not_true_eq_false, if_true, if_false, List.mem_cons, List.not_mem_nil, List.length_cons, List.length_nil, Nat.reduceEqDiff, Nat.reduceAdd, Nat.reduceSub, Nat.reduceLeDiff, Nat.reduceLT, Int.reduceEq, Int.reduceLT, Int.reduceLE, Int.reduceNeg, Int.reduceAdd, Int.reduceSub, Int.reduceToNat, ↓reduceIte, one_ne_zero_, zero_ne_one_, px_in32L, cd_23, cd_7, hk, hl]
  repeat' (first | (with_reducible apply And.intro) | (with_reducible refine px_br_intro (fun _ => ?_) (fun _ => ?_)))
  all_goals (try (first | (unfold px_in32; omega) | omega))
  · rename_i c1
    rw [show k = 40 by omega] at hg hn
    rw [hn]; exact h M hg hf
  · rename_i c1 c2
    have e : b1 (0 ≤ M0 62 k ∧ M0 v k = 0) = 0 := b1_f (by omega)
    exact ih (by omega) M n (by omega) (by omega) (gone_skip ho (by omega) hg) hf
  · rename_i c1 c2 c3
    rw [hMv] at c3
    have e : b1 (0 ≤ M0 62 k ∧ M0 v k = 0) = 1 := b1_t ⟨by omega, c3⟩
    have h59 := hf 59 (by decide) (by decide)
    have h60 := hf 60 (by decide) (by decide)
    refine sp_lose ⟨k0, by omega⟩ (by rw [h59, h60]; exact hp k k0 (by omega) (by omega)) (fun M' e1 e2 e3 => ?_)
    rw [h59, h60] at e1
    simp only [px_go, px_Q0_at, px_sx_0, px_sx_s, px_cl, px_step, ↓px_ll, px_lg, f4_, ↓px_r1, ↓px_r2, ↓px_r4, ↓px_r5, ↓px_p1, ↓px_p2, ↓px_p3, ↓px_pop, px_k_0, px_k_s, px_k3_0, px_stk_, px_cats, px_ent, px_st1, px_st2, px_mask, ↓px_tsw, ↓px_lsw, ct_, mls_0, mls_1, mls_2, mls_3, mls_4, mls_5, kd_0, kd_1, kd_2, kd_3, ln_0, ln_1, ln_2, ln_3, gf_0, gf_1, gf_2, gf_3, gf_4, gf_7, gf_21, gf_63, dy_0, dy_1, dy_2, dy_3, dy_7, dy_21, px_brT, px_brF, true_and, and_true, and_false, false_and, and_self, true_implies, false_implies, or_true, true_or, or_false, false_or, eq_self, ne_eq, not_false_eq_true, not_true_eq_false, if_true, if_false, List.mem_cons, List.not_mem_nil, List.length_cons, List.length_nil, Nat.reduceEqDiff, Nat.reduceAdd, Nat.reduceSub, Nat.reduceLeDiff, Nat.reduceLT, Int.reduceEq, Int.reduceLT, Int.reduceLE, Int.reduceNeg, Int.reduceAdd, Int.reduceSub, Int.reduceToNat, ↓reduceIte, one_ne_zero_, zero_ne_one_, px_in32L, cd_23, cd_7]
    repeat' (first | (with_reducible apply And.intro) | (with_reducible refine px_br_intro (fun _ => ?_) (fun _ => ?_)))
    all_goals (try (first | (unfold px_in32; omega) | omega))
    exact ih (by omega) M' (n + 1) (by omega) (by omega) (gone_step ho k0 (by omega) (by omega) c3 hg e1 e2) (fun b b0 b1 => by rw [e3 b b0 b1]; exact hf b b0 b1)
  · rename_i c1 c2 c3
    rw [hMv] at c3
    have e : b1 (0 ≤ M0 62 k ∧ M0 v k = 0) = 0 := b1_f (by omega)
    exact ih (by omega) M n (by omega) (by omega) (gone_skip ho (by omega) hg) hf
set_option maxHeartbeats 600000 in
set_option maxRecDepth 100000 in
theorem sp_loseUntied {v : Int} (hk : px_kd LAY v = 0) (hl : px_ln LAY v = 40) (hv : v ≠ 54 ∧ v ≠ 62) (ho : own M) (hp : ∀ c, 0 ≤ c → c < 40 → 0 ≤ M 62 c → 0 ≤ M 59 c ∧ 0 ≤ M 60 c ∧ M 59 c + M 60 c ≤ 400) (h : ∀ M', gone M M' (fun c => M v c = 0) 40 → (∀ b, b ≠ 54 → b ≠ 62 → M' b = M b) → Q (some (0, sm 40 (fun c => b1 (0 ≤ M 62 c ∧ M v c = 0)))) M') : px_Ok 23 [(2, 56), (2, v)] LAY M Q := by
  refine px_ok_go (inl := [7]) (ls0 := [(2, 56), (2, v), (9, 0), (9, 0)]) 60 (by decide) (Nat.le_of_ble_eq_true rfl) rfl ?_
  simp only [px_go, px_Q0_at, px_sx_0, px_sx_s, px_cl, px_step, ↓px_ll, px_lg, f4_, ↓px_r1, ↓px_r2, ↓px_r4, ↓px_r5, ↓px_p1, ↓px_p2, ↓px_p3, ↓px_pop, px_k_0, px_k_s, px_k3_0, px_stk_, px_cats, px_ent, px_st1, px_st2, px_mask, ↓px_tsw, ↓px_lsw, ct_, mls_0, mls_1, mls_2, mls_3, mls_4, mls_5, kd_0, kd_1, kd_2, kd_3, ln_0, ln_1, ln_2, ln_3, gf_0, gf_1, gf_2, gf_3, gf_4, gf_7, gf_21, gf_63, dy_0, dy_1, dy_2, dy_3, dy_7, dy_21, px_brT, px_brF, true_and, and_true, and_false, false_and, and_self, true_implies, false_implies, or_true, true_or, or_false, false_or, eq_self, ne_eq, not_false_eq_true, not_true_eq_false, if_true, if_false, List.mem_cons, List.not_mem_nil, List.length_cons, List.length_nil, Nat.reduceEqDiff, Nat.reduceAdd, Nat.reduceSub, Nat.reduceLeDiff, Nat.reduceLT, Int.reduceEq, Int.reduceLT, Int.reduceLE, Int.reduceNeg, Int.reduceAdd, Int.reduceSub, Int.reduceToNat, ↓reduceIte, one_ne_zero_, zero_ne_one_, px_in32L, cd_23, cd_7]
  repeat' (first | (with_reducible apply And.intro) | (with_reducible refine px_br_intro (fun _ => ?_) (fun _ => ?_)))
  all_goals (try (first | (unfold px_in32; omega) | omega))
  exact lp_loseUntied hk hl hv ho hp h 0 (by decide) M 0 (Int.le_refl 0) rfl (gone_0 M _) (fun _ _ _ => rfl)
end PS
