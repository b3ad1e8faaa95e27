set_option maxRecDepth 100000 in
/-- X12_collects -/
theorem cd_212 : px_at 212 0 = some (1, [], .iconst 0, []) ∧ px_at 212 1 = some (2, [], .istore_n 1, []) ∧ px_at 212 2 = some (3, [], .iconst 1, []) ∧ px_at 212 3 = some (4, [], .istore_n 2, []) ∧ px_at 212 4 = some (5, [1, 1, 1, 0], .iload_n 2, []) ∧ px_at 212 5 = some (8, [], .ifCond .eq 63, [68]) ∧ px_at 212 8 = some (9, [], .iconst 0, []) ∧ px_at 212 9 = some (10, [], .istore_n 2, []) ∧ px_at 212 10 = some (11, [], .iconst 0, []) ∧ px_at 212 11 = some (12, [], .istore_n 3, []) ∧ px_at 212 12 = some (13, [1, 1, 1, 1], .iload_n 3, []) ∧ px_at 212 13 = some (15, [], .bipush 40, []) ∧ px_at 212 15 = some (18, [], .if_icmp .ge 50, [65]) ∧ px_at 212 18 = some (19, [], .aload_n 0, []) ∧ px_at 212 19 = some (20, [], .iload_n 3, []) ∧ px_at 212 20 = some (21, [], .iconst 0, []) ∧ px_at 212 21 = some (24, [], .invokevirtual 109, [187, 2, 11, 259]) ∧ px_at 212 24 = some (27, [], .ifCond .eq 35, [59]) ∧ px_at 212 27 = some (28, [], .aload_n 0, []) ∧ px_at 212 28 = some (29, [], .iload_n 3, []) ∧ px_at 212 29 = some (32, [], .invokevirtual 190, [210, 1, 11, 291]) ∧ px_at 212 32 = some (35, [], .ifCond .ne 27, [59]) ∧ px_at 212 35 = some (36, [], .aload_n 0, []) ∧ px_at 212 36 = some (37, [], .iload_n 3, []) ∧ px_at 212 37 = some (40, [], .invokevirtual 193, [211, 1, 11, 292]) ∧ px_at 212 40 = some (43, [], .ifCond .le 6, [46]) ∧ px_at 212 43 = some (46, [], .goto 16, [59]) ∧ px_at 212 46 = some (47, [], .aload_n 0, []) ∧ px_at 212 47 = some (48, [], .iload_n 3, []) ∧ px_at 212 48 = some (49, [], .iconst 0, []) ∧ px_at 212 49 = some (50, [], .iconst 0, []) ∧ px_at 212 50 = some (53, [], .invokevirtual 170, [188, 3, 11, 274]) ∧ px_at 212 53 = some (54, [], .iload_n 1, []) ∧ px_at 212 54 = some (55, [], .iconst 1, []) ∧ px_at 212 55 = some (56, [], .iadd, []) ∧ px_at 212 56 = some (57, [], .istore_n 1, []) ∧ px_at 212 57 = some (58, [], .iconst 1, []) ∧ px_at 212 58 = some (59, [], .istore_n 2, []) ∧ px_at 212 59 = some (62, [], .iinc 3 1, []) ∧ px_at 212 62 = some (65, [], .goto (-50), [12]) ∧ px_at 212 65 = some (68, [], .goto (-61), [4]) ∧ px_at 212 68 = some (69, [], .iload_n 1, []) ∧ px_at 212 69 = some (70, [], .ireturn, [0]) := ⟨rfl, rfl, rfl, rfl, rfl, rfl, rfl, rfl, rfl, rfl, rfl, rfl, rfl, rfl, rfl, rfl, rfl, rfl, rfl, rfl, rfl, rfl, rfl, rfl, rfl, rfl, rfl, rfl, rfl, rfl, rfl, rfl, rfl, rfl, rfl, rfl, rfl, rfl, rfl, rfl, rfl, rfl, rfl⟩
/-! the reference: contents that nothing needs go -/
/-- all of the editions is as it was -/
def eqE (F' F : Int → Int) : Prop := F' 5 = F 5 ∧ ∀ x, 1294 ≤ x → F' x = F x
theorem eqE_refl (F : Int → Int) : eqE F F := ⟨rfl, fun _ _ => rfl⟩
theorem eqE_trans {A B C : Int → Int} (h : eqE A B) (h2 : eqE B C) : eqE A C := ⟨h.1.trans h2.1, fun x x0 => (h.2 x x0).trans (h2.2 x x0)⟩
theorem eqE_rE {F' F : Int → Int} (h : eqE F' F) {e p : Int} (e0 : 0 ≤ e) (p0 : 0 ≤ p) : rE F' e p = rE F e p := h.2 _ (by omega)
theorem eqE_rcf {F' F : Int → Int} (h : eqE F' F) {e j : Int} (e0 : 0 ≤ e) (j0 : 0 ≤ j) : rcf F' e j = rcf F e j := h.2 _ (by omega)
theorem fp_congr {F' F : Int → Int} {a b : Int} (h : ∀ x, 0 ≤ x → x < 13 → F' (a + x) = F (b + x)) (hb : F b ≤ 12) : fp F' a = fp F b := by
  have h0 := h 0 (by decide) (by decide)
  rw [Int.add_zero, Int.add_zero] at h0
  unfold fp
  rw [h0]
  exact lst_congr (fun k k0 k1 => by rw [Int.add_assoc, Int.add_assoc]; exact h (1 + k) (by omega) (by omega))
theorem pok_congr {F' F : Int → Int} {a b n m : Int} (h : ∀ x, 0 ≤ x → x < 13 → F' (a + x) = F (b + x)) (hp : pok F b n) (ha : 0 ≤ a ∧ a + 13 ≤ m) : pok F' a m := by
  have h0 := h 0 (by decide) (by decide)
  rw [Int.add_zero, Int.add_zero] at h0
  obtain ⟨p0, p1, p2, p3, p4⟩ := hp
  refine ⟨ha.1, by omega, by omega, ha.2, fun k k0 k1 => ?_⟩
  rw [Int.add_assoc, h (1 + k) (by omega) (by omega), ← Int.add_assoc]
  exact p4 k k0 (by omega)
theorem eqE_rpl {F' F dd : Int → Int} (h : eqE F' F) (hl : rls F dd) {e j : Int} (e0 : 0 ≤ e) (e1 : e < F 5) (j0 : 0 ≤ j) (j1 : j < rE F e 17) : rpl F' e j = rpl F e j :=
  fp_congr (fun x x0 _ => h.2 _ (by omega)) ((hl.2 e e0 e1).2.2 j j0 j1).1.2.2.1
theorem eqE_rls {F' F dd : Int → Int} (h : eqE F' F) (hl : rls F dd) : rls F' dd := by
  refine ⟨by rw [h.1]; exact hl.1, fun e e0 e1 => ?_⟩
  rw [h.1] at e1
  have h2 := hl.2 e e0 e1
  rw [eqE_rE h e0 (by decide)]
  refine ⟨h2.1, h2.2.1, fun j j0 j1 => ?_⟩
  have h3 := h2.2.2 j j0 j1
  rw [eqE_rpl h hl e0 e1 j0 j1, eqE_rcf h e0 j0]
  exact ⟨pok_congr (fun x x0 _ => h.2 _ (by omega)) h3.1 ⟨h3.1.1, h3.1.2.2.2.1⟩, h3.2⟩
theorem eqE_rlsd {F' F : Int → Int} (h : eqE F' F) (c : Int) : rlsd F' c ↔ rlsd F c := by
  unfold rlsd
  rw [h.1]
  constructor
  · rintro ⟨e, j, e0, e1, j0, j1, j2⟩
    rw [eqE_rE h e0 (by decide)] at j1
    rw [eqE_rcf h e0 j0] at j2
    exact ⟨e, j, e0, e1, j0, j1, j2⟩
  · rintro ⟨e, j, e0, e1, j0, j1, j2⟩
    refine ⟨e, j, e0, e1, j0, ?_, ?_⟩
    · rw [eqE_rE h e0 (by decide)]; exact j1
    · rw [eqE_rcf h e0 j0]; exact j2
/-- contents that nothing has, nor what is by them -/
def rnt (F dd : Int → Int) (c : Int) : Prop := ntC dd (fun c => rC F c 5) (F 5) (fun e => rE F e 17) (rcf F) c
theorem rok_dpt {F dd : Int → Int} (h : cw (rC F) dd) : dpt dd (fun c => rC F c 5) := fun c c0 c1 c2 => by
  have := h c c0 c1 c2
  unfold cok at this
  refine ⟨this.1, ?_⟩
  rcases this.2.2.2.2.2.2.2.2.2 with z | z
  · left; dsimp only; omega
  · right; exact ⟨z.1, z.2.1, z.2.2.1, z.2.2.2⟩
def colI (dd : Int → Int) (M0 M : px_mem) (n : Int) : Prop := (∀ b, b ≠ 128 → M b = M0 b) ∧ (∀ x, (∀ c, 0 ≤ c → c < 40 → x ≠ 654 + 6 * c) → M 128 x = M0 128 x) ∧ (∀ c, 0 ≤ c → c < 40 → (rC (M 128) c 0 = 1 ∧ 0 ≤ dd c) ∨ (rC (M 128) c 0 = 0 ∧ (0 ≤ dd c → rnt (M0 128) dd c))) ∧ n = sm 40 (fun c => b1 (0 ≤ dd c ∧ rC (M 128) c 0 = 0))
theorem colI_eqE {dd : Int → Int} {M0 M : px_mem} {n : Int} (h : colI dd M0 M n) : eqE (M 128) (M0 128) := ⟨h.2.1 5 (fun c _ _ => by omega), fun x x0 => h.2.1 x (fun c _ _ => by omega)⟩
theorem colI_rC {dd : Int → Int} {M0 M : px_mem} {n : Int} (h : colI dd M0 M n) {c p : Int} (p0 : 1 ≤ p) (p1 : p < 6) : rC (M 128) c p = rC (M0 128) c p := h.2.1 _ (fun d _ _ => by omega)
theorem rnt_no {F dd : Int → Int} (h : dpt dd (fun c => rC F c 5)) {c : Int} (c0 : 0 ≤ c) (hl : ¬ rlsd F c) (hd : ∀ d, 0 ≤ d → d < 40 → 0 ≤ dd d → rC F d 5 = c → rnt F dd d) : rnt F dd c := by
  intro i i0 hf
  rw [fullS_eq h c0] at hf
  rcases hf with z | ⟨d, d0, d1, d2, d3, d4⟩
  · obtain ⟨z1, j, z2, z3, z4⟩ := z
    exact hl ⟨i, j, i0, z1, z2, z3, z4⟩
  · exact hd d d0 d1 d2 d3 i i0 d4
theorem col_done {dd : Int → Int} {M0 M : px_mem} {n : Int} (hdp : dpt dd (fun c => rC (M0 128) c 5)) (hI : colI dd M0 M n) (hm : ∀ j, 0 ≤ j → j < 40 → rC (M 128) j 0 = 1 → rlsd (M0 128) j ∨ 0 < sm 40 (fun d => b1 (rC (M 128) d 0 = 1 ∧ rC (M 128) d 5 = j))) : ∀ (m : Nat) (c : Int), 0 ≤ c → c < 40 → 0 ≤ dd c → 3 ≤ dd c + m → rnt (M0 128) dd c → rC (M 128) c 0 = 0 := by
  intro m
  induction m with
  | zero =>
    intro c c0 c1 c2 c3 hn
    rcases hI.2.2.1 c c0 c1 with z | z
    · exfalso
      rcases hm c c0 c1 z.1 with w | w
      · obtain ⟨e, j, e0, e1, j0, j1, j2⟩ := w
        exact ntC_listed hdp c0 e0 e1 ⟨j, j0, j1, j2⟩ hn
      · have hne : ¬ ∀ d, 0 ≤ d → d < 40 → ¬ (rC (M 128) d 0 = 1 ∧ rC (M 128) d 5 = c) := fun q => by
          rw [(b1_sum_ex (by decide)).mpr q] at w; omega
        refine hne (fun d d0 d1 d2 => ?_)
        have d3 : rC (M0 128) d 5 = c := by rw [← colI_rC hI (by decide) (by decide)]; exact d2.2
        have d4 : 0 ≤ dd d := by rcases hI.2.2.1 d d0 d1 with y | y; exact y.2; omega
        have := hdp d d0 d1 d4
        simp only [d3] at this
        omega
    · exact z.1
  | succ m ih =>
    intro c c0 c1 c2 c3 hn
    rcases hI.2.2.1 c c0 c1 with z | z
    · exfalso
      rcases hm c c0 c1 z.1 with w | w
      · obtain ⟨e, j, e0, e1, j0, j1, j2⟩ := w
        exact ntC_listed hdp c0 e0 e1 ⟨j, j0, j1, j2⟩ hn
      · have hne : ¬ ∀ d, 0 ≤ d → d < 40 → ¬ (rC (M 128) d 0 = 1 ∧ rC (M 128) d 5 = c) := fun q => by
          rw [(b1_sum_ex (by decide)).mpr q] at w; omega
        refine hne (fun d d0 d1 d2 => ?_)
        have d3 : rC (M0 128) d 5 = c := by rw [← colI_rC hI (by decide) (by decide)]; exact d2.2
        have d4 : 0 ≤ dd d := by rcases hI.2.2.1 d d0 d1 with y | y; exact y.2; omega
        have d5 := hdp d d0 d1 d4
        simp only [d3] at d5
        have hnd : rnt (M0 128) dd d := fun i i0 hf => hn i i0 ((fullS_eq hdp c0).mpr (Or.inr ⟨d, d0, d1, d4, d3, hf⟩))
        have := ih d d0 d1 d4 (by omega) hnd
        omega
    · exact z.1
theorem colI_rm {dd : Int → Int} {M0 M : px_mem} {n k : Int} (hdp : dpt dd (fun c => rC (M0 128) c 5)) (hI : colI dd M0 M n) (k0 : 0 ≤ k) (k1 : k < 40) (hu : ¬ M 128 (654 + 6 * k + 0) = 0) (hl : ¬ rlsd (M0 128) k) (hb : sm 40 (fun d => b1 (rC (M 128) d 0 = 1 ∧ rC (M 128) d 5 = k)) ≤ 0) : colI dd M0 (px_up M 128 (654 + 6 * k + 0) 0) (n + 1) := by
  have hup : ∀ c, rC (px_up M 128 (654 + 6 * k + 0) 0 128) c 0 = if c = k then 0 else rC (M 128) c 0 := fun c => by
    show px_up M 128 (654 + 6 * k + 0) 0 128 (654 + 6 * c + 0) = _
    rw [px_up_at]
    by_cases q : c = k
    · rw [if_pos ⟨rfl, by omega⟩, if_pos q]
    · rw [if_neg (by omega), if_neg q]; rfl
  have hk : rC (M 128) k 0 = 1 ∧ 0 ≤ dd k := by
    rcases hI.2.2.1 k k0 k1 with z | z
    · exact z
    · exact absurd z.1 hu
  refine ⟨fun b b0 => by rw [row_ne b0]; exact hI.1 b b0, fun x x0 => ?_, fun c c0 c1 => ?_, ?_⟩
  · have := x0 k k0 k1
    rw [px_up_at, if_neg (by omega)]; exact hI.2.1 x x0
  · rw [hup c]
    by_cases q : c = k
    · rw [if_pos q]
      refine Or.inr ⟨rfl, fun _ => ?_⟩
      rw [q]
      refine rnt_no hdp k0 hl (fun d d0 d1 d2 d3 => ?_)
      rcases hI.2.2.1 d d0 d1 with z | z
      · exfalso
        have hall := (b1_sum_ex (n := 40) (p := fun d => rC (M 128) d 0 = 1 ∧ rC (M 128) d 5 = k) (by decide)).mp (by
          have := sm_0le (n := 40) (f := fun d => b1 (rC (M 128) d 0 = 1 ∧ rC (M 128) d 5 = k)) (fun _ _ _ => (b1_rng _).1)
          omega)
        exact hall d d0 d1 ⟨z.1, by rw [colI_rC hI (by decide) (by decide)]; exact d3⟩
      · exact z.2 d2
    · rw [if_neg q]; exact hI.2.2.1 c c0 c1
  · rw [hI.2.2.2, sm_add1 (k := k) k0 k1 (f := fun c => b1 (0 ≤ dd c ∧ rC (M 128) c 0 = 0)) (g := fun c => b1 (0 ≤ dd c ∧ rC (px_up M 128 (654 + 6 * k + 0) 0 128) c 0 = 0)) (fun d d0 d1 d2 => by rw [hup d, if_neg d2])]
    rw [b1_t (show 0 ≤ dd k ∧ rC (px_up M 128 (654 + 6 * k + 0) 0 128) k 0 = 0 from ⟨hk.2, by rw [hup k, if_pos rfl]⟩), b1_f (show ¬ (0 ≤ dd k ∧ rC (M 128) k 0 = 0) from fun z => by omega)]
    omega
section PS
variable {M : px_mem} {Q : Option pv → px_mem → Prop}
set_option maxHeartbeats 600000 in
set_option maxRecDepth 100000 in
theorem lp_coll1 {M0 : px_mem} {dd : Int → Int} {n0 : Int} (hl : rls (M0 128) dd) (hdp : dpt dd (fun c => rC (M0 128) c 5)) (hx : ∀ M n m, colI dd M0 M n → ((m = 0 ∧ n = n0 ∧ ∀ j, 0 ≤ j → j < 40 → rC (M 128) j 0 = 1 → rlsd (M0 128) j ∨ 0 < sm 40 (fun d => b1 (rC (M 128) d 0 = 1 ∧ rC (M 128) d 5 = j))) ∨ (m = 1 ∧ n0 < n)) → px_WP 212 0 0 (px_Q0 LAY Q) 4 [(2, 127), (0, n), (0, m), (9, 0)] [] LAY M 0 0) (k : Int) (hk_k : k ≤ 40) : ∀ (M : px_mem) (n m : Int), 0 ≤ k → colI dd M0 M n → ((m = 0 ∧ n = n0 ∧ ∀ j, 0 ≤ j → j < k → rC (M 128) j 0 = 1 → rlsd (M0 128) j ∨ 0 < sm 40 (fun d => b1 (rC (M 128) d 0 = 1 ∧ rC (M 128) d 5 = j))) ∨ (m = 1 ∧ n0 < n)) → px_WP 212 0 0 (px_Q0 LAY Q) 12 [(2, 127), (0, n), (0, m), (0, k)] [] LAY M 0 0 := by
  refine up_ind (P := fun k => ∀ (M : px_mem) (n m : Int), 0 ≤ k → colI dd M0 M n → ((m = 0 ∧ n = n0 ∧ ∀ j, 0 ≤ j → j < k → rC (M 128) j 0 = 1 → rlsd (M0 128) j ∨ 0 < sm 40 (fun d => b1 (rC (M 128) d 0 = 1 ∧ rC (M 128) d 5 = j))) ∨ (m = 1 ∧ n0 < n)) → px_WP 212 0 0 (px_Q0 LAY Q) 12 [(2, 127), (0, n), (0, m), (0, k)] [] LAY M 0 0) (40) (fun k hk_k ih => ?_) k hk_k
  intro M n m k0 hI hm
  have hE := colI_eqE hI
  have hn : 0 ≤ n ∧ n ≤ 40 * 1 := by rw [hI.2.2.2]; exact sm_bnd (by decide) (fun _ _ _ => b1_rng _)
  refine px_go_ok (inl := [187,188]) 60 ?_
  simp only [px_go, px_Q0_at, px_sx_0, px_sx_s, px_cl, px_step, ↓px_ll, px_lg, f4_, ↓px_r1, ↓px_r2, ↓px_r4, ↓px_r5, ↓px_p1, ↓px_p2, ↓px_p3, ↓px_pop, px_k_0, px_k_s, px_k3_0, px_stk_, px_cats, px_ent, px_st1, px_st2, px_mask, ↓px_tsw, ↓px_lsw, ct_, mls_0, mls_1, mls_2, mls_3, mls_4, mls_5, kd_0, kd_1, kd_2, kd_3, ln_0, ln_1, ln_2, ln_3, gf_0, gf_1, gf_2, gf_3, gf_4, gf_7, gf_21, gf_63, dy_0, dy_1, dy_2, dy_3, dy_7, dy_21, px_brT, px_brF, true_and, and_true, and_false, false_and, and_self, true_implies, false_implies, or_true, true_or, or_false, false_or, eq_self, ne_eq, not_false_eq_true, not_true_eq_false, if_true, if_false, List.mem_cons, List.not_mem_nil, List.length_cons, List.length_nil, Nat.reduceEqDiff, Nat.reduceAdd, Nat.reduceSub, Nat.reduceLeDiff, Nat.reduceLT, Int.reduceEq, Int.reduceLT, Int.reduceLE, Int.reduceNeg, Int.reduceAdd, Int.reduceSub, Int.reduceToNat, ↓reduceIte, one_ne_zero_, zero_ne_one_, px_in32L, cd_212, cd_187, cd_188]
  repeat' (first | (with_reducible apply And.intro) | (with_reducible refine px_br_intro (fun _ => ?_) (fun _ => ?_)))
  all_goals (try (first | (unfold px_in32; omega) | omega))
  · rename_i c1
    exact hx M n m hI (hm.imp (fun z => ⟨z.1, z.2.1, fun j j0 j1 => z.2.2 j j0 (by omega)⟩) id)
  · rename_i c1 c2
    refine ih (by omega) M n m (by omega) hI (hm.imp (fun z => ⟨z.1, z.2.1, fun j j0 j1 j2 => ?_⟩) id)
    by_cases q : j = k
    · exfalso
      rw [q] at j2
      have e : rC (M 128) k 0 = 0 := c2
      omega
    · exact z.2.2 j j0 (by omega) j2
  · rename_i c1 c2
    refine sp_isListed (dd := dd) (eqE_rls hE hl) (fun w => ?_) (fun w => ?_)
    · simp only [px_go, px_Q0_at, px_sx_0, px_sx_s, px_cl, px_step, ↓px_ll, px_lg, f4_, ↓px_r1, ↓px_r2, ↓px_r4, ↓px_r5, ↓px_p1, ↓px_p2, ↓px_p3, ↓px_pop, px_k_0, px_k_s, px_k3_0, px_stk_, px_cats, px_ent, px_st1, px_st2, px_mask, ↓px_tsw, ↓px_lsw, ct_, mls_0, mls_1, mls_2, mls_3, mls_4, mls_5, kd_0, kd_1, kd_2, kd_3, ln_0, ln_1, ln_2, ln_3, gf_0, gf_1, gf_2, gf_3, gf_4, gf_7, gf_21, gf_63, dy_0, dy_1, dy_2, dy_3, dy_7, dy_21, px_brT, px_brF, true_and, and_true, and_false, false_and, and_self, true_implies, false_implies, or_true, true_or, or_false, false_or, eq_self, ne_eq, not_false_eq_true, not_true_eq_false, if_true, if_false, List.mem_cons, List.not_mem_nil, List.length_cons, List.length_nil, Nat.reduceEqDiff, Nat.reduceAdd, Nat.reduceSub, Nat.reduceLeDiff, Nat.reduceLT, Int.reduceEq, Int.reduceLT, Int.reduceLE, Int.reduceNeg, Int.reduceAdd, Int.reduceSub, Int.reduceToNat, ↓reduceIte, one_ne_zero_, zero_ne_one_, px_in32L, cd_212]
      repeat' (first | (with_reducible apply And.intro) | (with_reducible refine px_br_intro (fun _ => ?_) (fun _ => ?_)))
      all_goals (try (first | (unfold px_in32; omega) | omega))
      refine ih (by omega) M n m (by omega) hI (hm.imp (fun z => ⟨z.1, z.2.1, fun j j0 j1 j2 => ?_⟩) id)
      by_cases q : j = k
      · left; rw [q]; exact (eqE_rlsd hE k).mp w
      · exact z.2.2 j j0 (by omega) j2
    · simp only [px_go, px_Q0_at, px_sx_0, px_sx_s, px_cl, px_step, ↓px_ll, px_lg, f4_, ↓px_r1, ↓px_r2, ↓px_r4, ↓px_r5, ↓px_p1, ↓px_p2, ↓px_p3, ↓px_pop, px_k_0, px_k_s, px_k3_0, px_stk_, px_cats, px_ent, px_st1, px_st2, px_mask, ↓px_tsw, ↓px_lsw, ct_, mls_0, mls_1, mls_2, mls_3, mls_4, mls_5, kd_0, kd_1, kd_2, kd_3, ln_0, ln_1, ln_2, ln_3, gf_0, gf_1, gf_2, gf_3, gf_4, gf_7, gf_21, gf_63, dy_0, dy_1, dy_2, dy_3, dy_7, dy_21, px_brT, px_brF, true_and, and_true, and_false, false_and, and_self, true_implies, false_implies, or_true, true_or, or_false, false_or, eq_self, ne_eq, not_false_eq_true, not_true_eq_false, if_true, if_false, List.mem_cons, List.not_mem_nil, List.length_cons, List.length_nil, Nat.reduceEqDiff, Nat.reduceAdd, Nat.reduceSub, Nat.reduceLeDiff, Nat.reduceLT, Int.reduceEq, Int.reduceLT, Int.reduceLE, Int.reduceNeg, Int.reduceAdd, Int.reduceSub, Int.reduceToNat, ↓reduceIte, one_ne_zero_, zero_ne_one_, px_in32L, cd_212]
      refine sp_basedOn ?_
      simp only [px_go, px_Q0_at, px_sx_0, px_sx_s, px_cl, px_step, ↓px_ll, px_lg, f4_, ↓px_r1, ↓px_r2, ↓px_r4, ↓px_r5, ↓px_p1, ↓px_p2, ↓px_p3, ↓px_pop, px_k_0, px_k_s, px_k3_0, px_stk_, px_cats, px_ent, px_st1, px_st2, px_mask, ↓px_tsw, ↓px_lsw, ct_, mls_0, mls_1, mls_2, mls_3, mls_4, mls_5, kd_0, kd_1, kd_2, kd_3, ln_0, ln_1, ln_2, ln_3, gf_0, gf_1, gf_2, gf_3, gf_4, gf_7, gf_21, gf_63, dy_0, dy_1, dy_2, dy_3, dy_7, dy_21, px_brT, px_brF, true_and, and_true, and_false, false_and, and_self, true_implies, false_implies, or_true, true_or, or_false, false_or, eq_self, ne_eq, not_false_eq_true, not_true_eq_false, if_true, if_false, List.mem_cons, List.not_mem_nil, List.length_cons, List.length_nil, Nat.reduceEqDiff, Nat.reduceAdd, Nat.reduceSub, Nat.reduceLeDiff, Nat.reduceLT, Int.reduceEq, Int.reduceLT, Int.reduceLE, Int.reduceNeg, Int.reduceAdd, Int.reduceSub, Int.reduceToNat, ↓reduceIte, one_ne_zero_, zero_ne_one_, px_in32L, cd_212, cd_188]
      repeat' (first | (with_reducible apply And.intro) | (with_reducible refine px_br_intro (fun _ => ?_) (fun _ => ?_)))
      all_goals (try (first | (unfold px_in32; omega) | omega))
      · rename_i c3
        refine ih (by omega) _ (n + 1) 1 (by omega) (colI_rm hdp hI k0 (by omega) c2 (fun z => w ((eqE_rlsd hE k).mpr z)) c3) (Or.inr ⟨rfl, ?_⟩)
        rcases hm with z | z <;> omega
      · rename_i c3
        refine ih (by omega) M n m (by omega) hI (hm.imp (fun z => ⟨z.1, z.2.1, fun j j0 j1 j2 => ?_⟩) id)
        by_cases q : j = k
        · right; rw [q]; omega
        · exact z.2.2 j j0 (by omega) j2
set_option maxHeartbeats 4000000 in
set_option maxRecDepth 100000 in
theorem lp_coll2 {M0 : px_mem} {dd : Int → Int} (hl : rls (M0 128) dd) (hdp : dpt dd (fun c => rC (M0 128) c 5)) (h : ∀ M n, colI dd M0 M n → (∀ j, 0 ≤ j → j < 40 → rC (M 128) j 0 = 1 → rlsd (M0 128) j ∨ 0 < sm 40 (fun d => b1 (rC (M 128) d 0 = 1 ∧ rC (M 128) d 5 = j))) → Q (some (0, n)) M) : ∀ (f : Nat) (M : px_mem) (n m : Int), colI dd M0 M n → ((m = 0 ∧ ∀ j, 0 ≤ j → j < 40 → rC (M 128) j 0 = 1 → rlsd (M0 128) j ∨ 0 < sm 40 (fun d => b1 (rC (M 128) d 0 = 1 ∧ rC (M 128) d 5 = j))) ∨ (m = 1 ∧ 41 ≤ n + f)) → px_WP 212 0 0 (px_Q0 LAY Q) 4 [(2, 127), (0, n), (0, m), (9, 0)] [] LAY M 0 0 := by
  intro f
  induction f with
  | zero =>
    intro M n m hI hm
    have hn : 0 ≤ n ∧ n ≤ 40 * 1 := by rw [hI.2.2.2]; exact sm_bnd (by decide) (fun _ _ _ => b1_rng _)
    rcases hm with z | z
    · refine px_go_ok (inl := []) 60 ?_
      simp only [px_go, px_Q0_at, px_sx_0, px_sx_s, px_cl, px_step, ↓px_ll, px_lg, f4_, ↓px_r1, ↓px_r2, ↓px_r4, ↓px_r5, ↓px_p1, ↓px_p2, ↓px_p3, ↓px_pop, px_k_0, px_k_s, px_k3_0, px_stk_, px_cats, px_ent, px_st1, px_st2, px_mask, ↓px_tsw, ↓px_lsw, ct_, mls_0, mls_1, mls_2, mls_3, mls_4, mls_5, kd_0, kd_1, kd_2, kd_3, ln_0, ln_1, ln_2, ln_3, gf_0, gf_1, gf_2, gf_3, gf_4, gf_7, gf_21, gf_63, dy_0, dy_1, dy_2, dy_3, dy_7, dy_21, px_brT, px_brF, true_and, and_true, and_false, false_and, and_self, true_implies, false_implies, or_true, true_or, or_false, false_or, eq_self, ne_eq, not_false_eq_true, not_true_eq_false, if_true, if_false, List.mem_cons, List.not_mem_nil, List.length_cons, List.length_nil, Nat.reduceEqDiff, Nat.reduceAdd, Nat.reduceSub, Nat.reduceLeDiff, Nat.reduceLT, Int.reduceEq, Int.reduceLT, Int.reduceLE, Int.reduceNeg, Int.reduceAdd, Int.reduceSub, Int.reduceToNat, ↓reduceIte, one_ne_zero_, zero_ne_one_, px_in32L, cd_212]
      refine px_br_intro (fun _ => ?_) (fun c => absurd z.1 c)
      exact h M n hI z.2
    · omega
  | succ f ih =>
    intro M n m hI hm
    rcases hm with z | z
    · refine px_go_ok (inl := []) 60 ?_
      simp only [px_go, px_Q0_at, px_sx_0, px_sx_s, px_cl, px_step, ↓px_ll, px_lg, f4_, ↓px_r1, ↓px_r2, ↓px_r4, ↓px_r5, ↓px_p1, ↓px_p2, ↓px_p3, ↓px_pop, px_k_0, px_k_s, px_k3_0, px_stk_, px_cats, px_ent, px_st1, px_st2, px_mask, ↓px_tsw, ↓px_lsw, ct_, mls_0, mls_1, mls_2, mls_3, mls_4, mls_5, kd_0, kd_1, kd_2, kd_3, ln_0, ln_1, ln_2, ln_3, gf_0, gf_1, gf_2, gf_3, gf_4, gf_7, gf_21, gf_63, dy_0, dy_1, dy_2, dy_3, dy_7, dy_21, px_brT, px_brF, true_and, and_true, and_false, false_and, and_self, true_implies, false_implies, or_true, true_or, or_false, false_or, eq_self, ne_eq, not_false_eq_true, not_true_eq_false, if_true, if_false, List.mem_cons, List.not_mem_nil, List.length_cons, List.length_nil, Nat.reduceEqDiff, Nat.reduceAdd, Nat.reduceSub, Nat.reduceLeDiff, Nat.reduceLT, Int.reduceEq, Int.reduceLT, Int.reduceLE, Int.reduceNeg, Int.reduceAdd, Int.reduceSub, Int.reduceToNat, ↓reduceIte, one_ne_zero_, zero_ne_one_, px_in32L, cd_212]
      refine px_br_intro (fun _ => ?_) (fun c => absurd z.1 c)
      exact h M n hI z.2
    · refine px_go_ok (inl := []) 60 ?_
      simp only [px_go, px_Q0_at, px_sx_0, px_sx_s, px_cl, px_step, ↓px_ll, px_lg, f4_, ↓px_r1, ↓px_r2, ↓px_r4, ↓px_r5, ↓px_p1, ↓px_p2, ↓px_p3, ↓px_pop, px_k_0, px_k_s, px_k3_0, px_stk_, px_cats, px_ent, px_st1, px_st2, px_mask, ↓px_tsw, ↓px_lsw, ct_, mls_0, mls_1, mls_2, mls_3, mls_4, mls_5, kd_0, kd_1, kd_2, kd_3, ln_0, ln_1, ln_2, ln_3, gf_0, gf_1, gf_2, gf_3, gf_4, gf_7, gf_21, gf_63, dy_0, dy_1, dy_2, dy_3, dy_7, dy_21, px_brT, px_brF, true_and, and_true, and_false, false_and, and_self, true_implies, false_implies, or_true, true_or, or_false, false_or, eq_self, ne_eq, not_false_eq_true, not_true_eq_false, if_true, if_false, List.mem_cons, List.not_mem_nil, List.length_cons, List.length_nil, Nat.reduceEqDiff, Nat.reduceAdd, Nat.reduceSub, Nat.reduceLeDiff, Nat.reduceLT, Int.reduceEq, Int.reduceLT, Int.reduceLE, Int.reduceNeg, Int.reduceAdd, Int.reduceSub, Int.reduceToNat, ↓reduceIte, one_ne_zero_, zero_ne_one_, px_in32L, cd_212]
      refine px_br_intro (fun c => by omega) (fun c => ?_)
      exact lp_coll1 (n0 := n) hl hdp (fun M' n' m' hI' hm' => ih M' n' m' hI' (hm'.imp (fun z => ⟨z.1, z.2.2⟩) (fun y => ⟨y.1, by omega⟩))) 0 (by decide) M n 0 (Int.le_refl 0) hI (Or.inl ⟨rfl, rfl, fun j j0 j1 => by omega⟩)
set_option maxHeartbeats 600000 in
set_option maxRecDepth 100000 in
theorem sp_collects {dd : Int → Int} (hl : rls (M 128) dd) (hu : rus (M 128) dd) (hdp : dpt dd (fun c => rC (M 128) c 5)) (h : ∀ M', (∀ b, b ≠ 128 → M' b = M b) → (∀ x, (∀ c, 0 ≤ c → c < 40 → x ≠ 654 + 6 * c) → M' 128 x = M 128 x) → (∀ c, 0 ≤ c → c < 40 → rC (M' 128) c 0 = b1 (0 ≤ dd c ∧ ¬ rnt (M 128) dd c)) → Q (some (0, sm 40 (fun c => b1 (0 ≤ dd c ∧ rnt (M 128) dd c)))) M') : px_Ok 212 [(2, 127)] LAY M Q := by
  refine px_ok_go (inl := []) (ls0 := [(2, 127), (9, 0), (9, 0), (9, 0)]) 60 (by decide) (Nat.le_of_ble_eq_true rfl) rfl ?_
  simp only [px_go, px_Q0_at, px_sx_0, px_sx_s, px_cl, px_step, ↓px_ll, px_lg, f4_, ↓px_r1, ↓px_r2, ↓px_r4, ↓px_r5, ↓px_p1, ↓px_p2, ↓px_p3, ↓px_pop, px_k_0, px_k_s, px_k3_0, px_stk_, px_cats, px_ent, px_st1, px_st2, px_mask, ↓px_tsw, ↓px_lsw, ct_, mls_0, mls_1, mls_2, mls_3, mls_4, mls_5, kd_0, kd_1, kd_2, kd_3, ln_0, ln_1, ln_2, ln_3, gf_0, gf_1, gf_2, gf_3, gf_4, gf_7, gf_21, gf_63, dy_0, dy_1, dy_2, dy_3, dy_7, dy_21, px_brT, px_brF, true_and, and_true, and_false, false_and, and_self, true_implies, false_implies, or_true, true_or, or_false, false_or, eq_self, ne_eq, not_false_eq_true, not_true_eq_false, if_true, if_false, List.mem_cons, List.not_mem_nil, List.length_cons, List.length_nil, Nat.reduceEqDiff, Nat.reduceAdd, Nat.reduceSub, Nat.reduceLeDiff, Nat.reduceLT, Int.reduceEq, Int.reduceLT, Int.reduceLE, Int.reduceNeg, Int.reduceAdd, Int.reduceSub, Int.reduceToNat, ↓reduceIte, one_ne_zero_, zero_ne_one_, px_in32L, cd_212]
  repeat' (first | (with_reducible apply And.intro) | (with_reducible refine px_br_intro (fun _ => ?_) (fun _ => ?_)))
  all_goals (try (first | (unfold px_in32; omega) | omega))
  have h0 : colI dd M M 0 := by
    refine ⟨fun _ _ => rfl, fun _ _ => rfl, fun c c0 c1 => ?_, ?_⟩
    · have := hu c c0 c1
      rcases this with z | z
      · exact Or.inl ⟨z.2, z.1⟩
      · exact Or.inr ⟨z.2, fun w => by omega⟩
    · have e : sm 40 (fun c => b1 (0 ≤ dd c ∧ rC (M 128) c 0 = 0)) = sm 40 (fun _ => 0) := sm_congr (fun c c0 c1 => b1_f (fun z => by have := hu c c0 c1; omega))
      rw [e, sm_const 40 0 (by decide)]; rfl
  refine lp_coll2 (M0 := M) hl hdp (fun M' n hI hm => ?_) 41 M 0 1 h0 (Or.inr ⟨rfl, by decide⟩)
  have hd := col_done hdp hI hm
  have e : n = sm 40 (fun c => b1 (0 ≤ dd c ∧ rnt (M 128) dd c)) := by
    rw [hI.2.2.2]
    refine sm_congr (fun c c0 c1 => ?_)
    by_cases q : 0 ≤ dd c ∧ rnt (M 128) dd c
    · rw [b1_t q, b1_t ⟨q.1, hd 3 c c0 c1 q.1 (by omega) q.2⟩]
    · rw [b1_f q, b1_f]
      intro z
      rcases hI.2.2.1 c c0 c1 with y | y
      · omega
      · exact q ⟨z.1, y.2 z.1⟩
  rw [e]
  refine h M' hI.1 hI.2.1 (fun c c0 c1 => ?_)
  rcases hI.2.2.1 c c0 c1 with y | y
  · rw [y.1, b1_t]
    refine ⟨y.2, fun z => ?_⟩
    have := hd 3 c c0 c1 y.2 (by omega) z
    omega
  · rw [y.1, b1_f]
    exact fun z => z.2 (y.2 z.1)
end PS
