set_option maxRecDepth 100000 in
/-- X11_pack -/
theorem cd_132 : px_at 132 0 = some (1, [], .aload_n 0, []) ∧ px_at 132 1 = some (4, [], .getfield 42, [10, 4, 2, 1, 118]) ∧ px_at 132 4 = some (7, [], .invokevirtual 264, [25, 0, 1, 125]) ∧ px_at 132 7 = some (8, [], .ireturn, [0]) := ⟨rfl, rfl, rfl, rfl⟩
set_option maxRecDepth 100000 in
/-- X11_spoil -/
theorem cd_133 : px_at 133 0 = some (1, [], .aload_n 0, []) ∧ px_at 133 1 = some (4, [], .getfield 33, [10, 3, 2, 1, 117]) ∧ px_at 133 4 = some (5, [], .iload_n 1, []) ∧ px_at 133 5 = some (8, [], .invokevirtual 268, [75, 1, 6, 129]) ∧ px_at 133 8 = some (11, [], .ifCond .eq 14, [22]) ∧ px_at 133 11 = some (12, [], .iload_n 2, []) ∧ px_at 133 12 = some (15, [], .ifCond .lt 10, [22]) ∧ px_at 133 15 = some (16, [], .iload_n 2, []) ∧ px_at 133 16 = some (19, [], .sipush 255, []) ∧ px_at 133 19 = some (22, [], .if_icmp .le 5, [24]) ∧ px_at 133 22 = some (23, [], .iconst (-1), []) ∧ px_at 133 23 = some (24, [], .ireturn, [0]) ∧ px_at 133 24 = some (25, [], .aload_n 0, []) ∧ px_at 133 25 = some (28, [], .getfield 33, [10, 3, 2, 1, 117]) ∧ px_at 133 28 = some (31, [], .getfield 271, [6, 0, 2, 1, 55]) ∧ px_at 133 31 = some (32, [], .iload_n 1, []) ∧ px_at 133 32 = some (33, [], .iaload, []) ∧ px_at 133 33 = some (34, [], .istore_n 3, []) ∧ px_at 133 34 = some (35, [], .aload_n 0, []) ∧ px_at 133 35 = some (38, [], .getfield 33, [10, 3, 2, 1, 117]) ∧ px_at 133 38 = some (41, [], .getfield 271, [6, 0, 2, 1, 55]) ∧ px_at 133 41 = some (42, [], .iload_n 1, []) ∧ px_at 133 42 = some (43, [], .iload_n 2, []) ∧ px_at 133 43 = some (44, [], .iastore, []) ∧ px_at 133 44 = some (45, [], .aload_n 0, []) ∧ px_at 133 45 = some (48, [], .getfield 42, [10, 4, 2, 1, 118]) ∧ px_at 133 48 = some (51, [], .invokevirtual 274, [12, 0, 1, 130]) ∧ px_at 133 51 = some (52, [], .iload_n 3, []) ∧ px_at 133 52 = some (53, [], .ireturn, [0]) := ⟨rfl, rfl, rfl, rfl, rfl, rfl, rfl, rfl, rfl, rfl, rfl, rfl, rfl, rfl, rfl, rfl, rfl, rfl, rfl, rfl, rfl, rfl, rfl, rfl, rfl, rfl, rfl, rfl, rfl⟩
set_option maxRecDepth 100000 in
/-- X11_mend -/
theorem cd_134 : px_at 134 0 = some (1, [], .iload_n 2, []) ∧ px_at 134 1 = some (4, [], .ifCond .lt 20, [21]) ∧ px_at 134 4 = some (5, [], .iload_n 2, []) ∧ px_at 134 5 = some (7, [], .bipush 40, []) ∧ px_at 134 7 = some (10, [], .if_icmp .gt 14, [21]) ∧ px_at 134 10 = some (11, [], .aload_n 0, []) ∧ px_at 134 11 = some (14, [], .getfield 10, [10, 0, 2, 1, 114]) ∧ px_at 134 14 = some (15, [], .iload_n 2, []) ∧ px_at 134 15 = some (18, [], .invokevirtual 89, [101, 1, 8, 28]) ∧ px_at 134 18 = some (21, [], .ifCond .ne 5, [23]) ∧ px_at 134 21 = some (22, [], .iconst (-1), []) ∧ px_at 134 22 = some (23, [], .ireturn, [0]) ∧ px_at 134 23 = some (24, [], .aload_n 0, []) ∧ px_at 134 24 = some (27, [], .getfield 42, [10, 4, 2, 1, 118]) ∧ px_at 134 27 = some (28, [], .iload_n 1, []) ∧ px_at 134 28 = some (31, [], .invokevirtual 277, [7, 1, 1, 132]) ∧ px_at 134 31 = some (34, [], .ifCond .eq 22, [53]) ∧ px_at 134 34 = some (35, [], .aload_n 0, []) ∧ px_at 134 35 = some (38, [], .getfield 42, [10, 4, 2, 1, 118]) ∧ px_at 134 38 = some (39, [], .iload_n 1, []) ∧ px_at 134 39 = some (40, [], .aload_n 0, []) ∧ px_at 134 40 = some (43, [], .getfield 10, [10, 0, 2, 1, 114]) ∧ px_at 134 43 = some (46, [], .getfield 96, [8, 0, 2, 1, 1]) ∧ px_at 134 46 = some (47, [], .iload_n 2, []) ∧ px_at 134 47 = some (50, [], .invokevirtual 280, [24, 3, 1, 133]) ∧ px_at 134 50 = some (53, [], .goto 5, [55]) ∧ px_at 134 53 = some (55, [], .bipush (-2), []) ∧ px_at 134 55 = some (56, [], .istore_n 3, []) ∧ px_at 134 56 = some (57, [], .aload_n 0, []) ∧ px_at 134 57 = some (60, [], .getfield 10, [10, 0, 2, 1, 114]) ∧ px_at 134 60 = some (63, [], .invokevirtual 103, [100, 0, 8, 45]) ∧ px_at 134 63 = some (64, [], .iload_n 3, []) ∧ px_at 134 64 = some (65, [], .ireturn, [0]) := ⟨rfl, rfl, rfl, rfl, rfl, rfl, rfl, rfl, rfl, rfl, rfl, rfl, rfl, rfl, rfl, rfl, rfl, rfl, rfl, rfl, rfl, rfl, rfl, rfl, rfl, rfl, rfl, rfl, rfl, rfl, rfl, rfl, rfl⟩
set_option maxRecDepth 100000 in
/-- X11_cure -/
theorem cd_135 : px_at 135 0 = some (1, [], .iconst 0, []) ∧ px_at 135 1 = some (2, [], .istore_n 1, []) ∧ px_at 135 2 = some (3, [], .iconst 1, []) ∧ px_at 135 3 = some (4, [], .istore_n 2, []) ∧ px_at 135 4 = some (5, [], .iconst 0, []) ∧ px_at 135 5 = some (6, [], .istore_n 3, []) ∧ px_at 135 6 = some (7, [1, 1, 1, 1, 0], .iload_n 2, []) ∧ px_at 135 7 = some (10, [], .ifCond .eq 38, [45]) ∧ px_at 135 10 = some (11, [], .iload_n 3, []) ∧ px_at 135 11 = some (14, [], .sipush 1000, []) ∧ px_at 135 14 = some (17, [], .if_icmp .ge 31, [45]) ∧ px_at 135 17 = some (18, [], .aload_n 0, []) ∧ px_at 135 18 = some (21, [], .invokevirtual 284, [136, 0, 10, 136]) ∧ px_at 135 21 = some (23, [], .istore 4, []) ∧ px_at 135 23 = some (24, [], .iload_n 1, []) ∧ px_at 135 24 = some (26, [], .iload 4, []) ∧ px_at 135 26 = some (27, [], .iadd, []) ∧ px_at 135 27 = some (28, [], .istore_n 1, []) ∧ px_at 135 28 = some (30, [], .iload 4, []) ∧ px_at 135 30 = some (33, [], .ifCond .le 7, [37]) ∧ px_at 135 33 = some (34, [], .iconst 1, []) ∧ px_at 135 34 = some (37, [], .goto 4, [38]) ∧ px_at 135 37 = some (38, [], .iconst 0, []) ∧ px_at 135 38 = some (39, [], .istore_n 2, []) ∧ px_at 135 39 = some (42, [], .iinc 3 1, []) ∧ px_at 135 42 = some (45, [], .goto (-36), [6]) ∧ px_at 135 45 = some (46, [], .iload_n 1, []) ∧ px_at 135 46 = some (47, [], .ireturn, [0]) := ⟨rfl, rfl, rfl, rfl, rfl, rfl, rfl, rfl, rfl, rfl, rfl, rfl, rfl, rfl, rfl, rfl, rfl, rfl, rfl, rfl, rfl, rfl, rfl, rfl, rfl, rfl, rfl, rfl⟩
set_option maxRecDepth 100000 in
/-- X11_cureRound -/
theorem cd_136 : px_at 136 0 = some (1, [], .iconst 0, []) ∧ px_at 136 1 = some (2, [], .istore_n 1, []) ∧ px_at 136 2 = some (3, [], .iconst 0, []) ∧ px_at 136 3 = some (4, [], .istore_n 2, []) ∧ px_at 136 4 = some (5, [1, 1, 1], .iload_n 2, []) ∧ px_at 136 5 = some (7, [], .bipush 40, []) ∧ px_at 136 7 = some (10, [], .if_icmp .ge 43, [50]) ∧ px_at 136 10 = some (11, [], .aload_n 0, []) ∧ px_at 136 11 = some (14, [], .getfield 42, [10, 4, 2, 1, 118]) ∧ px_at 136 14 = some (15, [], .iload_n 2, []) ∧ px_at 136 15 = some (18, [], .invokevirtual 277, [7, 1, 1, 132]) ∧ px_at 136 18 = some (21, [], .ifCond .eq 26, [44]) ∧ px_at 136 21 = some (22, [], .aload_n 0, []) ∧ px_at 136 22 = some (25, [], .getfield 42, [10, 4, 2, 1, 118]) ∧ px_at 136 25 = some (28, [], .getfield 176, [1, 8, 2, 1, 84]) ∧ px_at 136 28 = some (29, [], .iload_n 2, []) ∧ px_at 136 29 = some (30, [], .baload, []) ∧ px_at 136 30 = some (33, [], .ifCond .ne 14, [44]) ∧ px_at 136 33 = some (34, [], .aload_n 0, []) ∧ px_at 136 34 = some (35, [], .iload_n 2, []) ∧ px_at 136 35 = some (38, [], .invokevirtual 287, [137, 1, 10, 137]) ∧ px_at 136 38 = some (41, [], .ifCond .eq 6, [44]) ∧ px_at 136 41 = some (44, [], .iinc 1 1, []) ∧ px_at 136 44 = some (47, [], .iinc 2 1, []) ∧ px_at 136 47 = some (50, [], .goto (-43), [4]) ∧ px_at 136 50 = some (51, [], .iload_n 1, []) ∧ px_at 136 51 = some (52, [], .ireturn, [0]) := ⟨rfl, rfl, rfl, rfl, rfl, rfl, rfl, rfl, rfl, rfl, rfl, rfl, rfl, rfl, rfl, rfl, rfl, rfl, rfl, rfl, rfl, rfl, rfl, rfl, rfl, rfl, rfl⟩
set_option maxRecDepth 100000 in
/-- X11_cureOne -/
theorem cd_137 : px_at 137 0 = some (1, [], .iconst 0, []) ∧ px_at 137 1 = some (2, [], .istore_n 2, []) ∧ px_at 137 2 = some (3, [1, 1, 1], .iload_n 2, []) ∧ px_at 137 3 = some (4, [], .aload_n 0, []) ∧ px_at 137 4 = some (7, [], .getfield 19, [10, 1, 2, 1, 115]) ∧ px_at 137 7 = some (10, [], .getfield 129, [7, 3, 0, 0, 13]) ∧ px_at 137 10 = some (13, [], .if_icmp .ge 41, [51]) ∧ px_at 137 13 = some (14, [], .aload_n 0, []) ∧ px_at 137 14 = some (17, [], .getfield 42, [10, 4, 2, 1, 118]) ∧ px_at 137 17 = some (18, [], .iload_n 1, []) ∧ px_at 137 18 = some (19, [], .aload_n 0, []) ∧ px_at 137 19 = some (22, [], .getfield 19, [10, 1, 2, 1, 115]) ∧ px_at 137 22 = some (25, [], .getfield 180, [7, 2, 2, 1, 10]) ∧ px_at 137 25 = some (26, [], .iload_n 2, []) ∧ px_at 137 26 = some (27, [], .aaload, []) ∧ px_at 137 27 = some (28, [], .aload_n 0, []) ∧ px_at 137 28 = some (31, [], .getfield 19, [10, 1, 2, 1, 115]) ∧ px_at 137 31 = some (34, [], .getfield 183, [7, 1, 2, 1, 8]) ∧ px_at 137 34 = some (35, [], .iload_n 2, []) ∧ px_at 137 35 = some (36, [], .iaload, []) ∧ px_at 137 36 = some (39, [], .invokevirtual 280, [24, 3, 1, 133]) ∧ px_at 137 39 = some (40, [], .iconst 1, []) ∧ px_at 137 40 = some (43, [], .if_icmp .ne 5, [45]) ∧ px_at 137 43 = some (44, [], .iconst 1, []) ∧ px_at 137 44 = some (45, [], .ireturn, [4]) ∧ px_at 137 45 = some (48, [], .iinc 2 1, []) ∧ px_at 137 48 = some (51, [], .goto (-46), [2]) ∧ px_at 137 51 = some (52, [], .iconst 0, []) ∧ px_at 137 52 = some (53, [], .ireturn, [4]) := ⟨rfl, rfl, rfl, rfl, rfl, rfl, rfl, rfl, rfl, rfl, rfl, rfl, rfl, rfl, rfl, rfl, rfl, rfl, rfl, rfl, rfl, rfl, rfl, rfl, rfl, rfl, rfl, rfl, rfl⟩
/-! EditionVault: pack, spoil, mend, cure -/
/-- these bytes can mend it -/
def mdFit (M : px_mem) (c : Int) (b : List Int) : Prop := (b.length : Int) = M 57 c ∧ mkl b = M 58 c
def mdOk (M : px_mem) (c : Int) (b : List Int) : Prop := mdFit M c b ∧ (M 61 c < 0 ∨ (M 105 (M 61 c) ≠ 0 ∧ ((pcl b (rdC M (M 61 c))).length : Int) = M 60 c))
/-- mended -/
def mdW (M M' : px_mem) (c : Int) (b : List Int) : Prop := ∃ P, lst P (M 60 c) = (if M 61 c < 0 then b else pcl b (rdC M (M 61 c))) ∧ (∀ x, M' 53 x = if M 59 c ≤ x ∧ x < M 59 c + M 60 c then P (x - M 59 c) else M 53 x) ∧ (∀ b, b ≠ 53 → ¬ (64 ≤ b ∧ b < 108) → M' b = M b) ∧ ci M'
def eq67 (M M' : px_mem) : Prop := ∀ x, x ≠ 106 → x ≠ 107 → M' x = M x
theorem eq67_refl (M : px_mem) : eq67 M M := fun _ _ _ => rfl
theorem eq67_ci {M M' : px_mem} (h : eq67 M M') (hci : ci M) : ci M' := ci_congr (fun b _ b1 _ => h b (by omega) (by omega)) hci
theorem eq67_st {M M' : px_mem} {N : Int} {g : Int → fe} (h : eq67 M M') (hst : stC M N g) : stC M' N g := stF_frame hst (fun b _ b1 => h b (by omega) (by omega))
theorem eq67_rdC {M M' : px_mem} (h : eq67 M M') {c : Int} (c0 : 0 ≤ c) (c1 : c < 40) : rdC M' c = rdC M c := by unfold rdC; rw [h 57 (by decide) (by decide), h (64 + c) (by omega) (by omega)]
theorem eq67_mdOk {M M' : px_mem} (h : eq67 M M') (hci : ci M) {c : Int} (c0 : 0 ≤ c) (c1 : c < 40) (c2 : 0 ≤ M 62 c) (b : List Int) : mdOk M' c b ↔ mdOk M c b := by
  have hk := cokC (hci.1 c c0 c1 c2)
  unfold mdOk mdFit
  rw [h 57 (by decide) (by decide), h 58 (by decide) (by decide), h 60 (by decide) (by decide), h 61 (by decide) (by decide), h 105 (by decide) (by decide)]
  refine and_congr Iff.rfl ?_
  by_cases q : M 61 c < 0
  · exact ⟨fun _ => Or.inl q, fun _ => Or.inl q⟩
  · rw [eq67_rdC h (by omega) (by omega)]
section PS
variable {M : px_mem} {Q : Option pv → px_mem → Prop}
theorem sp_mendBy2 {c v : Int} {b : List Int} (hci : ci M) (hc : 0 ≤ c ∧ c < 40) (hd : 0 ≤ M 62 c) (hk : px_kd LAY v = 0) (hl : (b.length : Int) ≤ px_ln LAY v) (hl2 : px_ln LAY v < 1000) (hv : v < 53) (hb : b.length ≤ 40 ∧ ∀ x ∈ b, 0 ≤ x ∧ x < 256) (hlb : lst (M v) (b.length : Int) = b) (h1 : ∀ M', mdOk M c b → mdW M M' c b → Q (some (0, 1)) M') (h0 : ∀ M' r, ¬ mdOk M c b → (r = if (b.length : Int) = M 57 c ∧ mkl b = M 58 c then -4 else -3) → eq67 M M' → Q (some (0, r)) M') : px_Ok 24 [(2, 56), (0, c), (2, v), (0, (b.length : Int))] LAY M Q := by
  have hbv : ∀ j, 0 ≤ j → j < (b.length : Int) → 0 ≤ M v j ∧ M v j < 256 := fun j j0 j1 => hb.2 _ (by rw [← hlb]; exact lst_mem.mpr ⟨j, j0, j1, rfl⟩)
  have hm : mk (M v) (b.length : Int) = mkl b := by rw [mkl_lst (by omega), hlb]
  have hk2 := cokC (hci.1 c hc.1 hc.2 hd)
  have hp : 0 ≤ M 61 c → pcs M v (b.length : Int) (M 61 c) = pcl b (rdC M (M 61 c)) := fun q => by
    have := cokC (hci.1 (M 61 c) q (by omega) (by omega))
    unfold pcs
    rw [pcl_lst (by omega) (by omega), hlb]
    rfl
  refine sp_mendBy hci hc hd hk hl hl2 hv ⟨by omega, by omega⟩ hbv (fun z => ?_) (fun M' a1 a2 a3 a4 a5 => ?_) (fun M' P a1 a2 a3 a4 a5 a6 a7 => ?_)
  · rw [hm] at z
    exact h0 M (-3) (fun w => z w.1) (by rw [if_neg z]) (eq67_refl M)
  · rw [hm] at a2
    rw [hp a3] at a4
    refine h0 M' (-4) (fun w => ?_) (by rw [if_pos ⟨a1, a2⟩]) a5
    rcases w.2 with w | w
    · omega
    · rcases a4 with a4 | a4
      · exact w.1 a4
      · exact a4 w.2
  · rw [hm] at a2
    refine h1 M' ⟨⟨a1, a2⟩, ?_⟩ ⟨P, ?_, a5, a6, a7⟩
    · by_cases q : M 61 c < 0
      · exact Or.inl q
      · have := a4 (by omega)
        rw [hp (by omega)] at this
        exact Or.inr ⟨this.1, this.2.1⟩
    · by_cases q : M 61 c < 0
      · rw [if_pos q, a3 q, show M 60 c = (b.length : Int) by omega]; exact hlb
      · rw [if_neg q]
        have := a4 (by omega)
        rw [hp (by omega)] at this
        exact this.2.2
set_option maxHeartbeats 600000 in
set_option maxRecDepth 100000 in
theorem sp_pack (hci : ci M) (h : ∀ M', pkd (M 62) (M 59) (M 60) (M 54) (M 53) (M' 59) (M' 53) → ci M' → (∀ b, b ≠ 53 → b ≠ 54 → b ≠ 59 → M' b = M b) → Q (some (0, pkN (M 54) (M 59) (M 60) 400)) M') : px_Ok 132 [(2, 1)] LAY M Q := by
  refine px_ok_go (inl := []) (ls0 := [(2, 1)]) 60 (by decide) (Nat.le_of_ble_eq_true rfl) rfl ?_
  simp only [px_go, px_Q0_at, px_sx_0, px_sx_s, px_cl, px_step, ↓px_ll, px_lg, f4_, ↓px_r1, ↓px_r2, ↓px_r4, ↓px_r5, ↓px_p1, ↓px_p2, ↓px_p3, ↓px_pop, px_k_0, px_k_s, px_k3_0, px_stk_, px_cats, px_ent, px_st1, px_st2, px_mask, ↓px_tsw, ↓px_lsw, ct_, mls_0, mls_1, mls_2, mls_3, mls_4, mls_5, kd_0, kd_1, kd_2, kd_3, ln_0, ln_1, ln_2, ln_3, gf_0, gf_1, gf_2, gf_3, gf_4, gf_7, gf_21, gf_63, dy_0, dy_1, dy_2, dy_3, dy_7, dy_21, px_brT, px_brF, true_and, and_true, and_false, false_and, and_self, true_implies, false_implies, or_true, true_or, or_false, false_or, eq_self, ne_eq, not_false_eq_true, not_true_eq_false, if_true, if_false, List.mem_cons, List.not_mem_nil, List.length_cons, List.length_nil, Nat.reduceEqDiff, Nat.reduceAdd, Nat.reduceSub, Nat.reduceLeDiff, Nat.reduceLT, Int.reduceEq, Int.reduceLT, Int.reduceLE, Int.reduceNeg, Int.reduceAdd, Int.reduceSub, Int.reduceToNat, ↓reduceIte, one_ne_zero_, zero_ne_one_, px_in32L, cd_132]
  repeat' (first | (with_reducible apply And.intro) | (with_reducible refine px_br_intro (fun _ => ?_) (fun _ => ?_)))
  all_goals (try (first | (unfold px_in32; omega) | omega))
  refine sp_moveTogether hci (fun M' a b c => ?_)
  simp only [px_go, px_Q0_at, px_sx_0, px_sx_s, px_cl, px_step, ↓px_ll, px_lg, f4_, ↓px_r1, ↓px_r2, ↓px_r4, ↓px_r5, ↓px_p1, ↓px_p2, ↓px_p3, ↓px_pop, px_k_0, px_k_s, px_k3_0, px_stk_, px_cats, px_ent, px_st1, px_st2, px_mask, ↓px_tsw, ↓px_lsw, ct_, mls_0, mls_1, mls_2, mls_3, mls_4, mls_5, kd_0, kd_1, kd_2, kd_3, ln_0, ln_1, ln_2, ln_3, gf_0, gf_1, gf_2, gf_3, gf_4, gf_7, gf_21, gf_63, dy_0, dy_1, dy_2, dy_3, dy_7, dy_21, px_brT, px_brF, true_and, and_true, and_false, false_and, and_self, true_implies, false_implies, or_true, true_or, or_false, false_or, eq_self, ne_eq, not_false_eq_true, not_true_eq_false, if_true, if_false, List.mem_cons, List.not_mem_nil, List.length_cons, List.length_nil, Nat.reduceEqDiff, Nat.reduceAdd, Nat.reduceSub, Nat.reduceLeDiff, Nat.reduceLT, Int.reduceEq, Int.reduceLT, Int.reduceLE, Int.reduceNeg, Int.reduceAdd, Int.reduceSub, Int.reduceToNat, ↓reduceIte, one_ne_zero_, zero_ne_one_, px_in32L, cd_132]
  exact h M' a b c
set_option maxHeartbeats 600000 in
set_option maxRecDepth 100000 in
theorem sp_spoil {p v : Int} (hci : ci M) (h0 : ¬ (0 ≤ p ∧ p < 400 ∧ 0 ≤ v ∧ v ≤ 255) → Q (some (0, -1)) M) (h1 : ∀ M', (0 ≤ p ∧ p < 400 ∧ 0 ≤ v ∧ v ≤ 255) → (∀ x, M' 53 x = if x = p then v else M 53 x) → ci M' → (∀ b, b ≠ 53 → ¬ (64 ≤ b ∧ b < 106) → M' b = M b) → Q (some (0, M 53 p)) M') : px_Ok 133 [(2, 1), (0, p), (0, v)] LAY M Q := by
  refine px_ok_go (inl := [75]) (ls0 := [(2, 1), (0, p), (0, v), (9, 0)]) 60 (by decide) (Nat.le_of_ble_eq_true rfl) rfl ?_
  simp only [px_go, px_Q0_at, px_sx_0, px_sx_s, px_cl, px_step, ↓px_ll, px_lg, f4_, ↓px_r1, ↓px_r2, ↓px_r4, ↓px_r5, ↓px_p1, ↓px_p2, ↓px_p3, ↓px_pop, px_k_0, px_k_s, px_k3_0, px_stk_, px_cats, px_ent, px_st1, px_st2, px_mask, ↓px_tsw, ↓px_lsw, ct_, mls_0, mls_1, mls_2, mls_3, mls_4, mls_5, kd_0, kd_1, kd_2, kd_3, ln_0, ln_1, ln_2, ln_3, gf_0, gf_1, gf_2, gf_3, gf_4, gf_7, gf_21, gf_63, dy_0, dy_1, dy_2, dy_3, dy_7, dy_21, px_brT, px_brF, true_and, and_true, and_false, false_and, and_self, true_implies, false_implies, or_true, true_or, or_false, false_or, eq_self, ne_eq, not_false_eq_true, not_true_eq_false, if_true, if_false, List.mem_cons, List.not_mem_nil, List.length_cons, List.length_nil, Nat.reduceEqDiff, Nat.reduceAdd, Nat.reduceSub, Nat.reduceLeDiff, Nat.reduceLT, Int.reduceEq, Int.reduceLT, Int.reduceLE, Int.reduceNeg, Int.reduceAdd, Int.reduceSub, Int.reduceToNat, ↓reduceIte, one_ne_zero_, zero_ne_one_, px_in32L, cd_133, cd_75]
  repeat' (first | (with_reducible apply And.intro) | (with_reducible refine px_br_intro (fun _ => ?_) (fun _ => ?_)))
  all_goals (try (first | (unfold px_in32; omega) | omega))
  all_goals (try exact h0 (by omega))
  obtain ⟨i1, i2, i3, i4, i5⟩ := hci
  have f : ∀ b, b ≠ 53 → px_up M 53 p v b = M b := fun b b0 => row_ne b0
  have e53 : ∀ x, px_up M 53 p v 53 x = if x = p then v else M 53 x := fun x => by
    rw [px_up_at]
    by_cases q : x = p
    · rw [if_pos ⟨rfl, q⟩, if_pos q]
    · rw [if_neg (fun z => q z.2), if_neg q]
  have hcw : cw (cC (px_up M 53 p v)) (px_up M 53 p v 62) := by
    rw [f 62 (by decide)]
    exact cw_congr (cC_congr (fun b b0 b1 => f b (by omega))) i1
  have hbw : bw (px_up M 53 p v 53) := fun x x0 x1 => by
    rw [e53]
    split
    · omega
    · exact i2 x x0 x1
  refine sp_readAll hcw hbw (fun M' g1 g2 => ?_)
  simp only [px_go, px_Q0_at, px_sx_0, px_sx_s, px_cl, px_step, ↓px_ll, px_lg, f4_, ↓px_r1, ↓px_r2, ↓px_r4, ↓px_r5, ↓px_p1, ↓px_p2, ↓px_p3, ↓px_pop, px_k_0, px_k_s, px_k3_0, px_stk_, px_cats, px_ent, px_st1, px_st2, px_mask, ↓px_tsw, ↓px_lsw, ct_, mls_0, mls_1, mls_2, mls_3, mls_4, mls_5, kd_0, kd_1, kd_2, kd_3, ln_0, ln_1, ln_2, ln_3, gf_0, gf_1, gf_2, gf_3, gf_4, gf_7, gf_21, gf_63, dy_0, dy_1, dy_2, dy_3, dy_7, dy_21, px_brT, px_brF, true_and, and_true, and_false, false_and, and_self, true_implies, false_implies, or_true, true_or, or_false, false_or, eq_self, ne_eq, not_false_eq_true, not_true_eq_false, if_true, if_false, List.mem_cons, List.not_mem_nil, List.length_cons, List.length_nil, Nat.reduceEqDiff, Nat.reduceAdd, Nat.reduceSub, Nat.reduceLeDiff, Nat.reduceLT, Int.reduceEq, Int.reduceLT, Int.reduceLE, Int.reduceNeg, Int.reduceAdd, Int.reduceSub, Int.reduceToNat, ↓reduceIte, one_ne_zero_, zero_ne_one_, px_in32L, cd_133, cd_75]
  have f3 : ∀ b, b ≠ 53 → ¬ (64 ≤ b ∧ b < 106) → M' b = M b := fun b b0 b1 => by rw [g1 b (by omega) (by omega) (by omega), f b b0]
  have g53 := g1 53 (by decide) (by decide) (by decide)
  refine h1 M' (by omega) (fun x => by rw [g53]; exact e53 x) ⟨frR_cw g1 hcw, by rw [g53]; exact hbw, ?_, ?_, ?_⟩ f3
  · have : ownG (M' 62) (M' 59) (M' 60) (M' 54) := by rw [f3 62 (by decide) (by decide), f3 59 (by decide) (by decide), f3 60 (by decide) (by decide), f3 54 (by decide) (by decide)]; exact i3
    exact this
  · rw [f3 62 (by decide) (by decide)]; exact i4
  · intro x x0 x1 x2
    exact g2 x x0 x1 (by rw [g1 62 (by decide) (by decide) (by decide)] at x2; exact x2)
set_option maxHeartbeats 600000 in
set_option maxRecDepth 100000 in
theorem sp_mend {c n : Int} (ht : tpI M) (hci : ci M) (h0 : ¬ (0 ≤ n ∧ n ≤ 40 ∧ n ≤ M 2 1) → Q (some (0, -1)) M) (h2 : (0 ≤ n ∧ n ≤ 40 ∧ n ≤ M 2 1) → ¬ (0 ≤ c ∧ c < 40 ∧ 0 ≤ M 62 c) → Q (some (0, -2)) (px_up M 2 1 0)) (h1 : ∀ M', (0 ≤ n ∧ n ≤ 40 ∧ n ≤ M 2 1) → (0 ≤ c ∧ c < 40 ∧ 0 ≤ M 62 c) → mdOk M c (lst (M 3) n) → mdW M M' c (lst (M 3) n) → Q (some (0, 1)) (px_up M' 2 1 0)) (h3 : ∀ M' r, (0 ≤ n ∧ n ≤ 40 ∧ n ≤ M 2 1) → (0 ≤ c ∧ c < 40 ∧ 0 ≤ M 62 c) → ¬ mdOk M c (lst (M 3) n) → (r = if ((lst (M 3) n).length : Int) = M 57 c ∧ mkl (lst (M 3) n) = M 58 c then -4 else -3) → eq67 M M' → Q (some (0, r)) (px_up M' 2 1 0)) : px_Ok 134 [(2, 1), (0, c), (0, n)] LAY M Q := by
  have ht1 := ht.1
  have ht2 := ht.2.1
  refine px_ok_go (inl := [7, 100, 101]) (ls0 := [(2, 1), (0, c), (0, n), (9, 0)]) 60 (by decide) (Nat.le_of_ble_eq_true rfl) rfl ?_
  simp only [px_go, px_Q0_at, px_sx_0, px_sx_s, px_cl, px_step, ↓px_ll, px_lg, f4_, ↓px_r1, ↓px_r2, ↓px_r4, ↓px_r5, ↓px_p1, ↓px_p2, ↓px_p3, ↓px_pop, px_k_0, px_k_s, px_k3_0, px_stk_, px_cats, px_ent, px_st1, px_st2, px_mask, ↓px_tsw, ↓px_lsw, ct_, mls_0, mls_1, mls_2, mls_3, mls_4, mls_5, kd_0, kd_1, kd_2, kd_3, ln_0, ln_1, ln_2, ln_3, gf_0, gf_1, gf_2, gf_3, gf_4, gf_7, gf_21, gf_63, dy_0, dy_1, dy_2, dy_3, dy_7, dy_21, px_brT, px_brF, true_and, and_true, and_false, false_and, and_self, true_implies, false_implies, or_true, true_or, or_false, false_or, eq_self, ne_eq, not_false_eq_true, not_true_eq_false, if_true, if_false, List.mem_cons, List.not_mem_nil, List.length_cons, List.length_nil, Nat.reduceEqDiff, Nat.reduceAdd, Nat.reduceSub, Nat.reduceLeDiff, Nat.reduceLT, Int.reduceEq, Int.reduceLT, Int.reduceLE, Int.reduceNeg, Int.reduceAdd, Int.reduceSub, Int.reduceToNat, ↓reduceIte, one_ne_zero_, zero_ne_one_, px_in32L, cd_134, cd_7, cd_100, cd_101]
  repeat' (first | (with_reducible apply And.intro) | (with_reducible refine px_br_intro (fun _ => ?_) (fun _ => ?_)))
  all_goals (try (first | (unfold px_in32; omega) | omega))
  all_goals (try exact h0 (by omega))
  all_goals (try exact h2 (by omega) (by omega))
  have hlen : ((lst (M 3) n).length : Int) = n := lst_len (by omega)
  have hm := sp_mendBy2 (M := M) (c := c) (v := 3) (b := lst (M 3) n) (Q := fun r M' => ∃ k, r = some (0, k) ∧ Q (some (0, k)) (px_up M' 2 1 0)) hci ⟨by omega, by omega⟩ (by omega) rfl (by rw [hlen, show px_ln LAY 3 = 160 from rfl]; omega) (by decide) (by decide) ⟨by omega, fun x hx => by
    obtain ⟨k, k0, k1, rfl⟩ := lst_mem.mp hx
    exact ht.2.2 k k0 (by omega)⟩ (by rw [hlen]) (fun M' a b => ⟨1, rfl, h1 M' (by omega) (by omega) a b⟩) (fun M' r a b d => ⟨r, rfl, h3 M' r (by omega) (by omega) a b d⟩)
  rw [hlen] at hm
  refine hm.mono (fun r M' q => ?_)
  obtain ⟨k, rfl, q⟩ := q
  simp only [px_go, px_Q0_at, px_sx_0, px_sx_s, px_cl, px_step, ↓px_ll, px_lg, f4_, ↓px_r1, ↓px_r2, ↓px_r4, ↓px_r5, ↓px_p1, ↓px_p2, ↓px_p3, ↓px_pop, px_k_0, px_k_s, px_k3_0, px_stk_, px_cats, px_ent, px_st1, px_st2, px_mask, ↓px_tsw, ↓px_lsw, ct_, mls_0, mls_1, mls_2, mls_3, mls_4, mls_5, kd_0, kd_1, kd_2, kd_3, ln_0, ln_1, ln_2, ln_3, gf_0, gf_1, gf_2, gf_3, gf_4, gf_7, gf_21, gf_63, dy_0, dy_1, dy_2, dy_3, dy_7, dy_21, px_brT, px_brF, true_and, and_true, and_false, false_and, and_self, true_implies, false_implies, or_true, true_or, or_false, false_or, eq_self, ne_eq, not_false_eq_true, not_true_eq_false, if_true, if_false, List.mem_cons, List.not_mem_nil, List.length_cons, List.length_nil, Nat.reduceEqDiff, Nat.reduceAdd, Nat.reduceSub, Nat.reduceLeDiff, Nat.reduceLT, Int.reduceEq, Int.reduceLT, Int.reduceLE, Int.reduceNeg, Int.reduceAdd, Int.reduceSub, Int.reduceToNat, ↓reduceIte, one_ne_zero_, zero_ne_one_, px_in32L, cd_134, cd_7, cd_100, cd_101]
  exact q
set_option maxHeartbeats 600000 in
set_option maxRecDepth 100000 in
theorem lp_cureOne {M0 : px_mem} {c N : Int} {g : Int → fe} (hci : ci M0) (hc : 0 ≤ c ∧ c < 40 ∧ 0 ≤ M0 62 c) (hst : stC M0 N g) (h1 : ∀ M' M1 i, eq67 M0 M1 → 0 ≤ i → i < N → mdOk M0 c (g i).2 → (∀ j, 0 ≤ j → j < i → ¬ mdOk M0 c (g j).2) → mdW M1 M' c (g i).2 → Q (some (0, 1)) M') (h0 : ∀ M', (∀ j, 0 ≤ j → j < N → ¬ mdOk M0 c (g j).2) → eq67 M0 M' → Q (some (0, 0)) M') (i : Int) (hk_i : i ≤ N) : ∀ (M : px_mem), 0 ≤ i → (∀ j, 0 ≤ j → j < i → ¬ mdOk M0 c (g j).2) → eq67 M0 M → px_WP 137 0 0 (px_Q0 LAY Q) 2 [(2, 1), (0, c), (0, i)] [] LAY M 0 0 := by
  refine up_ind (P := fun i => ∀ (M : px_mem), 0 ≤ i → (∀ j, 0 ≤ j → j < i → ¬ mdOk M0 c (g j).2) → eq67 M0 M → px_WP 137 0 0 (px_Q0 LAY Q) 2 [(2, 1), (0, c), (0, i)] [] LAY M 0 0) (N) (fun i hk_i ih => ?_) i hk_i
  intro M i0 hno he
  have hst2 := eq67_st he hst
  have hM := hst2.1
  have hN := hst2.2.2.1
  have hci2 := eq67_ci he hci
  have e62 := he 62 (by decide) (by decide)
  refine px_go_ok (inl := []) 60 ?_
  simp only [px_go, px_Q0_at, px_sx_0, px_sx_s, px_cl, px_step, ↓px_ll, px_lg, f4_, ↓px_r1, ↓px_r2, ↓px_r4, ↓px_r5, ↓px_p1, ↓px_p2, ↓px_p3, ↓px_pop, px_k_0, px_k_s, px_k3_0, px_stk_, px_cats, px_ent, px_st1, px_st2, px_mask, ↓px_tsw, ↓px_lsw, ct_, mls_0, mls_1, mls_2, mls_3, mls_4, mls_5, kd_0, kd_1, kd_2, kd_3, ln_0, ln_1, ln_2, ln_3, gf_0, gf_1, gf_2, gf_3, gf_4, gf_7, gf_21, gf_63, dy_0, dy_1, dy_2, dy_3, dy_7, dy_21, px_brT, px_brF, true_and, and_true, and_false, false_and, and_self, true_implies, false_implies, or_true, true_or, or_false, false_or, eq_self, ne_eq, not_false_eq_true, not_true_eq_false, if_true, if_false, List.mem_cons, List.not_mem_nil, List.length_cons, List.length_nil, Nat.reduceEqDiff, Nat.reduceAdd, Nat.reduceSub, Nat.reduceLeDiff, Nat.reduceLT, Int.reduceEq, Int.reduceLT, Int.reduceLE, Int.reduceNeg, Int.reduceAdd, Int.reduceSub, Int.reduceToNat, ↓reduceIte, one_ne_zero_, zero_ne_one_, px_in32L, cd_137, hM]
  repeat' (first | (with_reducible apply And.intro) | (with_reducible refine px_br_intro (fun _ => ?_) (fun _ => ?_)))
  all_goals (try (first | (unfold px_in32; omega) | omega))
  · rename_i c1
    exact h0 M (fun j j0 j1 => hno j j0 (by omega)) he
  · rename_i c1
    have fk := hst2.2.2.2.2 i i0 (by omega)
    have hrow := hst2.2.2.2.1.1 i i0 (by omega)
    have hrl := row_lay (v := M 7 i) (Or.inl hrow)
    have hlen : (g i).2.length ≤ 40 := by have := fk.2.2.1; have := fk.2.2.2.1; omega
    have hb : lst (M (M 7 i)) ((g i).2.length : Int) = (g i).2 := by rw [← fk.2.2.1]; exact fk.2.2.2.2.1
    have hok := eq67_mdOk he hci hc.1 hc.2.1 hc.2.2 (g i).2
    rw [fk.2.2.1]
    refine sp_mendBy2 hci2 ⟨hc.1, hc.2.1⟩ (by rw [e62]; exact hc.2.2) hrl.1 (by omega) (by omega) (by omega) ⟨hlen, fk.2.2.2.2.2⟩ hb (fun M' a b => ?_) (fun M' r a b d => ?_)
    · simp only [px_go, px_Q0_at, px_sx_0, px_sx_s, px_cl, px_step, ↓px_ll, px_lg, f4_, ↓px_r1, ↓px_r2, ↓px_r4, ↓px_r5, ↓px_p1, ↓px_p2, ↓px_p3, ↓px_pop, px_k_0, px_k_s, px_k3_0, px_stk_, px_cats, px_ent, px_st1, px_st2, px_mask, ↓px_tsw, ↓px_lsw, ct_, mls_0, mls_1, mls_2, mls_3, mls_4, mls_5, kd_0, kd_1, kd_2, kd_3, ln_0, ln_1, ln_2, ln_3, gf_0, gf_1, gf_2, gf_3, gf_4, gf_7, gf_21, gf_63, dy_0, dy_1, dy_2, dy_3, dy_7, dy_21, px_brT, px_brF, true_and, and_true, and_false, false_and, and_self, true_implies, false_implies, or_true, true_or, or_false, false_or, eq_self, ne_eq, not_false_eq_true, not_true_eq_false, if_true, if_false, List.mem_cons, List.not_mem_nil, List.length_cons, List.length_nil, Nat.reduceEqDiff, Nat.reduceAdd, Nat.reduceSub, Nat.reduceLeDiff, Nat.reduceLT, Int.reduceEq, Int.reduceLT, Int.reduceLE, Int.reduceNeg, Int.reduceAdd, Int.reduceSub, Int.reduceToNat, ↓reduceIte, one_ne_zero_, zero_ne_one_, px_in32L, cd_137]
      exact h1 M' M i he i0 (by omega) (hok.mp a) hno b
    · have hr : ¬ r = 1 := by rw [b]; split <;> omega
      simp only [px_go, px_Q0_at, px_sx_0, px_sx_s, px_cl, px_step, ↓px_ll, px_lg, f4_, ↓px_r1, ↓px_r2, ↓px_r4, ↓px_r5, ↓px_p1, ↓px_p2, ↓px_p3, ↓px_pop, px_k_0, px_k_s, px_k3_0, px_stk_, px_cats, px_ent, px_st1, px_st2, px_mask, ↓px_tsw, ↓px_lsw, ct_, mls_0, mls_1, mls_2, mls_3, mls_4, mls_5, kd_0, kd_1, kd_2, kd_3, ln_0, ln_1, ln_2, ln_3, gf_0, gf_1, gf_2, gf_3, gf_4, gf_7, gf_21, gf_63, dy_0, dy_1, dy_2, dy_3, dy_7, dy_21, px_brT, px_brF, true_and, and_true, and_false, false_and, and_self, true_implies, false_implies, or_true, true_or, or_false, false_or, eq_self, ne_eq, not_false_eq_true, not_true_eq_false, if_true, if_false, List.mem_cons, List.not_mem_nil, List.length_cons, List.length_nil, Nat.reduceEqDiff, Nat.reduceAdd, Nat.reduceSub, Nat.reduceLeDiff, Nat.reduceLT, Int.reduceEq, Int.reduceLT, Int.reduceLE, Int.reduceNeg, Int.reduceAdd, Int.reduceSub, Int.reduceToNat, ↓reduceIte, one_ne_zero_, zero_ne_one_, px_in32L, cd_137]
      repeat' (first | (with_reducible apply And.intro) | (with_reducible refine px_br_intro (fun _ => ?_) (fun _ => ?_)))
      all_goals (try (first | (unfold px_in32; omega) | omega))
      refine ih (by omega) M' (by omega) (fun j j0 j1 => ?_) (fun x x0 x1 => by rw [d x x0 x1, he x x0 x1])
      by_cases q : j = i
      · rw [q]; exact fun z => a (hok.mpr z)
      · exact hno j j0 (by omega)
set_option maxHeartbeats 600000 in
set_option maxRecDepth 100000 in
theorem sp_cureOne {c N : Int} {g : Int → fe} (hci : ci M) (hc : 0 ≤ c ∧ c < 40 ∧ 0 ≤ M 62 c) (hst : stC M N g) (h1 : ∀ M' M1 i, eq67 M M1 → 0 ≤ i → i < N → mdOk M c (g i).2 → (∀ j, 0 ≤ j → j < i → ¬ mdOk M c (g j).2) → mdW M1 M' c (g i).2 → Q (some (0, 1)) M') (h0 : ∀ M', (∀ j, 0 ≤ j → j < N → ¬ mdOk M c (g j).2) → eq67 M M' → Q (some (0, 0)) M') : px_Ok 137 [(2, 1), (0, c)] LAY M Q := by
  refine px_ok_go (inl := []) (ls0 := [(2, 1), (0, c), (9, 0)]) 60 (by decide) (Nat.le_of_ble_eq_true rfl) rfl ?_
  simp only [px_go, px_Q0_at, px_sx_0, px_sx_s, px_cl, px_step, ↓px_ll, px_lg, f4_, ↓px_r1, ↓px_r2, ↓px_r4, ↓px_r5, ↓px_p1, ↓px_p2, ↓px_p3, ↓px_pop, px_k_0, px_k_s, px_k3_0, px_stk_, px_cats, px_ent, px_st1, px_st2, px_mask, ↓px_tsw, ↓px_lsw, ct_, mls_0, mls_1, mls_2, mls_3, mls_4, mls_5, kd_0, kd_1, kd_2, kd_3, ln_0, ln_1, ln_2, ln_3, gf_0, gf_1, gf_2, gf_3, gf_4, gf_7, gf_21, gf_63, dy_0, dy_1, dy_2, dy_3, dy_7, dy_21, px_brT, px_brF, true_and, and_true, and_false, false_and, and_self, true_implies, false_implies, or_true, true_or, or_false, false_or, eq_self, ne_eq, not_false_eq_true, not_true_eq_false, if_true, if_false, List.mem_cons, List.not_mem_nil, List.length_cons, List.length_nil, Nat.reduceEqDiff, Nat.reduceAdd, Nat.reduceSub, Nat.reduceLeDiff, Nat.reduceLT, Int.reduceEq, Int.reduceLT, Int.reduceLE, Int.reduceNeg, Int.reduceAdd, Int.reduceSub, Int.reduceToNat, ↓reduceIte, one_ne_zero_, zero_ne_one_, px_in32L, cd_137]
  repeat' (first | (with_reducible apply And.intro) | (with_reducible refine px_br_intro (fun _ => ?_) (fun _ => ?_)))
  all_goals (try (first | (unfold px_in32; omega) | omega))
  exact lp_cureOne (M0 := M) hci hc hst h1 h0 0 hst.2.1 M (Int.le_refl 0) (fun j j0 j1 => by omega) (eq67_refl M)
/-- one content's turn in a round of cure; a round; rounds that each mended one -/
def crst (N : Int) (g : Int → fe) (M M' : px_mem) (c d : Int) : Prop :=
  (0 ≤ M 62 c ∧ M 105 c = 0 ∧ d = 1 ∧ ∃ i M1, eq67 M M1 ∧ 0 ≤ i ∧ i < N ∧ mdOk M c (g i).2 ∧ (∀ j, 0 ≤ j → j < i → ¬ mdOk M c (g j).2) ∧ mdW M1 M' c (g i).2) ∨
  (¬ (0 ≤ M 62 c ∧ M 105 c = 0 ∧ ∃ i, 0 ≤ i ∧ i < N ∧ mdOk M c (g i).2) ∧ d = 0 ∧ eq67 M M')
def crtr (N : Int) (g : Int → fe) (M : px_mem) : Nat → px_mem → Int → Prop
  | 0, M', n => M' = M ∧ n = 0
  | k + 1, M', n => ∃ M1 n1 d, crtr N g M k M1 n1 ∧ crst N g M1 M' (k : Int) d ∧ n = n1 + d
def rdtr (N : Int) (g : Int → fe) (M : px_mem) : Nat → px_mem → Int → Prop
  | 0, M', n => M' = M ∧ n = 0
  | k + 1, M', n => ∃ M1 n1 d, rdtr N g M k M1 n1 ∧ crtr N g M1 40 M' d ∧ 0 < d ∧ n = n1 + d
theorem crst_keep {N : Int} {g : Int → fe} {M M' : px_mem} {c d : Int} (h : crst N g M M' c d) (hci : ci M) (hst : stC M N g) : ci M' ∧ stC M' N g ∧ 0 ≤ d ∧ d ≤ 1 ∧ ∀ b, b ≠ 53 → ¬ (64 ≤ b ∧ b < 108) → M' b = M b := by
  rcases h with ⟨_, _, h3, i, M1, h4, _, _, _, _, P, _, _, h5, h6⟩ | ⟨_, h2, h3⟩
  · have f : ∀ b, b ≠ 53 → ¬ (64 ≤ b ∧ b < 108) → M' b = M b := fun b b0 b1 => by rw [h5 b b0 b1, h4 b (by omega) (by omega)]
    exact ⟨h6, stF_frame hst (fun b b0 b1 => f b (by omega) (by omega)), by omega, by omega, f⟩
  · exact ⟨eq67_ci h3 hci, eq67_st h3 hst, by omega, by omega, fun b b0 b1 => h3 b (by omega) (by omega)⟩
set_option maxHeartbeats 600000 in
set_option maxRecDepth 100000 in
theorem lp_cureRound {M0 : px_mem} {N : Int} {g : Int → fe} (h : ∀ M' n, crtr N g M0 40 M' n → ci M' → stC M' N g → (0 ≤ n ∧ n ≤ 40) → (∀ b, b ≠ 53 → ¬ (64 ≤ b ∧ b < 108) → M' b = M0 b) → Q (some (0, n)) M') (k : Int) (hk_k : k ≤ 40) : ∀ (M : px_mem) (n : Int), 0 ≤ k → crtr N g M0 k.toNat M n → ci M → stC M N g → (0 ≤ n ∧ n ≤ k) → (∀ b, b ≠ 53 → ¬ (64 ≤ b ∧ b < 108) → M b = M0 b) → px_WP 136 0 0 (px_Q0 LAY Q) 4 [(2, 1), (0, n), (0, k)] [] LAY M 0 0 := by
  refine up_ind (P := fun k => ∀ (M : px_mem) (n : Int), 0 ≤ k → crtr N g M0 k.toNat M n → ci M → stC M N g → (0 ≤ n ∧ n ≤ k) → (∀ b, b ≠ 53 → ¬ (64 ≤ b ∧ b < 108) → M b = M0 b) → px_WP 136 0 0 (px_Q0 LAY Q) 4 [(2, 1), (0, n), (0, k)] [] LAY M 0 0) (40) (fun k hk_k ih => ?_) k hk_k
  intro M n k0 htr hci hst hn hfr
  have hstep : ∀ M' d, crst N g M M' k d → crtr N g M0 (k + 1).toNat M' (n + d) := fun M' d q => by
    rw [show (k + 1).toNat = k.toNat + 1 by omega]
    refine ⟨M, n, d, htr, ?_, rfl⟩
    rw [Int.toNat_of_nonneg k0]; exact q
  refine px_go_ok (inl := [7]) 60 ?_
  simp only [px_go, px_Q0_at, px_sx_0, px_sx_s, px_cl, px_step, ↓px_ll, px_lg, f4_, ↓px_r1, ↓px_r2, ↓px_r4, ↓px_r5, ↓px_p1, ↓px_p2, ↓px_p3, ↓px_pop, px_k_0, px_k_s, px_k3_0, px_stk_, px_cats, px_ent, px_st1, px_st2, px_mask, ↓px_tsw, ↓px_lsw, ct_, mls_0, mls_1, mls_2, mls_3, mls_4, mls_5, kd_0, kd_1, kd_2, kd_3, ln_0, ln_1, ln_2, ln_3, gf_0, gf_1, gf_2, gf_3, gf_4, gf_7, gf_21, gf_63, dy_0, dy_1, dy_2, dy_3, dy_7, dy_21, px_brT, px_brF, true_and, and_true, and_false, false_and, and_self, true_implies, false_implies, or_true, true_or, or_false, false_or, eq_self, ne_eq, not_false_eq_true, not_true_eq_false, if_true, if_false, List.mem_cons, List.not_mem_nil, List.length_cons, List.length_nil, Nat.reduceEqDiff, Nat.reduceAdd, Nat.reduceSub, Nat.reduceLeDiff, Nat.reduceLT, Int.reduceEq, Int.reduceLT, Int.reduceLE, Int.reduceNeg, Int.reduceAdd, Int.reduceSub, Int.reduceToNat, ↓reduceIte, one_ne_zero_, zero_ne_one_, px_in32L, cd_136, cd_7]
  repeat' (first | (with_reducible apply And.intro) | (with_reducible refine px_br_intro (fun _ => ?_) (fun _ => ?_)))
  all_goals (try (first | (unfold px_in32; omega) | omega))
  · rename_i c1
    have e : k = 40 := by omega
    subst e
    exact h M n htr hci hst hn hfr
  · rename_i c1 c2
    have hs := hstep M 0 (Or.inr ⟨fun z => by omega, rfl, eq67_refl M⟩)
    rw [Int.add_zero] at hs
    exact ih (by omega) M n (by omega) hs hci hst (by omega) hfr
  · rename_i c1 c2 c3
    refine sp_cureOne hci ⟨k0, by omega, by omega⟩ hst (fun M' M1 i a1 a2 a3 a4 a5 a6 => ?_) (fun M' a1 a2 => ?_)
    · have hc : crst N g M M' k 1 := Or.inl ⟨by omega, c3, rfl, i, M1, a1, a2, a3, a4, a5, a6⟩
      have hk := crst_keep hc hci hst
      simp only [px_go, px_Q0_at, px_sx_0, px_sx_s, px_cl, px_step, ↓px_ll, px_lg, f4_, ↓px_r1, ↓px_r2, ↓px_r4, ↓px_r5, ↓px_p1, ↓px_p2, ↓px_p3, ↓px_pop, px_k_0, px_k_s, px_k3_0, px_stk_, px_cats, px_ent, px_st1, px_st2, px_mask, ↓px_tsw, ↓px_lsw, ct_, mls_0, mls_1, mls_2, mls_3, mls_4, mls_5, kd_0, kd_1, kd_2, kd_3, ln_0, ln_1, ln_2, ln_3, gf_0, gf_1, gf_2, gf_3, gf_4, gf_7, gf_21, gf_63, dy_0, dy_1, dy_2, dy_3, dy_7, dy_21, px_brT, px_brF, true_and, and_true, and_false, false_and, and_self, true_implies, false_implies, or_true, true_or, or_false, false_or, eq_self, ne_eq, not_false_eq_true, not_true_eq_false, if_true, if_false, List.mem_cons, List.not_mem_nil, List.length_cons, List.length_nil, Nat.reduceEqDiff, Nat.reduceAdd, Nat.reduceSub, Nat.reduceLeDiff, Nat.reduceLT, Int.reduceEq, Int.reduceLT, Int.reduceLE, Int.reduceNeg, Int.reduceAdd, Int.reduceSub, Int.reduceToNat, ↓reduceIte, one_ne_zero_, zero_ne_one_, px_in32L, cd_136, cd_7]
      repeat' (first | (with_reducible apply And.intro) | (with_reducible refine px_br_intro (fun _ => ?_) (fun _ => ?_)))
      all_goals (try (first | (unfold px_in32; omega) | omega))
      exact ih (by omega) M' (n + 1) (by omega) (hstep M' 1 hc) hk.1 hk.2.1 (by omega) (fun b b0 b1 => by rw [hk.2.2.2.2 b b0 b1]; exact hfr b b0 b1)
    · have hc : crst N g M M' k 0 := Or.inr ⟨fun z => by
        obtain ⟨i, i0, i1, i2⟩ := z.2.2
        exact a1 i i0 i1 i2, rfl, a2⟩
      have hk := crst_keep hc hci hst
      have hs := hstep M' 0 hc
      rw [Int.add_zero] at hs
      simp only [px_go, px_Q0_at, px_sx_0, px_sx_s, px_cl, px_step, ↓px_ll, px_lg, f4_, ↓px_r1, ↓px_r2, ↓px_r4, ↓px_r5, ↓px_p1, ↓px_p2, ↓px_p3, ↓px_pop, px_k_0, px_k_s, px_k3_0, px_stk_, px_cats, px_ent, px_st1, px_st2, px_mask, ↓px_tsw, ↓px_lsw, ct_, mls_0, mls_1, mls_2, mls_3, mls_4, mls_5, kd_0, kd_1, kd_2, kd_3, ln_0, ln_1, ln_2, ln_3, gf_0, gf_1, gf_2, gf_3, gf_4, gf_7, gf_21, gf_63, dy_0, dy_1, dy_2, dy_3, dy_7, dy_21, px_brT, px_brF, true_and, and_true, and_false, false_and, and_self, true_implies, false_implies, or_true, true_or, or_false, false_or, eq_self, ne_eq, not_false_eq_true, not_true_eq_false, if_true, if_false, List.mem_cons, List.not_mem_nil, List.length_cons, List.length_nil, Nat.reduceEqDiff, Nat.reduceAdd, Nat.reduceSub, Nat.reduceLeDiff, Nat.reduceLT, Int.reduceEq, Int.reduceLT, Int.reduceLE, Int.reduceNeg, Int.reduceAdd, Int.reduceSub, Int.reduceToNat, ↓reduceIte, one_ne_zero_, zero_ne_one_, px_in32L, cd_136, cd_7]
      repeat' (first | (with_reducible apply And.intro) | (with_reducible refine px_br_intro (fun _ => ?_) (fun _ => ?_)))
      all_goals (try (first | (unfold px_in32; omega) | omega))
      exact ih (by omega) M' n (by omega) hs hk.1 hk.2.1 (by omega) (fun b b0 b1 => by rw [hk.2.2.2.2 b b0 b1]; exact hfr b b0 b1)
  · rename_i c1 c2 c3
    have hs := hstep M 0 (Or.inr ⟨fun z => c3 z.2.1, rfl, eq67_refl M⟩)
    rw [Int.add_zero] at hs
    exact ih (by omega) M n (by omega) hs hci hst (by omega) hfr
set_option maxHeartbeats 600000 in
set_option maxRecDepth 100000 in
theorem sp_cureRound {N : Int} {g : Int → fe} (hci : ci M) (hst : stC M N g) (h : ∀ M' n, crtr N g M 40 M' n → ci M' → stC M' N g → (0 ≤ n ∧ n ≤ 40) → (∀ b, b ≠ 53 → ¬ (64 ≤ b ∧ b < 108) → M' b = M b) → Q (some (0, n)) M') : px_Ok 136 [(2, 1)] LAY M Q := by
  refine px_ok_go (inl := [7]) (ls0 := [(2, 1), (9, 0), (9, 0)]) 60 (by decide) (Nat.le_of_ble_eq_true rfl) rfl ?_
  simp only [px_go, px_Q0_at, px_sx_0, px_sx_s, px_cl, px_step, ↓px_ll, px_lg, f4_, ↓px_r1, ↓px_r2, ↓px_r4, ↓px_r5, ↓px_p1, ↓px_p2, ↓px_p3, ↓px_pop, px_k_0, px_k_s, px_k3_0, px_stk_, px_cats, px_ent, px_st1, px_st2, px_mask, ↓px_tsw, ↓px_lsw, ct_, mls_0, mls_1, mls_2, mls_3, mls_4, mls_5, kd_0, kd_1, kd_2, kd_3, ln_0, ln_1, ln_2, ln_3, gf_0, gf_1, gf_2, gf_3, gf_4, gf_7, gf_21, gf_63, dy_0, dy_1, dy_2, dy_3, dy_7, dy_21, px_brT, px_brF, true_and, and_true, and_false, false_and, and_self, true_implies, false_implies, or_true, true_or, or_false, false_or, eq_self, ne_eq, not_false_eq_true, not_true_eq_false, if_true, if_false, List.mem_cons, List.not_mem_nil, List.length_cons, List.length_nil, Nat.reduceEqDiff, Nat.reduceAdd, Nat.reduceSub, Nat.reduceLeDiff, Nat.reduceLT, Int.reduceEq, Int.reduceLT, Int.reduceLE, Int.reduceNeg, Int.reduceAdd, Int.reduceSub, Int.reduceToNat, ↓reduceIte, one_ne_zero_, zero_ne_one_, px_in32L, cd_136, cd_7]
  repeat' (first | (with_reducible apply And.intro) | (with_reducible refine px_br_intro (fun _ => ?_) (fun _ => ?_)))
  all_goals (try (first | (unfold px_in32; omega) | omega))
  exact lp_cureRound (M0 := M) h 0 (by decide) M 0 (Int.le_refl 0) ⟨rfl, rfl⟩ hci hst (by decide) (fun _ _ _ => rfl)
set_option maxHeartbeats 600000 in
set_option maxRecDepth 100000 in
theorem lp_cure {M0 : px_mem} {N : Int} {g : Int → fe} (h : ∀ M' n, ((∃ k M1, rdtr N g M0 k M1 n ∧ crtr N g M1 40 M' 0) ∨ rdtr N g M0 1000 M' n) → ci M' → stC M' N g → (∀ b, b ≠ 53 → ¬ (64 ≤ b ∧ b < 108) → M' b = M0 b) → Q (some (0, n)) M') (k : Int) (hk_k : k ≤ 1000) : ∀ (M : px_mem) (n more : Int), 0 ≤ k → (more = 0 ∨ more = 1) → ((more = 1 → rdtr N g M0 k.toNat M n) ∧ (more = 0 → ∃ k M1, rdtr N g M0 k M1 n ∧ crtr N g M1 40 M 0)) → ci M → stC M N g → (0 ≤ n ∧ n ≤ 40 * k) → (∀ b, b ≠ 53 → ¬ (64 ≤ b ∧ b < 108) → M b = M0 b) → px_WP 135 0 0 (px_Q0 LAY Q) 6 [(2, 1), (0, n), (0, more), (0, k), (9, 0)] [] LAY M 0 0 := by
  refine up_ind (P := fun k => ∀ (M : px_mem) (n more : Int), 0 ≤ k → (more = 0 ∨ more = 1) → ((more = 1 → rdtr N g M0 k.toNat M n) ∧ (more = 0 → ∃ k M1, rdtr N g M0 k M1 n ∧ crtr N g M1 40 M 0)) → ci M → stC M N g → (0 ≤ n ∧ n ≤ 40 * k) → (∀ b, b ≠ 53 → ¬ (64 ≤ b ∧ b < 108) → M b = M0 b) → px_WP 135 0 0 (px_Q0 LAY Q) 6 [(2, 1), (0, n), (0, more), (0, k), (9, 0)] [] LAY M 0 0) (1000) (fun k hk_k ih => ?_) k hk_k
  intro M n more k0 hmo htr hci hst hn hfr
  refine px_go_ok (inl := []) 60 ?_
  simp only [px_go, px_Q0_at, px_sx_0, px_sx_s, px_cl, px_step, ↓px_ll, px_lg, f4_, ↓px_r1, ↓px_r2, ↓px_r4, ↓px_r5, ↓px_p1, ↓px_p2, ↓px_p3, ↓px_pop, px_k_0, px_k_s, px_k3_0, px_stk_, px_cats, px_ent, px_st1, px_st2, px_mask, ↓px_tsw, ↓px_lsw, ct_, mls_0, mls_1, mls_2, mls_3, mls_4, mls_5, kd_0, kd_1, kd_2, kd_3, ln_0, ln_1, ln_2, ln_3, gf_0, gf_1, gf_2, gf_3, gf_4, gf_7, gf_21, gf_63, dy_0, dy_1, dy_2, dy_3, dy_7, dy_21, px_brT, px_brF, true_and, and_true, and_false, false_and, and_self, true_implies, false_implies, or_true, true_or, or_false, false_or, eq_self, ne_eq, not_false_eq_true, not_true_eq_false, if_true, if_false, List.mem_cons, List.not_mem_nil, List.length_cons, List.length_nil, Nat.reduceEqDiff, Nat.reduceAdd, Nat.reduceSub, Nat.reduceLeDiff, Nat.reduceLT, Int.reduceEq, Int.reduceLT, Int.reduceLE, Int.reduceNeg, Int.reduceAdd, Int.reduceSub, Int.reduceToNat, ↓reduceIte, one_ne_zero_, zero_ne_one_, px_in32L, cd_135]
  repeat' (first | (with_reducible apply And.intro) | (with_reducible refine px_br_intro (fun _ => ?_) (fun _ => ?_)))
  all_goals (try (first | (unfold px_in32; omega) | omega))
  · rename_i c1
    exact h M n (Or.inl (htr.2 c1)) hci hst hfr
  · rename_i c1 c2
    have e : k = 1000 := by omega
    subst e
    exact h M n (Or.inr (htr.1 (by omega))) hci hst hfr
  · rename_i c1 c2
    have ht := htr.1 (by omega)
    refine sp_cureRound hci hst (fun M' d a1 a2 a3 a4 a5 => ?_)
    simp only [px_go, px_Q0_at, px_sx_0, px_sx_s, px_cl, px_step, ↓px_ll, px_lg, f4_, ↓px_r1, ↓px_r2, ↓px_r4, ↓px_r5, ↓px_p1, ↓px_p2, ↓px_p3, ↓px_pop, px_k_0, px_k_s, px_k3_0, px_stk_, px_cats, px_ent, px_st1, px_st2, px_mask, ↓px_tsw, ↓px_lsw, ct_, mls_0, mls_1, mls_2, mls_3, mls_4, mls_5, kd_0, kd_1, kd_2, kd_3, ln_0, ln_1, ln_2, ln_3, gf_0, gf_1, gf_2, gf_3, gf_4, gf_7, gf_21, gf_63, dy_0, dy_1, dy_2, dy_3, dy_7, dy_21, px_brT, px_brF, true_and, and_true, and_false, false_and, and_self, true_implies, false_implies, or_true, true_or, or_false, false_or, eq_self, ne_eq, not_false_eq_true, not_true_eq_false, if_true, if_false, List.mem_cons, List.not_mem_nil, List.length_cons, List.length_nil, Nat.reduceEqDiff, Nat.reduceAdd, Nat.reduceSub, Nat.reduceLeDiff, Nat.reduceLT, Int.reduceEq, Int.reduceLT, Int.reduceLE, Int.reduceNeg, Int.reduceAdd, Int.reduceSub, Int.reduceToNat, ↓reduceIte, one_ne_zero_, zero_ne_one_, px_in32L, cd_135]
    repeat' (first | (with_reducible apply And.intro) | (with_reducible refine px_br_intro (fun _ => ?_) (fun _ => ?_)))
    all_goals (try (first | (unfold px_in32; omega) | omega))
    · rename_i c3
      have e : d = 0 := by omega
      subst e
      rw [Int.add_zero]
      exact ih (by omega) M' n 0 (by omega) (Or.inl rfl) ⟨fun z => by omega, fun _ => ⟨k.toNat, M, ht, a1⟩⟩ a2 a3 (by omega) (fun b b0 b1 => by rw [a5 b b0 b1]; exact hfr b b0 b1)
    · rename_i c3
      refine ih (by omega) M' (n + d) 1 (by omega) (Or.inr rfl) ⟨fun _ => ?_, fun z => by omega⟩ a2 a3 (by omega) (fun b b0 b1 => by rw [a5 b b0 b1]; exact hfr b b0 b1)
      rw [show (k + 1).toNat = k.toNat + 1 by omega]
      exact ⟨M, n, d, ht, a1, by omega, rfl⟩
set_option maxHeartbeats 600000 in
set_option maxRecDepth 100000 in
theorem sp_cure {N : Int} {g : Int → fe} (hci : ci M) (hst : stC M N g) (h : ∀ M' n, ((∃ k M1, rdtr N g M k M1 n ∧ crtr N g M1 40 M' 0) ∨ rdtr N g M 1000 M' n) → ci M' → stC M' N g → (∀ b, b ≠ 53 → ¬ (64 ≤ b ∧ b < 108) → M' b = M b) → Q (some (0, n)) M') : px_Ok 135 [(2, 1)] LAY M Q := by
  refine px_ok_go (inl := []) (ls0 := [(2, 1), (9, 0), (9, 0), (9, 0), (9, 0)]) 60 (by decide) (Nat.le_of_ble_eq_true rfl) rfl ?_
  simp only [px_go, px_Q0_at, px_sx_0, px_sx_s, px_cl, px_step, ↓px_ll, px_lg, f4_, ↓px_r1, ↓px_r2, ↓px_r4, ↓px_r5, ↓px_p1, ↓px_p2, ↓px_p3, ↓px_pop, px_k_0, px_k_s, px_k3_0, px_stk_, px_cats, px_ent, px_st1, px_st2, px_mask, ↓px_tsw, ↓px_lsw, ct_, mls_0, mls_1, mls_2, mls_3, mls_4, mls_5, kd_0, kd_1, kd_2, kd_3, ln_0, ln_1, ln_2, ln_3, gf_0, gf_1, gf_2, gf_3, gf_4, gf_7, gf_21, gf_63, dy_0, dy_1, dy_2, dy_3, dy_7, dy_21, px_brT, px_brF, true_and, and_true, and_false, false_and, and_self, true_implies, false_implies, or_true, true_or, or_false, false_or, eq_self, ne_eq, not_false_eq_true, not_true_eq_false, if_true, if_false, List.mem_cons, List.not_mem_nil, List.length_cons, List.length_nil, Nat.reduceEqDiff, Nat.reduceAdd, Nat.reduceSub, Nat.reduceLeDiff, Nat.reduceLT, Int.reduceEq, Int.reduceLT, Int.reduceLE, Int.reduceNeg, Int.reduceAdd, Int.reduceSub, Int.reduceToNat, ↓reduceIte, one_ne_zero_, zero_ne_one_, px_in32L, cd_135]
  repeat' (first | (with_reducible apply And.intro) | (with_reducible refine px_br_intro (fun _ => ?_) (fun _ => ?_)))
  all_goals (try (first | (unfold px_in32; omega) | omega))
  exact lp_cure (M0 := M) h 0 (by decide) M 0 1 (Int.le_refl 0) (Or.inr rfl) ⟨fun _ => ⟨rfl, rfl⟩, fun z => by omega⟩ hci hst (by decide) (fun _ _ _ => rfl)
end PS
