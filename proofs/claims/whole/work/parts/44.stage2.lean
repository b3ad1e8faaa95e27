/-! EditionVault.Stage: meeting, putting, losing, renaming -/
set_option maxRecDepth 100000 in
/-- X8_loseWithin -/
theorem cd_93 : px_at 93 0 = some (1, [], .iconst 0, []) ∧ px_at 93 1 = some (2, [], .istore_n 3, []) ∧ px_at 93 2 = some (3, [], .iconst 0, []) ∧ px_at 93 3 = some (5, [], .istore 4, []) ∧ px_at 93 5 = some (7, [1, 1, 0, 1, 1], .iload 4, []) ∧ px_at 93 7 = some (8, [], .aload_n 0, []) ∧ px_at 93 8 = some (11, [], .getfield 31, [7, 3, 0, 0, 11]) ∧ px_at 93 11 = some (14, [], .if_icmp .ge 33, [44]) ∧ px_at 93 14 = some (15, [], .aload_n 0, []) ∧ px_at 93 15 = some (18, [], .getfield 9, [7, 0, 2, 1, 4]) ∧ px_at 93 18 = some (20, [], .iload 4, []) ∧ px_at 93 20 = some (21, [], .laload, []) ∧ px_at 93 21 = some (22, [], .lload_n 1, []) ∧ px_at 93 22 = some (25, [], .invokestatic 43, [66, 2, 0, 37]) ∧ px_at 93 25 = some (28, [], .ifCond .ne 13, [38]) ∧ px_at 93 28 = some (29, [], .aload_n 0, []) ∧ px_at 93 29 = some (30, [], .iload_n 3, []) ∧ px_at 93 30 = some (32, [], .iload 4, []) ∧ px_at 93 32 = some (35, [], .invokevirtual 68, [92, 2, 7, 44]) ∧ px_at 93 35 = some (38, [], .iinc 3 1, []) ∧ px_at 93 38 = some (41, [], .iinc 4 1, []) ∧ px_at 93 41 = some (44, [], .goto (-36), [5]) ∧ px_at 93 44 = some (45, [], .aload_n 0, []) ∧ px_at 93 45 = some (48, [], .getfield 31, [7, 3, 0, 0, 11]) ∧ px_at 93 48 = some (49, [], .iload_n 3, []) ∧ px_at 93 49 = some (50, [], .isub, []) ∧ px_at 93 50 = some (52, [], .istore 4, []) ∧ px_at 93 52 = some (53, [], .aload_n 0, []) ∧ px_at 93 53 = some (54, [], .iload_n 3, []) ∧ px_at 93 54 = some (57, [], .putfield 31, [7, 3, 0, 0, 11]) ∧ px_at 93 57 = some (59, [], .iload 4, []) ∧ px_at 93 59 = some (60, [], .ireturn, [0]) := ⟨rfl, rfl, rfl, rfl, rfl, rfl, rfl, rfl, rfl, rfl, rfl, rfl, rfl, rfl, rfl, rfl, rfl, rfl, rfl, rfl, rfl, rfl, rfl, rfl, rfl, rfl, rfl, rfl, rfl, rfl, rfl, rfl⟩
set_option maxRecDepth 100000 in
/-- X8_canRename -/
theorem cd_94 : px_at 94 0 = some (1, [], .iconst 0, []) ∧ px_at 94 1 = some (3, [], .istore 7, []) ∧ px_at 94 3 = some (5, [1, 1, 0, 1, 0, 1, 0, 1, 0, 0], .iload 7, []) ∧ px_at 94 5 = some (6, [], .aload_n 0, []) ∧ px_at 94 6 = some (9, [], .getfield 31, [7, 3, 0, 0, 11]) ∧ px_at 94 9 = some (12, [], .if_icmp .ge 57, [66]) ∧ px_at 94 12 = some (13, [], .aload_n 0, []) ∧ px_at 94 13 = some (16, [], .getfield 9, [7, 0, 2, 1, 4]) ∧ px_at 94 16 = some (18, [], .iload 7, []) ∧ px_at 94 18 = some (19, [], .laload, []) ∧ px_at 94 19 = some (20, [], .lload_n 1, []) ∧ px_at 94 20 = some (23, [], .invokestatic 43, [66, 2, 0, 37]) ∧ px_at 94 23 = some (26, [], .ifCond .eq 37, [60]) ∧ px_at 94 26 = some (27, [], .aload_n 0, []) ∧ px_at 94 27 = some (30, [], .getfield 9, [7, 0, 2, 1, 4]) ∧ px_at 94 30 = some (32, [], .iload 7, []) ∧ px_at 94 32 = some (33, [], .laload, []) ∧ px_at 94 33 = some (34, [], .lload_n 1, []) ∧ px_at 94 34 = some (35, [], .lload_n 3, []) ∧ px_at 94 35 = some (38, [], .invokestatic 72, [69, 3, 0, 55]) ∧ px_at 94 38 = some (40, [], .lstore 8, []) ∧ px_at 94 40 = some (42, [], .lload 8, []) ∧ px_at 94 42 = some (43, [], .lconst 0, []) ∧ px_at 94 43 = some (44, [], .lcmp, []) ∧ px_at 94 44 = some (47, [], .ifCond .eq 14, [58]) ∧ px_at 94 47 = some (48, [], .aload_n 0, []) ∧ px_at 94 48 = some (50, [], .lload 8, []) ∧ px_at 94 50 = some (52, [], .lload 5, []) ∧ px_at 94 52 = some (55, [], .invokevirtual 58, [87, 2, 7, 36]) ∧ px_at 94 55 = some (58, [], .ifCond .eq 5, [60]) ∧ px_at 94 58 = some (59, [], .iconst 0, []) ∧ px_at 94 59 = some (60, [], .ireturn, [4]) ∧ px_at 94 60 = some (63, [], .iinc 7 1, []) ∧ px_at 94 63 = some (66, [], .goto (-60), [3]) ∧ px_at 94 66 = some (67, [], .iconst 1, []) ∧ px_at 94 67 = some (68, [], .ireturn, [4]) := ⟨rfl, rfl, rfl, rfl, rfl, rfl, rfl, rfl, rfl, rfl, rfl, rfl, rfl, rfl, rfl, rfl, rfl, rfl, rfl, rfl, rfl, rfl, rfl, rfl, rfl, rfl, rfl, rfl, rfl, rfl, rfl, rfl, rfl, rfl, rfl, rfl⟩
set_option maxRecDepth 100000 in
/-- X8_renameWithin -/
theorem cd_95 : px_at 95 0 = some (1, [], .iconst 0, []) ∧ px_at 95 1 = some (3, [], .istore 5, []) ∧ px_at 95 3 = some (5, [1, 1, 0, 1, 0, 1], .iload 5, []) ∧ px_at 95 5 = some (6, [], .aload_n 0, []) ∧ px_at 95 6 = some (9, [], .getfield 31, [7, 3, 0, 0, 11]) ∧ px_at 95 9 = some (12, [], .if_icmp .ge 42, [51]) ∧ px_at 95 12 = some (13, [], .aload_n 0, []) ∧ px_at 95 13 = some (16, [], .getfield 9, [7, 0, 2, 1, 4]) ∧ px_at 95 16 = some (18, [], .iload 5, []) ∧ px_at 95 18 = some (19, [], .laload, []) ∧ px_at 95 19 = some (20, [], .lload_n 1, []) ∧ px_at 95 20 = some (23, [], .invokestatic 43, [66, 2, 0, 37]) ∧ px_at 95 23 = some (26, [], .ifCond .eq 22, [45]) ∧ px_at 95 26 = some (27, [], .aload_n 0, []) ∧ px_at 95 27 = some (30, [], .getfield 9, [7, 0, 2, 1, 4]) ∧ px_at 95 30 = some (32, [], .iload 5, []) ∧ px_at 95 32 = some (33, [], .aload_n 0, []) ∧ px_at 95 33 = some (36, [], .getfield 9, [7, 0, 2, 1, 4]) ∧ px_at 95 36 = some (38, [], .iload 5, []) ∧ px_at 95 38 = some (39, [], .laload, []) ∧ px_at 95 39 = some (40, [], .lload_n 1, []) ∧ px_at 95 40 = some (41, [], .lload_n 3, []) ∧ px_at 95 41 = some (44, [], .invokestatic 72, [69, 3, 0, 55]) ∧ px_at 95 44 = some (45, [], .lastore, []) ∧ px_at 95 45 = some (48, [], .iinc 5 1, []) ∧ px_at 95 48 = some (51, [], .goto (-45), [3]) ∧ px_at 95 51 = some (52, [], .aload_n 0, []) ∧ px_at 95 52 = some (55, [], .invokevirtual 65, [91, 0, 7, 43]) ∧ px_at 95 55 = some (56, [], .return_, []) := ⟨rfl, rfl, rfl, rfl, rfl, rfl, rfl, rfl, rfl, rfl, rfl, rfl, rfl, rfl, rfl, rfl, rfl, rfl, rfl, rfl, rfl, rfl, rfl, rfl, rfl, rfl, rfl, rfl, rfl⟩
set_option maxRecDepth 100000 in
/-- X8_doubleWithin -/
theorem cd_96 : px_at 96 0 = some (1, [], .aload_n 0, []) ∧ px_at 96 1 = some (4, [], .getfield 31, [7, 3, 0, 0, 11]) ∧ px_at 96 4 = some (6, [], .istore 5, []) ∧ px_at 96 6 = some (7, [], .iconst 0, []) ∧ px_at 96 7 = some (9, [], .istore 6, []) ∧ px_at 96 9 = some (11, [1, 1, 0, 1, 0, 1, 1], .iload 6, []) ∧ px_at 96 11 = some (13, [], .iload 5, []) ∧ px_at 96 13 = some (16, [], .if_icmp .ge 54, [67]) ∧ px_at 96 16 = some (17, [], .aload_n 0, []) ∧ px_at 96 17 = some (20, [], .getfield 9, [7, 0, 2, 1, 4]) ∧ px_at 96 20 = some (22, [], .iload 6, []) ∧ px_at 96 22 = some (23, [], .laload, []) ∧ px_at 96 23 = some (24, [], .lload_n 1, []) ∧ px_at 96 24 = some (27, [], .invokestatic 43, [66, 2, 0, 37]) ∧ px_at 96 27 = some (30, [], .ifCond .eq 34, [61]) ∧ px_at 96 30 = some (31, [], .aload_n 0, []) ∧ px_at 96 31 = some (32, [], .aload_n 0, []) ∧ px_at 96 32 = some (35, [], .getfield 9, [7, 0, 2, 1, 4]) ∧ px_at 96 35 = some (37, [], .iload 6, []) ∧ px_at 96 37 = some (38, [], .laload, []) ∧ px_at 96 38 = some (39, [], .lload_n 1, []) ∧ px_at 96 39 = some (40, [], .lload_n 3, []) ∧ px_at 96 40 = some (43, [], .invokestatic 72, [69, 3, 0, 55]) ∧ px_at 96 43 = some (44, [], .aload_n 0, []) ∧ px_at 96 44 = some (47, [], .getfield 21, [7, 2, 2, 1, 9]) ∧ px_at 96 47 = some (49, [], .iload 6, []) ∧ px_at 96 49 = some (50, [], .aaload, []) ∧ px_at 96 50 = some (51, [], .iconst 0, []) ∧ px_at 96 51 = some (52, [], .aload_n 0, []) ∧ px_at 96 52 = some (55, [], .getfield 15, [7, 1, 2, 1, 7]) ∧ px_at 96 55 = some (57, [], .iload 6, []) ∧ px_at 96 57 = some (58, [], .iaload, []) ∧ px_at 96 58 = some (61, [], .invokevirtual 61, [89, 4, 7, 42]) ∧ px_at 96 61 = some (64, [], .iinc 6 1, []) ∧ px_at 96 64 = some (67, [], .goto (-55), [9]) ∧ px_at 96 67 = some (68, [], .aload_n 0, []) ∧ px_at 96 68 = some (71, [], .invokevirtual 65, [91, 0, 7, 43]) ∧ px_at 96 71 = some (72, [], .return_, []) := ⟨rfl, rfl, rfl, rfl, rfl, rfl, rfl, rfl, rfl, rfl, rfl, rfl, rfl, rfl, rfl, rfl, rfl, rfl, rfl, rfl, rfl, rfl, rfl, rfl, rfl, rfl, rfl, rfl, rfl, rfl, rfl, rfl, rfl, rfl, rfl, rfl, rfl, rfl⟩
set_option maxRecDepth 100000 in
/-- X8_fillFrom -/
theorem cd_97 : px_at 97 0 = some (1, [], .aload_n 0, []) ∧ px_at 97 1 = some (2, [], .iconst 0, []) ∧ px_at 97 2 = some (5, [], .putfield 31, [7, 3, 0, 0, 11]) ∧ px_at 97 5 = some (6, [], .iconst 0, []) ∧ px_at 97 6 = some (8, [], .istore 5, []) ∧ px_at 97 8 = some (10, [1, 1, 1, 1, 1, 1], .iload 5, []) ∧ px_at 97 10 = some (11, [], .iload_n 3, []) ∧ px_at 97 11 = some (14, [], .if_icmp .ge 38, [49]) ∧ px_at 97 14 = some (15, [], .aload_n 0, []) ∧ px_at 97 15 = some (16, [], .aload_n 1, []) ∧ px_at 97 16 = some (18, [], .iload 5, []) ∧ px_at 97 18 = some (19, [], .laload, []) ∧ px_at 97 19 = some (21, [], .aload 4, []) ∧ px_at 97 21 = some (24, [], .getfield 76, [1, 6, 2, 1, 79]) ∧ px_at 97 24 = some (25, [], .aload_n 2, []) ∧ px_at 97 25 = some (27, [], .iload 5, []) ∧ px_at 97 27 = some (28, [], .iaload, []) ∧ px_at 97 28 = some (29, [], .aaload, []) ∧ px_at 97 29 = some (30, [], .iconst 0, []) ∧ px_at 97 30 = some (32, [], .aload 4, []) ∧ px_at 97 32 = some (35, [], .getfield 81, [1, 0, 2, 1, 67]) ∧ px_at 97 35 = some (36, [], .aload_n 2, []) ∧ px_at 97 36 = some (38, [], .iload 5, []) ∧ px_at 97 38 = some (39, [], .iaload, []) ∧ px_at 97 39 = some (40, [], .iaload, []) ∧ px_at 97 40 = some (43, [], .invokevirtual 61, [89, 4, 7, 42]) ∧ px_at 97 43 = some (46, [], .iinc 5 1, []) ∧ px_at 97 46 = some (49, [], .goto (-38), [8]) ∧ px_at 97 49 = some (50, [], .return_, []) := ⟨rfl, rfl, rfl, rfl, rfl, rfl, rfl, rfl, rfl, rfl, rfl, rfl, rfl, rfl, rfl, rfl, rfl, rfl, rfl, rfl, rfl, rfl, rfl, rfl, rfl, rfl, rfl, rfl, rfl⟩
def mt (p q : List Int) : Prop := wi p q ∨ wi q p
/-- some file, not within q, is, or is above or below, p -/
def mtg (n : Int) (g : Int → fe) (p q : List Int) : Prop := ∃ i, 0 ≤ i ∧ i < n ∧ ¬ wi (g i).1 q ∧ mt (g i).1 p
def rnp (f t p : List Int) : List Int := t ++ p.drop f.length
noncomputable def rnF (f t : List Int) (y : fe) : fe := by
  classical
  exact if wi y.1 f then (rnp f t y.1, y.2) else y
theorem rnF_t {f t : List Int} {y : fe} (h : wi y.1 f) : rnF f t y = (rnp f t y.1, y.2) := by unfold rnF; rw [if_pos h]
theorem rnF_f {f t : List Int} {y : fe} (h : ¬ wi y.1 f) : rnF f t y = y := by unfold rnF; rw [if_neg h]
def canR (n : Int) (g : Int → fe) (f t q : List Int) : Prop := ∀ i, 0 ≤ i → i < n → wi (g i).1 f → ((g i).1.length : Int) - f.length + t.length ≤ 12 ∧ ¬ mtg n g (rnp f t (g i).1) q
theorem wi_len {p t : List Int} (h : wi p t) : t.length ≤ p.length := by
  rcases h with h | h
  · rw [h]; exact Nat.le_refl _
  · have := h.2.1
    have h2 := congrArg List.length this
    rw [List.length_take] at h2
    omega
theorem wi_take {p t : List Int} (h : wi p t) : p.take t.length = t := by
  rcases h with h | h
  · rw [h]; exact List.take_of_length_le (Nat.le_refl _)
  · exact h.2.1
theorem rnp_inj {f t p q : List Int} (h1 : wi p f) (h2 : wi q f) (h : rnp f t p = rnp f t q) : p = q := by
  unfold rnp at h
  have h := List.append_cancel_left h
  rw [← List.take_append_drop f.length p, ← List.take_append_drop f.length q, wi_take h1, wi_take h2, h]
theorem rnp_okp {f t p : List Int} (hp : okp p) (ht : okp t) (hl : (p.length : Int) - f.length + t.length ≤ 12) (hw : wi p f) : okp (rnp f t p) := by
  have := wi_len hw
  refine ⟨okl_app.mpr ⟨ht.1, okl_drop hp.1 _⟩, ?_⟩
  unfold rnp
  rw [List.length_append, List.length_drop]
  omega
theorem wi_nil {p : List Int} (h : p ≠ []) : ¬ wi p [] := fun q => by
  rcases q with q | q
  · exact h q
  · exact q.1 rfl
theorem mt_self (p : List Int) : mt p p := Or.inl (Or.inl rfl)
theorem mt_abv {p q : List Int} : mt p q ↔ wi p q ∨ ab p q := by
  unfold mt
  constructor
  · rintro (h | h)
    · exact Or.inl h
    · rcases h with h | h
      · exact Or.inl (Or.inl h.symm)
      · exact Or.inr h
  · rintro (h | h)
    · exact Or.inl h
    · exact Or.inr (Or.inr h)
theorem idx_spec (n : Int) (p : Int → Prop) : (idx n p = -2 ∧ ∀ j, 0 ≤ j → j < n → ¬ p j) ∨ (0 ≤ idx n p ∧ idx n p < n ∧ p (idx n p) ∧ ∀ j, 0 ≤ j → j < idx n p → ¬ p j) := by
  unfold idx
  rcases fnd_spec n p with ⟨h1, h2⟩ | ⟨h1, h2, h3, h4⟩
  · left; rw [if_pos h1]; exact ⟨rfl, h2⟩
  · right; rw [if_neg (by omega)]; exact ⟨h1, h2, h3, h4⟩
theorem stC_less {M : px_mem} {n m : Int} {g : Int → fe} (h : stC M n g) (h0 : 0 ≤ m) (hm : m ≤ n) : stC (px_up M 4 3 m) m g := by
  obtain ⟨a1, a2, a3, a4, a5⟩ := h
  have e7 : px_up M 4 3 m 7 = M 7 := row_ne (by decide)
  refine ⟨by rw [px_up_at, if_pos ⟨rfl, rfl⟩], h0, by omega, ?_, fun i i0 i1 => ?_⟩
  · unfold rwC at a4 ⊢
    rw [e7]; exact a4
  · have := a4.1 i i0 (by omega)
    exact fC_frame (a5 i i0 (by omega)) (by rw [row_ne (by decide)]) (by rw [row_ne (by decide)]) e7 (row_ne (by omega))
theorem sm_mono {f : Int → Int} {n : Int} (hf : ∀ j, 0 ≤ j → j < n → 0 ≤ f j) {i : Int} (i0 : 0 ≤ i) (i1 : i ≤ n) : sm i f ≤ sm n f := by
  have key : ∀ k : Nat, i + k ≤ n → sm i f ≤ sm (i + k) f := by
    intro k
    induction k with
    | zero => intro _; rw [show i + ((0 : Nat) : Int) = i by omega]; exact Int.le_refl _
    | succ k ih =>
      intro hk
      rw [Int.natCast_succ] at *
      rw [← Int.add_assoc, sm_s (by omega)]
      have := ih (by omega)
      have := hf (i + k) (by omega) (by omega)
      omega
  have := key (n - i).toNat (by omega)
  rw [show i + ((n - i).toNat : Int) = n by omega] at this
  exact this
section PS
variable {M : px_mem} {Q : Option pv → px_mem → Prop}
set_option maxHeartbeats 600000 in
set_option maxRecDepth 100000 in
theorem sp_sPlaceOf {c : Int} (hn : 0 ≤ M 4 3 ∧ M 4 3 ≤ 12) (h : Q (some (0, idx (M 4 3) (fun i => M 5 i = c))) M) : px_Ok 85 [(2, 4), (1, c)] LAY M Q := by
  refine px_ok_go (inl := []) (ls0 := [(2, 4), (1, c), (9, 0)]) 60 (by decide) (Nat.le_of_ble_eq_true rfl) rfl ?_
  simp only [px_go, px_Q0_at, px_sx_0, px_sx_s, px_cl, px_step, ↓px_ll, px_lg, f4_, ↓px_r1, ↓px_r2, ↓px_r4, ↓px_r5, ↓px_p1, ↓px_p2, ↓px_p3, ↓px_pop, px_k_0, px_k_s, px_k3_0, px_stk_, px_cats, px_ent, px_st1, px_st2, px_mask, ↓px_tsw, ↓px_lsw, ct_, mls_0, mls_1, mls_2, mls_3, mls_4, mls_5, kd_0, kd_1, kd_2, kd_3, ln_0, ln_1, ln_2, ln_3, gf_0, gf_1, gf_2, gf_3, gf_4, gf_7, gf_21, gf_63, dy_0, dy_1, dy_2, dy_3, dy_7, dy_21, px_brT, px_brF, true_and, and_true, and_false, false_and, and_self, true_implies, false_implies, or_true, true_or, or_false, false_or, eq_self, ne_eq, not_false_eq_true, not_true_eq_false, if_true, if_false, List.mem_cons, List.not_mem_nil, List.length_cons, List.length_nil, Nat.reduceEqDiff, Nat.reduceAdd, Nat.reduceSub, Nat.reduceLeDiff, Nat.reduceLT, Int.reduceEq, Int.reduceLT, Int.reduceLE, Int.reduceNeg, Int.reduceAdd, Int.reduceSub, Int.reduceToNat, ↓reduceIte, one_ne_zero_, zero_ne_one_, px_in32L, cd_85]
  repeat' (first | (with_reducible apply And.intro) | (with_reducible refine px_br_intro (fun _ => ?_) (fun _ => ?_)))
  all_goals (try (first | (unfold px_in32; omega) | omega))
  refine sp_placeIn rfl (by rw [show px_ln LAY 5 = 12 from rfl]; omega) hn.1 (by decide) ?_
  simp only [px_go, px_Q0_at, px_sx_0, px_sx_s, px_cl, px_step, ↓px_ll, px_lg, f4_, ↓px_r1, ↓px_r2, ↓px_r4, ↓px_r5, ↓px_p1, ↓px_p2, ↓px_p3, ↓px_pop, px_k_0, px_k_s, px_k3_0, px_stk_, px_cats, px_ent, px_st1, px_st2, px_mask, ↓px_tsw, ↓px_lsw, ct_, mls_0, mls_1, mls_2, mls_3, mls_4, mls_5, kd_0, kd_1, kd_2, kd_3, ln_0, ln_1, ln_2, ln_3, gf_0, gf_1, gf_2, gf_3, gf_4, gf_7, gf_21, gf_63, dy_0, dy_1, dy_2, dy_3, dy_7, dy_21, px_brT, px_brF, true_and, and_true, and_false, false_and, and_self, true_implies, false_implies, or_true, true_or, or_false, false_or, eq_self, ne_eq, not_false_eq_true, not_true_eq_false, if_true, if_false, List.mem_cons, List.not_mem_nil, List.length_cons, List.length_nil, Nat.reduceEqDiff, Nat.reduceAdd, Nat.reduceSub, Nat.reduceLeDiff, Nat.reduceLT, Int.reduceEq, Int.reduceLT, Int.reduceLE, Int.reduceNeg, Int.reduceAdd, Int.reduceSub, Int.reduceToNat, ↓reduceIte, one_ne_zero_, zero_ne_one_, px_in32L, cd_85]
  exact h
set_option maxHeartbeats 600000 in
set_option maxRecDepth 100000 in
theorem sp_sWithin {n : Int} {g : Int → fe} {t : List Int} (hst : stC M n g) (ht : okp t) (h : Q (some (0, sm n (fun i => b1 (wi (g i).1 t)))) M) : px_Ok 86 [(2, 4), (1, enc t)] LAY M Q := by
  have hM := hst.1
  have hn := hst.2.1
  have hn2 := hst.2.2.1
  refine px_ok_go (inl := []) (ls0 := [(2, 4), (1, enc t), (9, 0)]) 60 (by decide) (Nat.le_of_ble_eq_true rfl) rfl ?_
  simp only [px_go, px_Q0_at, px_sx_0, px_sx_s, px_cl, px_step, ↓px_ll, px_lg, f4_, ↓px_r1, ↓px_r2, ↓px_r4, ↓px_r5, ↓px_p1, ↓px_p2, ↓px_p3, ↓px_pop, px_k_0, px_k_s, px_k3_0, px_stk_, px_cats, px_ent, px_st1, px_st2, px_mask, ↓px_tsw, ↓px_lsw, ct_, mls_0, mls_1, mls_2, mls_3, mls_4, mls_5, kd_0, kd_1, kd_2, kd_3, ln_0, ln_1, ln_2, ln_3, gf_0, gf_1, gf_2, gf_3, gf_4, gf_7, gf_21, gf_63, dy_0, dy_1, dy_2, dy_3, dy_7, dy_21, px_brT, px_brF, true_and, and_true, and_false, false_and, and_self, true_implies, false_implies, or_true, true_or, or_false, false_or, eq_self, ne_eq, not_false_eq_true, not_true_eq_false, if_true, if_false, List.mem_cons, List.not_mem_nil, List.length_cons, List.length_nil, Nat.reduceEqDiff, Nat.reduceAdd, Nat.reduceSub, Nat.reduceLeDiff, Nat.reduceLT, Int.reduceEq, Int.reduceLT, Int.reduceLE, Int.reduceNeg, Int.reduceAdd, Int.reduceSub, Int.reduceToNat, ↓reduceIte, one_ne_zero_, zero_ne_one_, px_in32L, cd_86, hM]
  repeat' (first | (with_reducible apply And.intro) | (with_reducible refine px_br_intro (fun _ => ?_) (fun _ => ?_)))
  all_goals (try (first | (unfold px_in32; omega) | omega))
  refine sp_hmw (pl := fun i => (g i).1) rfl hn (by rw [show px_ln LAY 5 = 12 from rfl]; omega) (by decide) ht (fun i i0 i1 => ⟨(hst.2.2.2.2 i i0 i1).1, (hst.2.2.2.2 i i0 i1).2.1⟩) ?_
  simp only [px_go, px_Q0_at, px_sx_0, px_sx_s, px_cl, px_step, ↓px_ll, px_lg, f4_, ↓px_r1, ↓px_r2, ↓px_r4, ↓px_r5, ↓px_p1, ↓px_p2, ↓px_p3, ↓px_pop, px_k_0, px_k_s, px_k3_0, px_stk_, px_cats, px_ent, px_st1, px_st2, px_mask, ↓px_tsw, ↓px_lsw, ct_, mls_0, mls_1, mls_2, mls_3, mls_4, mls_5, kd_0, kd_1, kd_2, kd_3, ln_0, ln_1, ln_2, ln_3, gf_0, gf_1, gf_2, gf_3, gf_4, gf_7, gf_21, gf_63, dy_0, dy_1, dy_2, dy_3, dy_7, dy_21, px_brT, px_brF, true_and, and_true, and_false, false_and, and_self, true_implies, false_implies, or_true, true_or, or_false, false_or, eq_self, ne_eq, not_false_eq_true, not_true_eq_false, if_true, if_false, List.mem_cons, List.not_mem_nil, List.length_cons, List.length_nil, Nat.reduceEqDiff, Nat.reduceAdd, Nat.reduceSub, Nat.reduceLeDiff, Nat.reduceLT, Int.reduceEq, Int.reduceLT, Int.reduceLE, Int.reduceNeg, Int.reduceAdd, Int.reduceSub, Int.reduceToNat, ↓reduceIte, one_ne_zero_, zero_ne_one_, px_in32L, cd_86]
  exact h
set_option maxHeartbeats 600000 in
set_option maxRecDepth 100000 in
theorem lp_meets {n : Int} {g : Int → fe} {p q : List Int} (hst : stC M n g) (hp : okp p) (hq : okp q) (h1 : mtg n g p q → Q (some (0, 1)) M) (h0 : ¬ mtg n g p q → Q (some (0, 0)) M) (k : Int) (hk_k : k ≤ n) : 0 ≤ k → (∀ i, 0 ≤ i → i < k → ¬ (¬ wi (g i).1 q ∧ mt (g i).1 p)) → px_WP 87 0 0 (px_Q0 LAY Q) 3 [(2, 4), (1, enc p), (9, 0), (1, enc q), (9, 0), (0, k), (9, 0)] [] LAY M 0 0 := by
  refine up_ind (P := fun k => 0 ≤ k → (∀ i, 0 ≤ i → i < k → ¬ (¬ wi (g i).1 q ∧ mt (g i).1 p)) → px_WP 87 0 0 (px_Q0 LAY Q) 3 [(2, 4), (1, enc p), (9, 0), (1, enc q), (9, 0), (0, k), (9, 0)] [] LAY M 0 0) (n) (fun k hk_k ih => ?_) k hk_k
  intro k0 hl
  have hM := hst.1
  have hn := hst.2.1
  have hn2 := hst.2.2.1
  have hnx : ¬ (¬ wi (g k).1 q ∧ mt (g k).1 p) → ∀ i, 0 ≤ i → i < k + 1 → ¬ (¬ wi (g i).1 q ∧ mt (g i).1 p) := fun z i i0 i1 => by
    by_cases e : i = k
    · rw [e]; exact z
    · exact hl i i0 (by omega)
  refine px_go_ok (inl := []) 60 ?_
  simp only [px_go, px_Q0_at, px_sx_0, px_sx_s, px_cl, px_step, ↓px_ll, px_lg, f4_, ↓px_r1, ↓px_r2, ↓px_r4, ↓px_r5, ↓px_p1, ↓px_p2, ↓px_p3, ↓px_pop, px_k_0, px_k_s, px_k3_0, px_stk_, px_cats, px_ent, px_st1, px_st2, px_mask, ↓px_tsw, ↓px_lsw, ct_, mls_0, mls_1, mls_2, mls_3, mls_4, mls_5, kd_0, kd_1, kd_2, kd_3, ln_0, ln_1, ln_2, ln_3, gf_0, gf_1, gf_2, gf_3, gf_4, gf_7, gf_21, gf_63, dy_0, dy_1, dy_2, dy_3, dy_7, dy_21, px_brT, px_brF, true_and, and_true, and_false, false_and, and_self, true_implies, false_implies, or_true, true_or, or_false, false_or, eq_self, ne_eq, not_false_eq_true, not_true_eq_false, if_true, if_false, List.mem_cons, List.not_mem_nil, List.length_cons, List.length_nil, Nat.reduceEqDiff, Nat.reduceAdd, Nat.reduceSub, Nat.reduceLeDiff, Nat.reduceLT, Int.reduceEq, Int.reduceLT, Int.reduceLE, Int.reduceNeg, Int.reduceAdd, Int.reduceSub, Int.reduceToNat, ↓reduceIte, one_ne_zero_, zero_ne_one_, px_in32L, cd_87, hM]
  repeat' (first | (with_reducible apply And.intro) | (with_reducible refine px_br_intro (fun _ => ?_) (fun _ => ?_)))
  all_goals (try (first | (unfold px_in32; omega) | omega))
  · rename_i c1
    exact h0 (fun ⟨i, i0, i1, i2⟩ => hl i i0 (by omega) i2)
  · rename_i c1
    have f := hst.2.2.2.2 k k0 (by omega)
    rw [f.2.1]
    refine sp_isWithin f.1 hq (fun w1 => ?_) (fun w1 => ?_)
    · simp only [px_go, px_Q0_at, px_sx_0, px_sx_s, px_cl, px_step, ↓px_ll, px_lg, f4_, ↓px_r1, ↓px_r2, ↓px_r4, ↓px_r5, ↓px_p1, ↓px_p2, ↓px_p3, ↓px_pop, px_k_0, px_k_s, px_k3_0, px_stk_, px_cats, px_ent, px_st1, px_st2, px_mask, ↓px_tsw, ↓px_lsw, ct_, mls_0, mls_1, mls_2, mls_3, mls_4, mls_5, kd_0, kd_1, kd_2, kd_3, ln_0, ln_1, ln_2, ln_3, gf_0, gf_1, gf_2, gf_3, gf_4, gf_7, gf_21, gf_63, dy_0, dy_1, dy_2, dy_3, dy_7, dy_21, px_brT, px_brF, true_and, and_true, and_false, false_and, and_self, true_implies, false_implies, or_true, true_or, or_false, false_or, eq_self, ne_eq, not_false_eq_true, not_true_eq_false, if_true, if_false, List.mem_cons, List.not_mem_nil, List.length_cons, List.length_nil, Nat.reduceEqDiff, Nat.reduceAdd, Nat.reduceSub, Nat.reduceLeDiff, Nat.reduceLT, Int.reduceEq, Int.reduceLT, Int.reduceLE, Int.reduceNeg, Int.reduceAdd, Int.reduceSub, Int.reduceToNat, ↓reduceIte, one_ne_zero_, zero_ne_one_, px_in32L, cd_87]
      repeat' (first | (with_reducible apply And.intro) | (with_reducible refine px_br_intro (fun _ => ?_) (fun _ => ?_)))
      all_goals (try (first | (unfold px_in32; omega) | omega))
      exact ih (by omega) (by omega) (hnx (fun z => z.1 w1))
    · simp only [px_go, px_Q0_at, px_sx_0, px_sx_s, px_cl, px_step, ↓px_ll, px_lg, f4_, ↓px_r1, ↓px_r2, ↓px_r4, ↓px_r5, ↓px_p1, ↓px_p2, ↓px_p3, ↓px_pop, px_k_0, px_k_s, px_k3_0, px_stk_, px_cats, px_ent, px_st1, px_st2, px_mask, ↓px_tsw, ↓px_lsw, ct_, mls_0, mls_1, mls_2, mls_3, mls_4, mls_5, kd_0, kd_1, kd_2, kd_3, ln_0, ln_1, ln_2, ln_3, gf_0, gf_1, gf_2, gf_3, gf_4, gf_7, gf_21, gf_63, dy_0, dy_1, dy_2, dy_3, dy_7, dy_21, px_brT, px_brF, true_and, and_true, and_false, false_and, and_self, true_implies, false_implies, or_true, true_or, or_false, false_or, eq_self, ne_eq, not_false_eq_true, not_true_eq_false, if_true, if_false, List.mem_cons, List.not_mem_nil, List.length_cons, List.length_nil, Nat.reduceEqDiff, Nat.reduceAdd, Nat.reduceSub, Nat.reduceLeDiff, Nat.reduceLT, Int.reduceEq, Int.reduceLT, Int.reduceLE, Int.reduceNeg, Int.reduceAdd, Int.reduceSub, Int.reduceToNat, ↓reduceIte, one_ne_zero_, zero_ne_one_, px_in32L, cd_87]
      repeat' (first | (with_reducible apply And.intro) | (with_reducible refine px_br_intro (fun _ => ?_) (fun _ => ?_)))
      all_goals (try (first | (unfold px_in32; omega) | omega))
      rw [f.2.1]
      refine sp_isWithin f.1 hp (fun w2 => ?_) (fun w2 => ?_)
      · simp only [px_go, px_Q0_at, px_sx_0, px_sx_s, px_cl, px_step, ↓px_ll, px_lg, f4_, ↓px_r1, ↓px_r2, ↓px_r4, ↓px_r5, ↓px_p1, ↓px_p2, ↓px_p3, ↓px_pop, px_k_0, px_k_s, px_k3_0, px_stk_, px_cats, px_ent, px_st1, px_st2, px_mask, ↓px_tsw, ↓px_lsw, ct_, mls_0, mls_1, mls_2, mls_3, mls_4, mls_5, kd_0, kd_1, kd_2, kd_3, ln_0, ln_1, ln_2, ln_3, gf_0, gf_1, gf_2, gf_3, gf_4, gf_7, gf_21, gf_63, dy_0, dy_1, dy_2, dy_3, dy_7, dy_21, px_brT, px_brF, true_and, and_true, and_false, false_and, and_self, true_implies, false_implies, or_true, true_or, or_false, false_or, eq_self, ne_eq, not_false_eq_true, not_true_eq_false, if_true, if_false, List.mem_cons, List.not_mem_nil, List.length_cons, List.length_nil, Nat.reduceEqDiff, Nat.reduceAdd, Nat.reduceSub, Nat.reduceLeDiff, Nat.reduceLT, Int.reduceEq, Int.reduceLT, Int.reduceLE, Int.reduceNeg, Int.reduceAdd, Int.reduceSub, Int.reduceToNat, ↓reduceIte, one_ne_zero_, zero_ne_one_, px_in32L, cd_87]
        exact h1 ⟨k, k0, by omega, w1, Or.inl w2⟩
      · simp only [px_go, px_Q0_at, px_sx_0, px_sx_s, px_cl, px_step, ↓px_ll, px_lg, f4_, ↓px_r1, ↓px_r2, ↓px_r4, ↓px_r5, ↓px_p1, ↓px_p2, ↓px_p3, ↓px_pop, px_k_0, px_k_s, px_k3_0, px_stk_, px_cats, px_ent, px_st1, px_st2, px_mask, ↓px_tsw, ↓px_lsw, ct_, mls_0, mls_1, mls_2, mls_3, mls_4, mls_5, kd_0, kd_1, kd_2, kd_3, ln_0, ln_1, ln_2, ln_3, gf_0, gf_1, gf_2, gf_3, gf_4, gf_7, gf_21, gf_63, dy_0, dy_1, dy_2, dy_3, dy_7, dy_21, px_brT, px_brF, true_and, and_true, and_false, false_and, and_self, true_implies, false_implies, or_true, true_or, or_false, false_or, eq_self, ne_eq, not_false_eq_true, not_true_eq_false, if_true, if_false, List.mem_cons, List.not_mem_nil, List.length_cons, List.length_nil, Nat.reduceEqDiff, Nat.reduceAdd, Nat.reduceSub, Nat.reduceLeDiff, Nat.reduceLT, Int.reduceEq, Int.reduceLT, Int.reduceLE, Int.reduceNeg, Int.reduceAdd, Int.reduceSub, Int.reduceToNat, ↓reduceIte, one_ne_zero_, zero_ne_one_, px_in32L, cd_87]
        repeat' (first | (with_reducible apply And.intro) | (with_reducible refine px_br_intro (fun _ => ?_) (fun _ => ?_)))
        all_goals (try (first | (unfold px_in32; omega) | omega))
        rw [f.2.1]
        refine sp_isAbove f.1 hp (fun w3 => ?_) (fun w3 => ?_)
        · simp only [px_go, px_Q0_at, px_sx_0, px_sx_s, px_cl, px_step, ↓px_ll, px_lg, f4_, ↓px_r1, ↓px_r2, ↓px_r4, ↓px_r5, ↓px_p1, ↓px_p2, ↓px_p3, ↓px_pop, px_k_0, px_k_s, px_k3_0, px_stk_, px_cats, px_ent, px_st1, px_st2, px_mask, ↓px_tsw, ↓px_lsw, ct_, mls_0, mls_1, mls_2, mls_3, mls_4, mls_5, kd_0, kd_1, kd_2, kd_3, ln_0, ln_1, ln_2, ln_3, gf_0, gf_1, gf_2, gf_3, gf_4, gf_7, gf_21, gf_63, dy_0, dy_1, dy_2, dy_3, dy_7, dy_21, px_brT, px_brF, true_and, and_true, and_false, false_and, and_self, true_implies, false_implies, or_true, true_or, or_false, false_or, eq_self, ne_eq, not_false_eq_true, not_true_eq_false, if_true, if_false, List.mem_cons, List.not_mem_nil, List.length_cons, List.length_nil, Nat.reduceEqDiff, Nat.reduceAdd, Nat.reduceSub, Nat.reduceLeDiff, Nat.reduceLT, Int.reduceEq, Int.reduceLT, Int.reduceLE, Int.reduceNeg, Int.reduceAdd, Int.reduceSub, Int.reduceToNat, ↓reduceIte, one_ne_zero_, zero_ne_one_, px_in32L, cd_87]
          exact h1 ⟨k, k0, by omega, w1, mt_abv.mpr (Or.inr w3)⟩
        · simp only [px_go, px_Q0_at, px_sx_0, px_sx_s, px_cl, px_step, ↓px_ll, px_lg, f4_, ↓px_r1, ↓px_r2, ↓px_r4, ↓px_r5, ↓px_p1, ↓px_p2, ↓px_p3, ↓px_pop, px_k_0, px_k_s, px_k3_0, px_stk_, px_cats, px_ent, px_st1, px_st2, px_mask, ↓px_tsw, ↓px_lsw, ct_, mls_0, mls_1, mls_2, mls_3, mls_4, mls_5, kd_0, kd_1, kd_2, kd_3, ln_0, ln_1, ln_2, ln_3, gf_0, gf_1, gf_2, gf_3, gf_4, gf_7, gf_21, gf_63, dy_0, dy_1, dy_2, dy_3, dy_7, dy_21, px_brT, px_brF, true_and, and_true, and_false, false_and, and_self, true_implies, false_implies, or_true, true_or, or_false, false_or, eq_self, ne_eq, not_false_eq_true, not_true_eq_false, if_true, if_false, List.mem_cons, List.not_mem_nil, List.length_cons, List.length_nil, Nat.reduceEqDiff, Nat.reduceAdd, Nat.reduceSub, Nat.reduceLeDiff, Nat.reduceLT, Int.reduceEq, Int.reduceLT, Int.reduceLE, Int.reduceNeg, Int.reduceAdd, Int.reduceSub, Int.reduceToNat, ↓reduceIte, one_ne_zero_, zero_ne_one_, px_in32L, cd_87]
          repeat' (first | (with_reducible apply And.intro) | (with_reducible refine px_br_intro (fun _ => ?_) (fun _ => ?_)))
          all_goals (try (first | (unfold px_in32; omega) | omega))
          exact ih (by omega) (by omega) (hnx (fun z => by
            rcases mt_abv.mp z.2 with a | a
            · exact w2 a
            · exact w3 a))
set_option maxHeartbeats 600000 in
set_option maxRecDepth 100000 in
theorem sp_meets {n : Int} {g : Int → fe} {p q : List Int} (hst : stC M n g) (hp : okp p) (hq : okp q) (h1 : mtg n g p q → Q (some (0, 1)) M) (h0 : ¬ mtg n g p q → Q (some (0, 0)) M) : px_Ok 87 [(2, 4), (1, enc p), (1, enc q)] LAY M Q := by
  refine px_ok_go (inl := []) (ls0 := [(2, 4), (1, enc p), (9, 0), (1, enc q), (9, 0), (9, 0), (9, 0)]) 60 (by decide) (Nat.le_of_ble_eq_true rfl) rfl ?_
  simp only [px_go, px_Q0_at, px_sx_0, px_sx_s, px_cl, px_step, ↓px_ll, px_lg, f4_, ↓px_r1, ↓px_r2, ↓px_r4, ↓px_r5, ↓px_p1, ↓px_p2, ↓px_p3, ↓px_pop, px_k_0, px_k_s, px_k3_0, px_stk_, px_cats, px_ent, px_st1, px_st2, px_mask, ↓px_tsw, ↓px_lsw, ct_, mls_0, mls_1, mls_2, mls_3, mls_4, mls_5, kd_0, kd_1, kd_2, kd_3, ln_0, ln_1, ln_2, ln_3, gf_0, gf_1, gf_2, gf_3, gf_4, gf_7, gf_21, gf_63, dy_0, dy_1, dy_2, dy_3, dy_7, dy_21, px_brT, px_brF, true_and, and_true, and_false, false_and, and_self, true_implies, false_implies, or_true, true_or, or_false, false_or, eq_self, ne_eq, not_false_eq_true, not_true_eq_false, if_true, if_false, List.mem_cons, List.not_mem_nil, List.length_cons, List.length_nil, Nat.reduceEqDiff, Nat.reduceAdd, Nat.reduceSub, Nat.reduceLeDiff, Nat.reduceLT, Int.reduceEq, Int.reduceLT, Int.reduceLE, Int.reduceNeg, Int.reduceAdd, Int.reduceSub, Int.reduceToNat, ↓reduceIte, one_ne_zero_, zero_ne_one_, px_in32L, cd_87]
  repeat' (first | (with_reducible apply And.intro) | (with_reducible refine px_br_intro (fun _ => ?_) (fun _ => ?_)))
  all_goals (try (first | (unfold px_in32; omega) | omega))
  exact lp_meets hst hp hq h1 h0 0 hst.2.1 (Int.le_refl 0) (fun i i0 i1 => by omega)
set_option maxHeartbeats 600000 in
set_option maxRecDepth 100000 in
theorem sp_putFile {N v s n : Int} {g : Int → fe} {x : fe} (hst : stC M N g) (hso : srt N g) (hne : x.1 ≠ []) (hx : okp x.1 ∧ x.2.length ≤ 40 ∧ ∀ b ∈ x.2, 0 ≤ b ∧ b < 256) (hk : px_kd LAY v = 0) (hs : 0 ≤ s) (hn : n = (x.2.length : Int)) (hl : s + n ≤ px_ln LAY v) (hl2 : px_ln LAY v < 1000) (hv : ¬ (4 ≤ v ∧ v < 20)) (hb : lst (fun k => M v (s + k)) n = x.2) (h1 : ∀ M' N' g', (∃ i, 0 ≤ i ∧ i < N ∧ (g i).1 = x.1) ∨ (¬ mtg N g x.1 [] ∧ N < 12) → stC M' N' g' → srt N' g' → (∀ y, isM N' g' y ↔ (y = x ∨ (isM N g y ∧ y.1 ≠ x.1))) → frS M' M → Q (some (0, N')) M') (h3 : (∀ i, 0 ≤ i → i < N → (g i).1 ≠ x.1) → mtg N g x.1 [] → Q (some (0, -3)) M) (h4 : (∀ i, 0 ≤ i → i < N → (g i).1 ≠ x.1) → ¬ mtg N g x.1 [] → 12 ≤ N → Q (some (0, -4)) M) : px_Ok 88 [(2, 4), (1, enc x.1), (2, v), (0, s), (0, n)] LAY M Q := by
  have hM := hst.1
  have hN0 := hst.2.1
  have hN1 := hst.2.2.1
  have hlc := (lcmp_lt (enc x.1) 0).2.1
  have he0 := enc_0 hx.1.1 hx.1.2
  refine px_ok_go (inl := []) (ls0 := [(2, 4), (1, enc x.1), (9, 0), (2, v), (0, s), (0, n), (9, 0)]) 60 (by decide) (Nat.le_of_ble_eq_true rfl) rfl ?_
  simp only [px_go, px_Q0_at, px_sx_0, px_sx_s, px_cl, px_step, ↓px_ll, px_lg, f4_, ↓px_r1, ↓px_r2, ↓px_r4, ↓px_r5, ↓px_p1, ↓px_p2, ↓px_p3, ↓px_pop, px_k_0, px_k_s, px_k3_0, px_stk_, px_cats, px_ent, px_st1, px_st2, px_mask, ↓px_tsw, ↓px_lsw, ct_, mls_0, mls_1, mls_2, mls_3, mls_4, mls_5, kd_0, kd_1, kd_2, kd_3, ln_0, ln_1, ln_2, ln_3, gf_0, gf_1, gf_2, gf_3, gf_4, gf_7, gf_21, gf_63, dy_0, dy_1, dy_2, dy_3, dy_7, dy_21, px_brT, px_brF, true_and, and_true, and_false, false_and, and_self, true_implies, false_implies, or_true, true_or, or_false, false_or, eq_self, ne_eq, not_false_eq_true, not_true_eq_false, if_true, if_false, List.mem_cons, List.not_mem_nil, List.length_cons, List.length_nil, Nat.reduceEqDiff, Nat.reduceAdd, Nat.reduceSub, Nat.reduceLeDiff, Nat.reduceLT, Int.reduceEq, Int.reduceLT, Int.reduceLE, Int.reduceNeg, Int.reduceAdd, Int.reduceSub, Int.reduceToNat, ↓reduceIte, one_ne_zero_, zero_ne_one_, px_in32L, cd_88, hM]
  repeat' (first | (with_reducible apply And.intro) | (with_reducible refine px_br_intro (fun _ => ?_) (fun _ => ?_)))
  all_goals (try (first | (unfold px_in32; omega) | omega))
  · rename_i c1; exact absurd (he0.mp (hlc.mp c1)) hne
  · refine sp_sPlaceOf (by omega) ?_
    rw [hM]
    have hpe : ∀ i, 0 ≤ i → i < N → (M 5 i = enc x.1 ↔ (g i).1 = x.1) := fun i i0 i1 => by
      have f := hst.2.2.2.2 i i0 i1
      rw [f.2.1]
      exact ⟨fun e => enc_inj f.1.1 hx.1.1 f.1.2 hx.1.2 e, fun e => by rw [e]⟩
    have hsp := idx_spec N (fun i => M 5 i = enc x.1)
    generalize idx N (fun i => M 5 i = enc x.1) = r at *
    simp only [px_go, px_Q0_at, px_sx_0, px_sx_s, px_cl, px_step, ↓px_ll, px_lg, f4_, ↓px_r1, ↓px_r2, ↓px_r4, ↓px_r5, ↓px_p1, ↓px_p2, ↓px_p3, ↓px_pop, px_k_0, px_k_s, px_k3_0, px_stk_, px_cats, px_ent, px_st1, px_st2, px_mask, ↓px_tsw, ↓px_lsw, ct_, mls_0, mls_1, mls_2, mls_3, mls_4, mls_5, kd_0, kd_1, kd_2, kd_3, ln_0, ln_1, ln_2, ln_3, gf_0, gf_1, gf_2, gf_3, gf_4, gf_7, gf_21, gf_63, dy_0, dy_1, dy_2, dy_3, dy_7, dy_21, px_brT, px_brF, true_and, and_true, and_false, false_and, and_self, true_implies, false_implies, or_true, true_or, or_false, false_or, eq_self, ne_eq, not_false_eq_true, not_true_eq_false, if_true, if_false, List.mem_cons, List.not_mem_nil, List.length_cons, List.length_nil, Nat.reduceEqDiff, Nat.reduceAdd, Nat.reduceSub, Nat.reduceLeDiff, Nat.reduceLT, Int.reduceEq, Int.reduceLT, Int.reduceLE, Int.reduceNeg, Int.reduceAdd, Int.reduceSub, Int.reduceToNat, ↓reduceIte, one_ne_zero_, zero_ne_one_, px_in32L, cd_88, hM]
    repeat' (first | (with_reducible apply And.intro) | (with_reducible refine px_br_intro (fun _ => ?_) (fun _ => ?_)))
    all_goals (try (first | (unfold px_in32; omega) | omega))
    · rename_i c1 c2
      have hno : ∀ i, 0 ≤ i → i < N → (g i).1 ≠ x.1 := fun i i0 i1 e => by
        rcases hsp with a | a
        · exact a.2 i i0 i1 ((hpe i i0 i1).mpr e)
        · omega
      refine sp_meets (p := x.1) (q := []) hst hx.1 ⟨okl_nil, by decide⟩ (fun m => ?_) (fun m => ?_)
      · simp only [px_go, px_Q0_at, px_sx_0, px_sx_s, px_cl, px_step, ↓px_ll, px_lg, f4_, ↓px_r1, ↓px_r2, ↓px_r4, ↓px_r5, ↓px_p1, ↓px_p2, ↓px_p3, ↓px_pop, px_k_0, px_k_s, px_k3_0, px_stk_, px_cats, px_ent, px_st1, px_st2, px_mask, ↓px_tsw, ↓px_lsw, ct_, mls_0, mls_1, mls_2, mls_3, mls_4, mls_5, kd_0, kd_1, kd_2, kd_3, ln_0, ln_1, ln_2, ln_3, gf_0, gf_1, gf_2, gf_3, gf_4, gf_7, gf_21, gf_63, dy_0, dy_1, dy_2, dy_3, dy_7, dy_21, px_brT, px_brF, true_and, and_true, and_false, false_and, and_self, true_implies, false_implies, or_true, true_or, or_false, false_or, eq_self, ne_eq, not_false_eq_true, not_true_eq_false, if_true, if_false, List.mem_cons, List.not_mem_nil, List.length_cons, List.length_nil, Nat.reduceEqDiff, Nat.reduceAdd, Nat.reduceSub, Nat.reduceLeDiff, Nat.reduceLT, Int.reduceEq, Int.reduceLT, Int.reduceLE, Int.reduceNeg, Int.reduceAdd, Int.reduceSub, Int.reduceToNat, ↓reduceIte, one_ne_zero_, zero_ne_one_, px_in32L, cd_88, hM]
        exact h3 hno m
      · simp only [px_go, px_Q0_at, px_sx_0, px_sx_s, px_cl, px_step, ↓px_ll, px_lg, f4_, ↓px_r1, ↓px_r2, ↓px_r4, ↓px_r5, ↓px_p1, ↓px_p2, ↓px_p3, ↓px_pop, px_k_0, px_k_s, px_k3_0, px_stk_, px_cats, px_ent, px_st1, px_st2, px_mask, ↓px_tsw, ↓px_lsw, ct_, mls_0, mls_1, mls_2, mls_3, mls_4, mls_5, kd_0, kd_1, kd_2, kd_3, ln_0, ln_1, ln_2, ln_3, gf_0, gf_1, gf_2, gf_3, gf_4, gf_7, gf_21, gf_63, dy_0, dy_1, dy_2, dy_3, dy_7, dy_21, px_brT, px_brF, true_and, and_true, and_false, false_and, and_self, true_implies, false_implies, or_true, true_or, or_false, false_or, eq_self, ne_eq, not_false_eq_true, not_true_eq_false, if_true, if_false, List.mem_cons, List.not_mem_nil, List.length_cons, List.length_nil, Nat.reduceEqDiff, Nat.reduceAdd, Nat.reduceSub, Nat.reduceLeDiff, Nat.reduceLT, Int.reduceEq, Int.reduceLT, Int.reduceLE, Int.reduceNeg, Int.reduceAdd, Int.reduceSub, Int.reduceToNat, ↓reduceIte, one_ne_zero_, zero_ne_one_, px_in32L, cd_88, hM]
        repeat' (first | (with_reducible apply And.intro) | (with_reducible refine px_br_intro (fun _ => ?_) (fun _ => ?_)))
        all_goals (try (first | (unfold px_in32; omega) | omega))
        · rename_i c3
          have hrow := hst.2.2.2.1.1 N hN0 (by omega)
          refine sp_sAppend hst (by omega) hx hk hs hn hl hl2 (by omega) (by omega) hb (fun M1 e1 e2 e3 => ?_)
          simp only [px_go, px_Q0_at, px_sx_0, px_sx_s, px_cl, px_step, ↓px_ll, px_lg, f4_, ↓px_r1, ↓px_r2, ↓px_r4, ↓px_r5, ↓px_p1, ↓px_p2, ↓px_p3, ↓px_pop, px_k_0, px_k_s, px_k3_0, px_stk_, px_cats, px_ent, px_st1, px_st2, px_mask, ↓px_tsw, ↓px_lsw, ct_, mls_0, mls_1, mls_2, mls_3, mls_4, mls_5, kd_0, kd_1, kd_2, kd_3, ln_0, ln_1, ln_2, ln_3, gf_0, gf_1, gf_2, gf_3, gf_4, gf_7, gf_21, gf_63, dy_0, dy_1, dy_2, dy_3, dy_7, dy_21, px_brT, px_brF, true_and, and_true, and_false, false_and, and_self, true_implies, false_implies, or_true, true_or, or_false, false_or, eq_self, ne_eq, not_false_eq_true, not_true_eq_false, if_true, if_false, List.mem_cons, List.not_mem_nil, List.length_cons, List.length_nil, Nat.reduceEqDiff, Nat.reduceAdd, Nat.reduceSub, Nat.reduceLeDiff, Nat.reduceLT, Int.reduceEq, Int.reduceLT, Int.reduceLE, Int.reduceNeg, Int.reduceAdd, Int.reduceSub, Int.reduceToNat, ↓reduceIte, one_ne_zero_, zero_ne_one_, px_in32L, cd_88]
          have hdst : dst (N + 1) (stF g N x) := fun i j i0 i1 j0 j1 e => by
            unfold stF at e
            by_cases ei : i = N
            · by_cases ej : j = N
              · omega
              · rw [if_pos ei, if_neg ej] at e
                have f := hst.2.2.2.2 j j0 (by omega)
                exact absurd (enc_inj hx.1.1 f.1.1 hx.1.2 f.1.2 e).symm (hno j j0 (by omega))
            · by_cases ej : j = N
              · rw [if_neg ei, if_pos ej] at e
                have f := hst.2.2.2.2 i i0 (by omega)
                exact absurd (enc_inj f.1.1 hx.1.1 f.1.2 hx.1.2 e) (hno i i0 (by omega))
              · rw [if_neg ei, if_neg ej] at e
                exact srt_ne hso i0 (by omega) j0 (by omega) e
          refine sp_sort e1 hdst (fun M2 g2 q1 q2 q3 q4 => ?_)
          simp only [px_go, px_Q0_at, px_sx_0, px_sx_s, px_cl, px_step, ↓px_ll, px_lg, f4_, ↓px_r1, ↓px_r2, ↓px_r4, ↓px_r5, ↓px_p1, ↓px_p2, ↓px_p3, ↓px_pop, px_k_0, px_k_s, px_k3_0, px_stk_, px_cats, px_ent, px_st1, px_st2, px_mask, ↓px_tsw, ↓px_lsw, ct_, mls_0, mls_1, mls_2, mls_3, mls_4, mls_5, kd_0, kd_1, kd_2, kd_3, ln_0, ln_1, ln_2, ln_3, gf_0, gf_1, gf_2, gf_3, gf_4, gf_7, gf_21, gf_63, dy_0, dy_1, dy_2, dy_3, dy_7, dy_21, px_brT, px_brF, true_and, and_true, and_false, false_and, and_self, true_implies, false_implies, or_true, true_or, or_false, false_or, eq_self, ne_eq, not_false_eq_true, not_true_eq_false, if_true, if_false, List.mem_cons, List.not_mem_nil, List.length_cons, List.length_nil, Nat.reduceEqDiff, Nat.reduceAdd, Nat.reduceSub, Nat.reduceLeDiff, Nat.reduceLT, Int.reduceEq, Int.reduceLT, Int.reduceLE, Int.reduceNeg, Int.reduceAdd, Int.reduceSub, Int.reduceToNat, ↓reduceIte, one_ne_zero_, zero_ne_one_, px_in32L, cd_88]
          rw [q1.1]
          refine h1 M2 (N + 1) g2 (Or.inr ⟨m, c3⟩) q1 q2 (fun y => ?_) ⟨fun j j0 => by rw [q4 4 (by decide) (by decide) (by decide)]; exact e2.1 j j0, fun b b0 b1 b2 b3 b4 => by rw [q4 b b1 b2 b3]; exact e2.2 b b0 b1 b2 b3 b4⟩
          rw [q3 y, stF_isM hN0]
          constructor
          · rintro (⟨i, i0, i1, i2⟩ | a)
            · exact Or.inr ⟨⟨i, i0, i1, i2⟩, by rw [← i2]; exact hno i i0 i1⟩
            · exact Or.inl a
          · rintro (a | a)
            · exact Or.inr a
            · exact Or.inl a.1
        · rename_i c3
          exact h4 hno m (by omega)
    · rename_i c1 c2
      have hr : 0 ≤ r ∧ r < N ∧ M 5 r = enc x.1 := by
        rcases hsp with a | a
        · omega
        · exact ⟨a.1, a.2.1, a.2.2.1⟩
      have hrow := hst.2.2.2.1.1 r hr.1 (by omega)
      have hpr := (hpe r hr.1 hr.2.1).mp hr.2.2
      refine sp_setBytes ⟨hr.1, by omega⟩ hrow hk hs ⟨by omega, by omega⟩ hl hl2 (by omega) (fun M1 e1 e2 e3 => ?_)
      simp only [px_go, px_Q0_at, px_sx_0, px_sx_s, px_cl, px_step, ↓px_ll, px_lg, f4_, ↓px_r1, ↓px_r2, ↓px_r4, ↓px_r5, ↓px_p1, ↓px_p2, ↓px_p3, ↓px_pop, px_k_0, px_k_s, px_k3_0, px_stk_, px_cats, px_ent, px_st1, px_st2, px_mask, ↓px_tsw, ↓px_lsw, ct_, mls_0, mls_1, mls_2, mls_3, mls_4, mls_5, kd_0, kd_1, kd_2, kd_3, ln_0, ln_1, ln_2, ln_3, gf_0, gf_1, gf_2, gf_3, gf_4, gf_7, gf_21, gf_63, dy_0, dy_1, dy_2, dy_3, dy_7, dy_21, px_brT, px_brF, true_and, and_true, and_false, false_and, and_self, true_implies, false_implies, or_true, true_or, or_false, false_or, eq_self, ne_eq, not_false_eq_true, not_true_eq_false, if_true, if_false, List.mem_cons, List.not_mem_nil, List.length_cons, List.length_nil, Nat.reduceEqDiff, Nat.reduceAdd, Nat.reduceSub, Nat.reduceLeDiff, Nat.reduceLT, Int.reduceEq, Int.reduceLT, Int.reduceLE, Int.reduceNeg, Int.reduceAdd, Int.reduceSub, Int.reduceToNat, ↓reduceIte, one_ne_zero_, zero_ne_one_, px_in32L, cd_88]
      have f4 := e3 4 (by decide) (by omega)
      rw [f4, hM]
      refine h1 M1 N (stF g r x) (Or.inl ⟨r, hr.1, hr.2.1, hpr⟩) (stC_put hst (Or.inl rfl) ⟨hr.1, by omega, hr.2.1⟩ (fun _ => hr.2.1) (fun q => by omega) (by rw [f4, hM]) (fun i => ?_) (fun i => ?_) hx ?_ (fun b b0 b1 b2 b3 => e3 b b2 b3)) ?_ (fun y => ?_) ⟨fun j j0 => by rw [f4], fun b b0 b1 b2 b3 b4 => e3 b b2 (by omega)⟩
      · rw [e3 5 (by decide) (by omega)]
        by_cases e : i = r
        · rw [if_pos e, e]; exact hr.2.2
        · rw [if_neg e]
      · rw [e2 i, ← hn]
      · rw [← hn, e1]; exact hb
      · intro i j i0 i1 j1
        unfold stF
        have := hso i j i0 i1 j1
        by_cases ei : i = r
        · rw [if_pos ei, if_neg (by omega), ← hpr, ← ei]; exact this
        · rw [if_neg ei]
          by_cases ej : j = r
          · rw [if_pos ej, ← hpr, ← ej]; exact this
          · rw [if_neg ej]; exact this
      · unfold isM stF
        constructor
        · rintro ⟨i, i0, i1, i2⟩
          by_cases e : i = r
          · rw [if_pos e] at i2; exact Or.inl i2.symm
          · rw [if_neg e] at i2
            refine Or.inr ⟨⟨i, i0, i1, i2⟩, fun q => e ?_⟩
            exact srt_ne hso i0 i1 hr.1 hr.2.1 (by rw [i2, q, hpr])
        · rintro (a | ⟨⟨i, i0, i1, i2⟩, a⟩)
          · exact ⟨r, hr.1, hr.2.1, by rw [if_pos rfl]; exact a.symm⟩
          · exact ⟨i, i0, i1, by rw [if_neg (fun e => a (by rw [← i2, e]; exact hpr))]; exact i2⟩
set_option maxHeartbeats 600000 in
set_option maxRecDepth 100000 in
theorem lp_loseW {M0 : px_mem} {n : Int} {g : Int → fe} {p : List Int} (hg : srt n g) (hp : okp p) (h : ∀ M' N' g', stC M' N' g' → srt N' g' → (∀ y, isM N' g' y ↔ (isM n g y ∧ ¬ wi y.1 p)) → N' ≤ n → frS M' M0 → N' = n - sm n (fun i => b1 (wi (g i).1 p)) → Q (some (0, n - N')) M') (k : Int) (hk_k : k ≤ n) : ∀ (M : px_mem) (g' : Int → fe) (st : Int), 0 ≤ k → 0 ≤ st → st ≤ k → st = k - sm k (fun i => b1 (wi (g i).1 p)) → stC M n g' → srt st g' → (∀ y, isM st g' y ↔ ∃ i, 0 ≤ i ∧ i < k ∧ g i = y ∧ ¬ wi y.1 p) → (∀ i, k ≤ i → i < n → g' i = g i) → (∀ b, b ≠ 5 → b ≠ 6 → b ≠ 7 → M b = M0 b) → px_WP 93 0 0 (px_Q0 LAY Q) 5 [(2, 4), (1, enc p), (9, 0), (0, st), (0, k)] [] LAY M 0 0 := by
  refine up_ind (P := fun k => ∀ (M : px_mem) (g' : Int → fe) (st : Int), 0 ≤ k → 0 ≤ st → st ≤ k → st = k - sm k (fun i => b1 (wi (g i).1 p)) → stC M n g' → srt st g' → (∀ y, isM st g' y ↔ ∃ i, 0 ≤ i ∧ i < k ∧ g i = y ∧ ¬ wi y.1 p) → (∀ i, k ≤ i → i < n → g' i = g i) → (∀ b, b ≠ 5 → b ≠ 6 → b ≠ 7 → M b = M0 b) → px_WP 93 0 0 (px_Q0 LAY Q) 5 [(2, 4), (1, enc p), (9, 0), (0, st), (0, k)] [] LAY M 0 0) (n) (fun k hk_k ih => ?_) k hk_k
  intro M g' st k0 s0 s1 hcnt hst hso hm hk2 hf
  have hM := hst.1
  have hn := hst.2.1
  have hn2 := hst.2.2.1
  refine px_go_ok (inl := []) 60 ?_
  simp only [px_go, px_Q0_at, px_sx_0, px_sx_s, px_cl, px_step, ↓px_ll, px_lg, f4_, ↓px_r1, ↓px_r2, ↓px_r4, ↓px_r5, ↓px_p1, ↓px_p2, ↓px_p3, ↓px_pop, px_k_0, px_k_s, px_k3_0, px_stk_, px_cats, px_ent, px_st1, px_st2, px_mask, ↓px_tsw, ↓px_lsw, ct_, mls_0, mls_1, mls_2, mls_3, mls_4, mls_5, kd_0, kd_1, kd_2, kd_3, ln_0, ln_1, ln_2, ln_3, gf_0, gf_1, gf_2, gf_3, gf_4, gf_7, gf_21, gf_63, dy_0, dy_1, dy_2, dy_3, dy_7, dy_21, px_brT, px_brF, true_and, and_true, and_false, false_and, and_self, true_implies, false_implies, or_true, true_or, or_false, false_or, eq_self, ne_eq, not_false_eq_true, not_true_eq_false, if_true, if_false, List.mem_cons, List.not_mem_nil, List.length_cons, List.length_nil, Nat.reduceEqDiff, Nat.reduceAdd, Nat.reduceSub, Nat.reduceLeDiff, Nat.reduceLT, Int.reduceEq, Int.reduceLT, Int.reduceLE, Int.reduceNeg, Int.reduceAdd, Int.reduceSub, Int.reduceToNat, ↓reduceIte, one_ne_zero_, zero_ne_one_, px_in32L, cd_93, hM]
  repeat' (first | (with_reducible apply And.intro) | (with_reducible refine px_br_intro (fun _ => ?_) (fun _ => ?_)))
  all_goals (try (first | (unfold px_in32; omega) | omega))
  · rename_i c1
    refine h _ st g' (stC_less hst s0 (by omega)) hso (fun y => ?_) (by omega) ⟨fun j j0 => by rw [px_up_at, if_neg (fun q => j0 q.2), hf 4 (by decide) (by decide) (by decide)], fun b b0 b1 b2 b3 _ => by rw [row_ne b0]; exact hf b b1 b2 b3⟩ (by rw [show n = k by omega]; exact hcnt)
    rw [hm y]
    unfold isM
    constructor
    · rintro ⟨i, i0, i1, i2, i3⟩; exact ⟨⟨i, i0, by omega, i2⟩, i3⟩
    · rintro ⟨⟨i, i0, i1, i2⟩, i3⟩; exact ⟨i, i0, by omega, i2, i3⟩
  · rename_i c1
    have f := hst.2.2.2.2 k k0 (by omega)
    have egk := hk2 k (Int.le_refl k) (by omega)
    rw [egk] at f
    rw [f.2.1]
    refine sp_isWithin f.1 hp (fun w1 => ?_) (fun w1 => ?_)
    · simp only [px_go, px_Q0_at, px_sx_0, px_sx_s, px_cl, px_step, ↓px_ll, px_lg, f4_, ↓px_r1, ↓px_r2, ↓px_r4, ↓px_r5, ↓px_p1, ↓px_p2, ↓px_p3, ↓px_pop, px_k_0, px_k_s, px_k3_0, px_stk_, px_cats, px_ent, px_st1, px_st2, px_mask, ↓px_tsw, ↓px_lsw, ct_, mls_0, mls_1, mls_2, mls_3, mls_4, mls_5, kd_0, kd_1, kd_2, kd_3, ln_0, ln_1, ln_2, ln_3, gf_0, gf_1, gf_2, gf_3, gf_4, gf_7, gf_21, gf_63, dy_0, dy_1, dy_2, dy_3, dy_7, dy_21, px_brT, px_brF, true_and, and_true, and_false, false_and, and_self, true_implies, false_implies, or_true, true_or, or_false, false_or, eq_self, ne_eq, not_false_eq_true, not_true_eq_false, if_true, if_false, List.mem_cons, List.not_mem_nil, List.length_cons, List.length_nil, Nat.reduceEqDiff, Nat.reduceAdd, Nat.reduceSub, Nat.reduceLeDiff, Nat.reduceLT, Int.reduceEq, Int.reduceLT, Int.reduceLE, Int.reduceNeg, Int.reduceAdd, Int.reduceSub, Int.reduceToNat, ↓reduceIte, one_ne_zero_, zero_ne_one_, px_in32L, cd_93]
      repeat' (first | (with_reducible apply And.intro) | (with_reducible refine px_br_intro (fun _ => ?_) (fun _ => ?_)))
      all_goals (try (first | (unfold px_in32; omega) | omega))
      refine ih (by omega) M g' st (by omega) s0 (by omega) (by rw [sm_s k0, b1_t w1]; omega) hst hso (fun y => ?_) (fun i i0 i1 => hk2 i (by omega) i1) hf
      rw [hm y]
      constructor
      · rintro ⟨i, i0, i1, i2⟩; exact ⟨i, i0, by omega, i2⟩
      · rintro ⟨i, i0, i1, i2, i3⟩
        refine ⟨i, i0, ?_, i2, i3⟩
        by_cases e : i = k
        · rw [← i2, e] at i3; exact absurd w1 i3
        · omega
    · simp only [px_go, px_Q0_at, px_sx_0, px_sx_s, px_cl, px_step, ↓px_ll, px_lg, f4_, ↓px_r1, ↓px_r2, ↓px_r4, ↓px_r5, ↓px_p1, ↓px_p2, ↓px_p3, ↓px_pop, px_k_0, px_k_s, px_k3_0, px_stk_, px_cats, px_ent, px_st1, px_st2, px_mask, ↓px_tsw, ↓px_lsw, ct_, mls_0, mls_1, mls_2, mls_3, mls_4, mls_5, kd_0, kd_1, kd_2, kd_3, ln_0, ln_1, ln_2, ln_3, gf_0, gf_1, gf_2, gf_3, gf_4, gf_7, gf_21, gf_63, dy_0, dy_1, dy_2, dy_3, dy_7, dy_21, px_brT, px_brF, true_and, and_true, and_false, false_and, and_self, true_implies, false_implies, or_true, true_or, or_false, false_or, eq_self, ne_eq, not_false_eq_true, not_true_eq_false, if_true, if_false, List.mem_cons, List.not_mem_nil, List.length_cons, List.length_nil, Nat.reduceEqDiff, Nat.reduceAdd, Nat.reduceSub, Nat.reduceLeDiff, Nat.reduceLT, Int.reduceEq, Int.reduceLT, Int.reduceLE, Int.reduceNeg, Int.reduceAdd, Int.reduceSub, Int.reduceToNat, ↓reduceIte, one_ne_zero_, zero_ne_one_, px_in32L, cd_93]
      refine sp_swap ⟨s0, by omega⟩ ⟨k0, by omega⟩ hst.2.2.2.1.1 (fun M' e1 e2 e3 e4 => ?_)
      simp only [px_go, px_Q0_at, px_sx_0, px_sx_s, px_cl, px_step, ↓px_ll, px_lg, f4_, ↓px_r1, ↓px_r2, ↓px_r4, ↓px_r5, ↓px_p1, ↓px_p2, ↓px_p3, ↓px_pop, px_k_0, px_k_s, px_k3_0, px_stk_, px_cats, px_ent, px_st1, px_st2, px_mask, ↓px_tsw, ↓px_lsw, ct_, mls_0, mls_1, mls_2, mls_3, mls_4, mls_5, kd_0, kd_1, kd_2, kd_3, ln_0, ln_1, ln_2, ln_3, gf_0, gf_1, gf_2, gf_3, gf_4, gf_7, gf_21, gf_63, dy_0, dy_1, dy_2, dy_3, dy_7, dy_21, px_brT, px_brF, true_and, and_true, and_false, false_and, and_self, true_implies, false_implies, or_true, true_or, or_false, false_or, eq_self, ne_eq, not_false_eq_true, not_true_eq_false, if_true, if_false, List.mem_cons, List.not_mem_nil, List.length_cons, List.length_nil, Nat.reduceEqDiff, Nat.reduceAdd, Nat.reduceSub, Nat.reduceLeDiff, Nat.reduceLT, Int.reduceEq, Int.reduceLT, Int.reduceLE, Int.reduceNeg, Int.reduceAdd, Int.reduceSub, Int.reduceToNat, ↓reduceIte, one_ne_zero_, zero_ne_one_, px_in32L, cd_93]
      repeat' (first | (with_reducible apply And.intro) | (with_reducible refine px_br_intro (fun _ => ?_) (fun _ => ?_)))
      all_goals (try (first | (unfold px_in32; omega) | omega))
      have hlow : ∀ i, 0 ≤ i → i < st → swF g' st k i = g' i := fun i i0 i1 => by unfold swF; rw [if_neg (by omega), if_neg (by omega)]
      have hat : swF g' st k st = g k := by unfold swF; rw [if_pos rfl]; exact egk
      refine ih (by omega) M' (swF g' st k) (st + 1) (by omega) (by omega) (by omega) (by rw [sm_s k0, b1_f w1]; omega) (swC hst (by omega) (by omega) (by omega) (by omega) e1 e2 e3 e4) (fun i j i0 i1 i2 => ?_) (fun y => ?_) (fun i i0 i1 => ?_) (fun b b0 b1 b2 => by rw [e4 b b0 b1 b2]; exact hf b b0 b1 b2)
      · rw [hlow i i0 (by omega)]
        by_cases e : j = st
        · rw [e, hat]
          obtain ⟨l, l0, l1, l2, l3⟩ := (hm (g' i)).mp ⟨i, i0, by omega, rfl⟩
          rw [← l2]
          exact hg l k l0 l1 (by omega)
        · rw [hlow j (by omega) (by omega)]
          exact hso i j i0 i1 (by omega)
      · constructor
        · rintro ⟨i, i0, i1, i2⟩
          by_cases e : i = st
          · rw [e, hat] at i2
            exact ⟨k, k0, by omega, i2, by rw [← i2]; exact w1⟩
          · rw [hlow i i0 (by omega)] at i2
            obtain ⟨l, l0, l1, l2⟩ := (hm y).mp ⟨i, i0, by omega, i2⟩
            exact ⟨l, l0, by omega, l2⟩
        · rintro ⟨i, i0, i1, i2, i3⟩
          by_cases e : i = k
          · exact ⟨st, s0, by omega, by rw [hat, ← e]; exact i2⟩
          · obtain ⟨l, l0, l1, l2⟩ := (hm y).mpr ⟨i, i0, by omega, i2, i3⟩
            exact ⟨l, l0, by omega, by rw [hlow l l0 l1]; exact l2⟩
      · unfold swF
        rw [if_neg (by omega), if_neg (by omega)]
        exact hk2 i (by omega) i1
set_option maxHeartbeats 600000 in
set_option maxRecDepth 100000 in
theorem sp_loseWithin {n : Int} {g : Int → fe} {p : List Int} (hst : stC M n g) (hg : srt n g) (hp : okp p) (h : ∀ M' N' g', stC M' N' g' → srt N' g' → (∀ y, isM N' g' y ↔ (isM n g y ∧ ¬ wi y.1 p)) → N' ≤ n → frS M' M → N' = n - sm n (fun i => b1 (wi (g i).1 p)) → Q (some (0, n - N')) M') : px_Ok 93 [(2, 4), (1, enc p)] LAY M Q := by
  refine px_ok_go (inl := []) (ls0 := [(2, 4), (1, enc p), (9, 0), (9, 0), (9, 0)]) 60 (by decide) (Nat.le_of_ble_eq_true rfl) rfl ?_
  simp only [px_go, px_Q0_at, px_sx_0, px_sx_s, px_cl, px_step, ↓px_ll, px_lg, f4_, ↓px_r1, ↓px_r2, ↓px_r4, ↓px_r5, ↓px_p1, ↓px_p2, ↓px_p3, ↓px_pop, px_k_0, px_k_s, px_k3_0, px_stk_, px_cats, px_ent, px_st1, px_st2, px_mask, ↓px_tsw, ↓px_lsw, ct_, mls_0, mls_1, mls_2, mls_3, mls_4, mls_5, kd_0, kd_1, kd_2, kd_3, ln_0, ln_1, ln_2, ln_3, gf_0, gf_1, gf_2, gf_3, gf_4, gf_7, gf_21, gf_63, dy_0, dy_1, dy_2, dy_3, dy_7, dy_21, px_brT, px_brF, true_and, and_true, and_false, false_and, and_self, true_implies, false_implies, or_true, true_or, or_false, false_or, eq_self, ne_eq, not_false_eq_true, not_true_eq_false, if_true, if_false, List.mem_cons, List.not_mem_nil, List.length_cons, List.length_nil, Nat.reduceEqDiff, Nat.reduceAdd, Nat.reduceSub, Nat.reduceLeDiff, Nat.reduceLT, Int.reduceEq, Int.reduceLT, Int.reduceLE, Int.reduceNeg, Int.reduceAdd, Int.reduceSub, Int.reduceToNat, ↓reduceIte, one_ne_zero_, zero_ne_one_, px_in32L, cd_93]
  repeat' (first | (with_reducible apply And.intro) | (with_reducible refine px_br_intro (fun _ => ?_) (fun _ => ?_)))
  all_goals (try (first | (unfold px_in32; omega) | omega))
  exact lp_loseW (M0 := M) hg hp h 0 hst.2.1 M g 0 (Int.le_refl 0) (Int.le_refl 0) (Int.le_refl 0) rfl hst (fun i j _ _ _ => by omega) (fun y => ⟨fun ⟨i, i0, i1, _⟩ => by omega, fun ⟨i, i0, i1, _⟩ => by omega⟩) (fun _ _ _ => rfl) (fun _ _ _ _ => rfl)
end PS
