/-! EditionVault.Changes -/
set_option maxRecDepth 100000 in
/-- X0_compare -/
theorem cd_1 : px_at 1 0 = some (1, [], .aload_n 0, []) ∧ px_at 1 1 = some (2, [], .iconst 0, []) ∧ px_at 1 2 = some (5, [], .putfield 21, [0, 3, 0, 0, 112]) ∧ px_at 1 5 = some (6, [], .lconst 0, []) ∧ px_at 1 6 = some (7, [], .aload_n 1, []) ∧ px_at 1 7 = some (8, [], .aload_n 2, []) ∧ px_at 1 8 = some (11, [], .invokestatic 25, [2, 3, 0, 206]) ∧ px_at 1 11 = some (12, [], .lstore_n 3, []) ∧ px_at 1 12 = some (13, [], .iconst 0, []) ∧ px_at 1 13 = some (15, [], .istore 5, []) ∧ px_at 1 15 = some (17, [1, 1, 1, 1, 0, 1], .iload 5, []) ∧ px_at 1 17 = some (18, [], .aload_n 0, []) ∧ px_at 1 18 = some (21, [], .getfield 9, [0, 0, 2, 1, 106]) ∧ px_at 1 21 = some (22, [], .arraylength, []) ∧ px_at 1 22 = some (25, [], .if_icmp .ge 31, [53]) ∧ px_at 1 25 = some (26, [], .lload_n 3, []) ∧ px_at 1 26 = some (29, [], .ldc2_w 29, [1152921504606846976, 8]) ∧ px_at 1 29 = some (30, [], .lcmp, []) ∧ px_at 1 30 = some (33, [], .ifCond .ge 23, [53]) ∧ px_at 1 33 = some (34, [], .aload_n 0, []) ∧ px_at 1 34 = some (35, [], .lload_n 3, []) ∧ px_at 1 35 = some (36, [], .aload_n 1, []) ∧ px_at 1 36 = some (37, [], .aload_n 2, []) ∧ px_at 1 37 = some (40, [], .invokevirtual 31, [3, 3, 0, 209]) ∧ px_at 1 40 = some (41, [], .lload_n 3, []) ∧ px_at 1 41 = some (42, [], .aload_n 1, []) ∧ px_at 1 42 = some (43, [], .aload_n 2, []) ∧ px_at 1 43 = some (46, [], .invokestatic 25, [2, 3, 0, 206]) ∧ px_at 1 46 = some (47, [], .lstore_n 3, []) ∧ px_at 1 47 = some (50, [], .iinc 5 1, []) ∧ px_at 1 50 = some (53, [], .goto (-35), [15]) ∧ px_at 1 53 = some (54, [], .return_, []) := ⟨rfl, rfl, rfl, rfl, rfl, rfl, rfl, rfl, rfl, rfl, rfl, rfl, rfl, rfl, rfl, rfl, rfl, rfl, rfl, rfl, rfl, rfl, rfl, rfl, rfl, rfl, rfl, rfl, rfl, rfl, rfl, rfl⟩
set_option maxRecDepth 100000 in
/-- X0_nextPath -/
theorem cd_2 : px_at 2 0 = some (1, [], .aload_n 2, []) ∧ px_at 2 1 = some (2, [], .lload_n 0, []) ∧ px_at 2 2 = some (5, [], .invokevirtual 35, [40, 1, 2, 207]) ∧ px_at 2 5 = some (6, [], .aload_n 3, []) ∧ px_at 2 6 = some (7, [], .lload_n 0, []) ∧ px_at 2 7 = some (10, [], .invokevirtual 35, [40, 1, 2, 207]) ∧ px_at 2 10 = some (13, [], .invokestatic 41, [308, 2, 0, 208]) ∧ px_at 2 13 = some (14, [], .lreturn, []) := ⟨rfl, rfl, rfl, rfl, rfl, rfl, rfl, rfl⟩
set_option maxRecDepth 100000 in
/-- X0_note -/
theorem cd_3 : px_at 3 0 = some (1, [], .aload_n 3, []) ∧ px_at 3 1 = some (2, [], .lload_n 1, []) ∧ px_at 3 2 = some (5, [], .invokevirtual 47, [38, 1, 2, 210]) ∧ px_at 3 5 = some (7, [], .istore 5, []) ∧ px_at 3 7 = some (9, [], .aload 4, []) ∧ px_at 3 9 = some (10, [], .lload_n 1, []) ∧ px_at 3 10 = some (13, [], .invokevirtual 47, [38, 1, 2, 210]) ∧ px_at 3 13 = some (15, [], .istore 6, []) ∧ px_at 3 15 = some (17, [], .iload 5, []) ∧ px_at 3 17 = some (19, [], .iload 6, []) ∧ px_at 3 19 = some (22, [], .if_icmp .ne 4, [23]) ∧ px_at 3 22 = some (23, [], .return_, []) ∧ px_at 3 23 = some (25, [], .iload 5, []) ∧ px_at 3 25 = some (28, [], .ifCond .ge 16, [41]) ∧ px_at 3 28 = some (29, [], .aload_n 0, []) ∧ px_at 3 29 = some (32, [], .getfield 9, [0, 0, 2, 1, 106]) ∧ px_at 3 32 = some (33, [], .aload_n 0, []) ∧ px_at 3 33 = some (36, [], .getfield 21, [0, 3, 0, 0, 112]) ∧ px_at 3 36 = some (37, [], .iconst 0, []) ∧ px_at 3 37 = some (38, [], .iastore, []) ∧ px_at 3 38 = some (41, [], .goto 22, [60]) ∧ px_at 3 41 = some (42, [], .aload_n 0, []) ∧ px_at 3 42 = some (45, [], .getfield 9, [0, 0, 2, 1, 106]) ∧ px_at 3 45 = some (46, [], .aload_n 0, []) ∧ px_at 3 46 = some (49, [], .getfield 21, [0, 3, 0, 0, 112]) ∧ px_at 3 49 = some (51, [], .iload 6, []) ∧ px_at 3 51 = some (54, [], .ifCond .ge 7, [58]) ∧ px_at 3 54 = some (55, [], .iconst 1, []) ∧ px_at 3 55 = some (58, [], .goto 4, [59]) ∧ px_at 3 58 = some (59, [], .iconst 2, []) ∧ px_at 3 59 = some (60, [], .iastore, []) ∧ px_at 3 60 = some (61, [], .aload_n 0, []) ∧ px_at 3 61 = some (64, [], .getfield 15, [0, 1, 2, 1, 108]) ∧ px_at 3 64 = some (65, [], .aload_n 0, []) ∧ px_at 3 65 = some (68, [], .getfield 21, [0, 3, 0, 0, 112]) ∧ px_at 3 68 = some (69, [], .aload_n 3, []) ∧ px_at 3 69 = some (70, [], .lload_n 1, []) ∧ px_at 3 70 = some (73, [], .invokevirtual 51, [37, 1, 2, 211]) ∧ px_at 3 73 = some (74, [], .iastore, []) ∧ px_at 3 74 = some (75, [], .aload_n 0, []) ∧ px_at 3 75 = some (78, [], .getfield 18, [0, 2, 2, 1, 110]) ∧ px_at 3 78 = some (79, [], .aload_n 0, []) ∧ px_at 3 79 = some (82, [], .getfield 21, [0, 3, 0, 0, 112]) ∧ px_at 3 82 = some (84, [], .aload 4, []) ∧ px_at 3 84 = some (85, [], .lload_n 1, []) ∧ px_at 3 85 = some (88, [], .invokevirtual 51, [37, 1, 2, 211]) ∧ px_at 3 88 = some (89, [], .iastore, []) ∧ px_at 3 89 = some (90, [], .aload_n 0, []) ∧ px_at 3 90 = some (91, [], .dup, []) ∧ px_at 3 91 = some (94, [], .getfield 21, [0, 3, 0, 0, 112]) ∧ px_at 3 94 = some (95, [], .iconst 1, []) ∧ px_at 3 95 = some (96, [], .iadd, []) ∧ px_at 3 96 = some (99, [], .putfield 21, [0, 3, 0, 0, 112]) ∧ px_at 3 99 = some (100, [], .return_, []) := ⟨rfl, rfl, rfl, rfl, rfl, rfl, rfl, rfl, rfl, rfl, rfl, rfl, rfl, rfl, rfl, rfl, rfl, rfl, rfl, rfl, rfl, rfl, rfl, rfl, rfl, rfl, rfl, rfl, rfl, rfl, rfl, rfl, rfl, rfl, rfl, rfl, rfl, rfl, rfl, rfl, rfl, rfl, rfl, rfl, rfl, rfl, rfl, rfl, rfl, rfl, rfl, rfl, rfl, rfl⟩
set_option maxRecDepth 100000 in
/-- X0_movedFrom -/
theorem cd_4 : px_at 4 0 = some (1, [], .aload_n 0, []) ∧ px_at 4 1 = some (4, [], .getfield 9, [0, 0, 2, 1, 106]) ∧ px_at 4 4 = some (5, [], .iload_n 1, []) ∧ px_at 4 5 = some (6, [], .iaload, []) ∧ px_at 4 6 = some (9, [], .ifCond .eq 6, [12]) ∧ px_at 4 9 = some (11, [], .bipush (-2), []) ∧ px_at 4 11 = some (12, [], .ireturn, [0]) ∧ px_at 4 12 = some (13, [], .aload_n 3, []) ∧ px_at 4 13 = some (16, [], .getfield 54, [2, 1, 2, 1, 26]) ∧ px_at 4 16 = some (17, [], .aload_n 0, []) ∧ px_at 4 17 = some (20, [], .getfield 18, [0, 2, 2, 1, 110]) ∧ px_at 4 20 = some (21, [], .iload_n 1, []) ∧ px_at 4 21 = some (22, [], .iaload, []) ∧ px_at 4 22 = some (23, [], .iaload, []) ∧ px_at 4 23 = some (25, [], .istore 4, []) ∧ px_at 4 25 = some (26, [], .iconst 0, []) ∧ px_at 4 26 = some (28, [], .istore 5, []) ∧ px_at 4 28 = some (30, [0, 0, 1, 1, 1, 1], .iload 5, []) ∧ px_at 4 30 = some (31, [], .aload_n 2, []) ∧ px_at 4 31 = some (34, [], .getfield 57, [2, 2, 0, 0, 31]) ∧ px_at 4 34 = some (37, [], .if_icmp .ge 38, [72]) ∧ px_at 4 37 = some (38, [], .aload_n 2, []) ∧ px_at 4 38 = some (41, [], .getfield 54, [2, 1, 2, 1, 26]) ∧ px_at 4 41 = some (43, [], .iload 5, []) ∧ px_at 4 43 = some (44, [], .iaload, []) ∧ px_at 4 44 = some (46, [], .iload 4, []) ∧ px_at 4 46 = some (49, [], .if_icmp .ne 20, [66]) ∧ px_at 4 49 = some (50, [], .aload_n 3, []) ∧ px_at 4 50 = some (51, [], .aload_n 2, []) ∧ px_at 4 51 = some (54, [], .getfield 60, [2, 0, 2, 1, 21]) ∧ px_at 4 54 = some (56, [], .iload 5, []) ∧ px_at 4 56 = some (57, [], .laload, []) ∧ px_at 4 57 = some (60, [], .invokevirtual 51, [37, 1, 2, 211]) ∧ px_at 4 60 = some (63, [], .ifCond .ge 6, [66]) ∧ px_at 4 63 = some (65, [], .iload 5, []) ∧ px_at 4 65 = some (66, [], .ireturn, [0]) ∧ px_at 4 66 = some (69, [], .iinc 5 1, []) ∧ px_at 4 69 = some (72, [], .goto (-41), [28]) ∧ px_at 4 72 = some (74, [], .bipush (-2), []) ∧ px_at 4 74 = some (75, [], .ireturn, [0]) := ⟨rfl, rfl, rfl, rfl, rfl, rfl, rfl, rfl, rfl, rfl, rfl, rfl, rfl, rfl, rfl, rfl, rfl, rfl, rfl, rfl, rfl, rfl, rfl, rfl, rfl, rfl, rfl, rfl, rfl, rfl, rfl, rfl, rfl, rfl, rfl, rfl, rfl, rfl, rfl, rfl⟩
abbrev cT : Type := Int × Int × Int
def chk (x y : Int) : Int := if x < 0 then 0 else if y < 0 then 1 else 2
def chst (ca cb ia ib : List Int → Int) (s : List cT) (p : List Int) : List cT := if ca p = cb p then s else s ++ [(chk (ca p) (cb p), ia p, ib p)]
def chf (ca cb ia ib : List Int → Int) (U : List (List Int)) : List cT := U.foldl (chst ca cb ia ib) []
theorem chf_snoc (ca cb ia ib : List Int → Int) (U : List (List Int)) (p : List Int) : chf ca cb ia ib (U ++ [p]) = chst ca cb ia ib (chf ca cb ia ib U) p := by
  unfold chf
  rw [List.foldl_append]
  rfl
theorem chf_len1 (ca cb ia ib : List Int → Int) : ∀ (U V : List (List Int)), V = U.reverse → (chf ca cb ia ib V).length ≤ V.length ∧ ∀ q ∈ chf ca cb ia ib V, ∃ p ∈ V, ca p ≠ cb p ∧ q = (chk (ca p) (cb p), ia p, ib p) := by
  intro U
  induction U with
  | nil => intro V h; subst h; exact ⟨Nat.le_refl _, fun q hq => absurd hq (by simp [chf])⟩
  | cons a U ih =>
    intro V h
    subst h
    rw [List.reverse_cons, chf_snoc]
    obtain ⟨h1, h2⟩ := ih U.reverse rfl
    rw [List.length_append]
    unfold chst
    split
    · refine ⟨by omega, fun q hq => ?_⟩
      obtain ⟨p, p1, p2⟩ := h2 q hq
      exact ⟨p, List.mem_append.mpr (Or.inl p1), p2⟩
    · rename_i hne
      refine ⟨by rw [List.length_append]; simp only [List.length_cons, List.length_nil]; omega, fun q hq => ?_⟩
      rcases List.mem_append.mp hq with r | r
      · obtain ⟨p, p1, p2⟩ := h2 q r
        exact ⟨p, List.mem_append.mpr (Or.inl p1), p2⟩
      · simp only [List.mem_cons, List.not_mem_nil, or_false] at r
        exact ⟨a, by simp, hne, r⟩
theorem chf_len (ca cb ia ib : List Int → Int) (V : List (List Int)) : (chf ca cb ia ib V).length ≤ V.length ∧ ∀ q ∈ chf ca cb ia ib V, ∃ p ∈ V, ca p ≠ cb p ∧ q = (chk (ca p) (cb p), ia p, ib p) := chf_len1 ca cb ia ib V.reverse V (List.reverse_reverse V).symm
def hC (M : px_mem) (D : List cT) : Prop := M 121 3 = (D.length : Int) ∧ ∀ (i : Nat) (x : cT), D[i]? = some x → M 122 i = x.1 ∧ M 123 i = x.2.1 ∧ M 124 i = x.2.2
theorem hC_snoc {M M' : px_mem} {J : List cT} {x : cT} (h : hC M J) (h1 : M' 121 3 = (J.length : Int) + 1) (h2 : ∀ i, M' 122 i = if i = (J.length : Int) then x.1 else M 122 i) (h3 : ∀ i, M' 123 i = if i = (J.length : Int) then x.2.1 else M 123 i) (h4 : ∀ i, M' 124 i = if i = (J.length : Int) then x.2.2 else M 124 i) : hC M' (J ++ [x]) := by
  refine ⟨by rw [h1, List.length_append]; rfl, fun i y hy => ?_⟩
  by_cases e : i < J.length
  · rw [List.getElem?_append_left e] at hy
    have := h.2 i y hy
    rw [h2, h3, h4, if_neg (by omega), if_neg (by omega), if_neg (by omega)]
    exact this
  · rw [List.getElem?_append_right (by omega)] at hy
    have e2 : i - J.length = 0 := by
      by_cases q : i - J.length = 0
      · exact q
      · rw [List.getElem?_eq_none (by simp; omega)] at hy; cases hy
    rw [e2] at hy
    injection hy with hy
    rw [h2, h3, h4, if_pos (by omega), if_pos (by omega), if_pos (by omega), ← hy]
    exact ⟨rfl, rfl, rfl⟩
noncomputable def pAt (M : px_mem) (e : Int) (pl : Int → List Int) (p : List Int) : Int := idx (M e 2) (fun j => pl j = p)
section PS
variable {M : px_mem} {Q : Option pv → px_mem → Prop}
set_option maxHeartbeats 600000 in
set_option maxRecDepth 100000 in
theorem sp_note {ea eb : Int} {pa pb : Int → List Int} {p : List Int} {D : List cT} (ha : isE ea) (hb : isE eb) (la : lsC M ea pa) (lb : lsC M eb pb) (hp : okp p) (hD : hC M D) (hn : D.length < 24) (h : ∀ M', hC M' (chst (cAt M ea pa) (cAt M eb pb) (pAt M ea pa) (pAt M eb pb) D p) → (∀ j, j ≠ 3 → M' 121 j = M 121 j) → (∀ b, b ≠ 121 → b ≠ 122 → b ≠ 123 → b ≠ 124 → M' b = M b) → Q none M') : px_Ok 3 [(2, 121), (1, enc p), (2, ea), (2, eb)] LAY M Q := by
  have ra := cAt_rng la p
  have rb := cAt_rng lb p
  have ma := isE_m ha
  have mb := isE_m hb
  have hM := hD.1
  have hfin : ∀ kk, cAt M ea pa p ≠ cAt M eb pb p → chk (cAt M ea pa p) (cAt M eb pb p) = kk → Q none (px_up (px_up (px_up (px_up M 122 (D.length : Int) kk) 123 (D.length : Int) (idx (M ea 2) (fun j => pa j = p))) 124 (D.length : Int) (idx (M eb 2) (fun j => pb j = p))) 121 3 ((D.length : Int) + 1)) := fun kk q1 q2 => by
    refine h _ ?_ (fun j j3 => ?_) (fun b b0 b1 b2 b3 => ?_)
    · unfold chst
      rw [if_neg q1, q2]
      refine hC_snoc hD (by rw [px_up_at, if_pos ⟨rfl, rfl⟩]) (fun i => ?_) (fun i => ?_) (fun i => ?_)
      · rw [row_ne (by decide), row_ne (by decide), row_ne (by decide), px_up_at]
        by_cases q : i = (D.length : Int)
        · rw [if_pos ⟨rfl, q⟩, if_pos q]
        · rw [if_neg (fun z => q z.2), if_neg q]
      · rw [row_ne (by decide), row_ne (by decide), px_up_at, row_ne (by decide)]
        by_cases q : i = (D.length : Int)
        · rw [if_pos ⟨rfl, q⟩, if_pos q]; rfl
        · rw [if_neg (fun z => q z.2), if_neg q]
      · rw [row_ne (by decide), px_up_at, row_ne (by decide), row_ne (by decide)]
        by_cases q : i = (D.length : Int)
        · rw [if_pos ⟨rfl, q⟩, if_pos q]; rfl
        · rw [if_neg (fun z => q z.2), if_neg q]
    · rw [px_up_at, if_neg (by omega), row_ne (by decide), row_ne (by decide), row_ne (by decide)]
    · rw [row_ne b0, row_ne b3, row_ne b2, row_ne b1]
  refine px_ok_go (inl := []) (ls0 := [(2, 121), (1, enc p), (9, 0), (2, ea), (2, eb), (9, 0), (9, 0)]) 60 (by decide) (Nat.le_of_ble_eq_true rfl) rfl ?_
  simp only [px_go, px_Q0_at, px_sx_0, px_sx_s, px_cl, px_step, ↓px_ll, px_lg, f4_, ↓px_r1, ↓px_r2, ↓px_r4, ↓px_r5, ↓px_p1, ↓px_p2, ↓px_p3, ↓px_pop, px_k_0, px_k_s, px_k3_0, px_stk_, px_cats, px_ent, px_st1, px_st2, px_mask, ↓px_tsw, ↓px_lsw, ct_, mls_0, mls_1, mls_2, mls_3, mls_4, mls_5, kd_0, kd_1, kd_2, kd_3, ln_0, ln_1, ln_2, ln_3, gf_0, gf_1, gf_2, gf_3, gf_4, gf_7, gf_21, gf_63, dy_0, dy_1, dy_2, dy_3, dy_7, dy_21, px_brT, px_brF, true_and, and_true, and_false, false_and, and_self, true_implies, false_implies, or_true, true_or, or_false, false_or, eq_self, ne_eq, not_false_eq_true, not_true_eq_false, if_true, if_false, List.mem_cons, List.not_mem_nil, List.length_cons, List.length_nil, Nat.reduceEqDiff, Nat.reduceAdd, Nat.reduceSub, Nat.reduceLeDiff, Nat.reduceLT, Int.reduceEq, Int.reduceLT, Int.reduceLE, Int.reduceNeg, Int.reduceAdd, Int.reduceSub, Int.reduceToNat, ↓reduceIte, one_ne_zero_, zero_ne_one_, px_in32L, cd_3, (isE_lay ha).1, (isE_lay hb).1, hM]
  repeat' (first | (with_reducible apply And.intro) | (with_reducible refine px_br_intro (fun _ => ?_) (fun _ => ?_)))
  all_goals (try (first | (unfold px_in32; omega) | omega))
  refine sp_contentAt ha la hp ?_
  simp only [px_go, px_Q0_at, px_sx_0, px_sx_s, px_cl, px_step, ↓px_ll, px_lg, f4_, ↓px_r1, ↓px_r2, ↓px_r4, ↓px_r5, ↓px_p1, ↓px_p2, ↓px_p3, ↓px_pop, px_k_0, px_k_s, px_k3_0, px_stk_, px_cats, px_ent, px_st1, px_st2, px_mask, ↓px_tsw, ↓px_lsw, ct_, mls_0, mls_1, mls_2, mls_3, mls_4, mls_5, kd_0, kd_1, kd_2, kd_3, ln_0, ln_1, ln_2, ln_3, gf_0, gf_1, gf_2, gf_3, gf_4, gf_7, gf_21, gf_63, dy_0, dy_1, dy_2, dy_3, dy_7, dy_21, px_brT, px_brF, true_and, and_true, and_false, false_and, and_self, true_implies, false_implies, or_true, true_or, or_false, false_or, eq_self, ne_eq, not_false_eq_true, not_true_eq_false, if_true, if_false, List.mem_cons, List.not_mem_nil, List.length_cons, List.length_nil, Nat.reduceEqDiff, Nat.reduceAdd, Nat.reduceSub, Nat.reduceLeDiff, Nat.reduceLT, Int.reduceEq, Int.reduceLT, Int.reduceLE, Int.reduceNeg, Int.reduceAdd, Int.reduceSub, Int.reduceToNat, ↓reduceIte, one_ne_zero_, zero_ne_one_, px_in32L, cd_3, (isE_lay ha).1, (isE_lay hb).1, hM]
  refine sp_contentAt hb lb hp ?_
  have key : ∀ (kk : Int), cAt M ea pa p ≠ cAt M eb pb p → chk (cAt M ea pa p) (cAt M eb pb p) = kk → px_Ok 37 [(2, ea), (1, enc p)] LAY (px_up M 122 (D.length : Int) kk) (fun r M1 => r = some (0, idx (M ea 2) (fun j => pa j = p)) ∧ M1 = px_up M 122 (D.length : Int) kk) := fun kk _ _ => by
    have f := fun b (q : b ≠ 122) => row_ne (M := M) (j := (D.length : Int)) (x := kk) q
    refine sp_ePlaceOf ha (lsC_frame la (f _ (by omega)) (f _ (by omega)) (f _ (by omega))) hp ⟨?_, rfl⟩
    rw [f ea (by omega)]
  have key2 : ∀ (kk a : Int), px_Ok 37 [(2, eb), (1, enc p)] LAY (px_up (px_up M 122 (D.length : Int) kk) 123 (D.length : Int) a) (fun r M1 => r = some (0, idx (M eb 2) (fun j => pb j = p)) ∧ M1 = px_up (px_up M 122 (D.length : Int) kk) 123 (D.length : Int) a) := fun kk a => by
    have f : ∀ b, b ≠ 122 → b ≠ 123 → px_up (px_up M 122 (D.length : Int) kk) 123 (D.length : Int) a b = M b := fun b q0 q1 => by rw [row_ne q1, row_ne q0]
    refine sp_ePlaceOf hb (lsC_frame lb (f _ (by omega) (by omega)) (f _ (by omega) (by omega)) (f _ (by omega) (by omega))) hp ⟨?_, rfl⟩
    rw [f eb (by omega) (by omega)]
  have hck : chk (cAt M ea pa p) (cAt M eb pb p) = if cAt M ea pa p < 0 then 0 else if cAt M eb pb p < 0 then 1 else 2 := rfl
  simp only [px_go, px_Q0_at, px_sx_0, px_sx_s, px_cl, px_step, ↓px_ll, px_lg, f4_, ↓px_r1, ↓px_r2, ↓px_r4, ↓px_r5, ↓px_p1, ↓px_p2, ↓px_p3, ↓px_pop, px_k_0, px_k_s, px_k3_0, px_stk_, px_cats, px_ent, px_st1, px_st2, px_mask, ↓px_tsw, ↓px_lsw, ct_, mls_0, mls_1, mls_2, mls_3, mls_4, mls_5, kd_0, kd_1, kd_2, kd_3, ln_0, ln_1, ln_2, ln_3, gf_0, gf_1, gf_2, gf_3, gf_4, gf_7, gf_21, gf_63, dy_0, dy_1, dy_2, dy_3, dy_7, dy_21, px_brT, px_brF, true_and, and_true, and_false, false_and, and_self, true_implies, false_implies, or_true, true_or, or_false, false_or, eq_self, ne_eq, not_false_eq_true, not_true_eq_false, if_true, if_false, List.mem_cons, List.not_mem_nil, List.length_cons, List.length_nil, Nat.reduceEqDiff, Nat.reduceAdd, Nat.reduceSub, Nat.reduceLeDiff, Nat.reduceLT, Int.reduceEq, Int.reduceLT, Int.reduceLE, Int.reduceNeg, Int.reduceAdd, Int.reduceSub, Int.reduceToNat, ↓reduceIte, one_ne_zero_, zero_ne_one_, px_in32L, cd_3, (isE_lay ha).1, (isE_lay hb).1, hM]
  repeat' (first | (with_reducible apply And.intro) | (with_reducible refine px_br_intro (fun _ => ?_) (fun _ => ?_)))
  all_goals (try (first | (unfold px_in32; omega) | omega))
  · rename_i c1
    refine h M ?_ (fun _ _ => rfl) (fun _ _ _ _ _ => rfl)
    unfold chst
    rw [if_pos c1]; exact hD
  · rename_i c1 c2 c3
    have kk : chk (cAt M ea pa p) (cAt M eb pb p) = 2 := by rw [hck, if_neg (by omega), if_neg (by omega)]
    refine (key 2 c1 kk).mono (fun r M1 q => ?_)
    obtain ⟨rfl, rfl⟩ := q
    simp only [px_go, px_Q0_at, px_sx_0, px_sx_s, px_cl, px_step, ↓px_ll, px_lg, f4_, ↓px_r1, ↓px_r2, ↓px_r4, ↓px_r5, ↓px_p1, ↓px_p2, ↓px_p3, ↓px_pop, px_k_0, px_k_s, px_k3_0, px_stk_, px_cats, px_ent, px_st1, px_st2, px_mask, ↓px_tsw, ↓px_lsw, ct_, mls_0, mls_1, mls_2, mls_3, mls_4, mls_5, kd_0, kd_1, kd_2, kd_3, ln_0, ln_1, ln_2, ln_3, gf_0, gf_1, gf_2, gf_3, gf_4, gf_7, gf_21, gf_63, dy_0, dy_1, dy_2, dy_3, dy_7, dy_21, px_brT, px_brF, true_and, and_true, and_false, false_and, and_self, true_implies, false_implies, or_true, true_or, or_false, false_or, eq_self, ne_eq, not_false_eq_true, not_true_eq_false, if_true, if_false, List.mem_cons, List.not_mem_nil, List.length_cons, List.length_nil, Nat.reduceEqDiff, Nat.reduceAdd, Nat.reduceSub, Nat.reduceLeDiff, Nat.reduceLT, Int.reduceEq, Int.reduceLT, Int.reduceLE, Int.reduceNeg, Int.reduceAdd, Int.reduceSub, Int.reduceToNat, ↓reduceIte, one_ne_zero_, zero_ne_one_, px_in32L, cd_3, (isE_lay ha).1, (isE_lay hb).1, hM, px_up_at]
    repeat' (first | (with_reducible apply And.intro) | (with_reducible refine px_br_intro (fun _ => ?_) (fun _ => ?_)))
    all_goals (try (first | (unfold px_in32; omega) | omega))
    refine (key2 2 _).mono (fun r M1 q => ?_)
    obtain ⟨rfl, rfl⟩ := q
    simp only [px_go, px_Q0_at, px_sx_0, px_sx_s, px_cl, px_step, ↓px_ll, px_lg, f4_, ↓px_r1, ↓px_r2, ↓px_r4, ↓px_r5, ↓px_p1, ↓px_p2, ↓px_p3, ↓px_pop, px_k_0, px_k_s, px_k3_0, px_stk_, px_cats, px_ent, px_st1, px_st2, px_mask, ↓px_tsw, ↓px_lsw, ct_, mls_0, mls_1, mls_2, mls_3, mls_4, mls_5, kd_0, kd_1, kd_2, kd_3, ln_0, ln_1, ln_2, ln_3, gf_0, gf_1, gf_2, gf_3, gf_4, gf_7, gf_21, gf_63, dy_0, dy_1, dy_2, dy_3, dy_7, dy_21, px_brT, px_brF, true_and, and_true, and_false, false_and, and_self, true_implies, false_implies, or_true, true_or, or_false, false_or, eq_self, ne_eq, not_false_eq_true, not_true_eq_false, if_true, if_false, List.mem_cons, List.not_mem_nil, List.length_cons, List.length_nil, Nat.reduceEqDiff, Nat.reduceAdd, Nat.reduceSub, Nat.reduceLeDiff, Nat.reduceLT, Int.reduceEq, Int.reduceLT, Int.reduceLE, Int.reduceNeg, Int.reduceAdd, Int.reduceSub, Int.reduceToNat, ↓reduceIte, one_ne_zero_, zero_ne_one_, px_in32L, cd_3, (isE_lay ha).1, (isE_lay hb).1, hM, px_up_at]
    repeat' (first | (with_reducible apply And.intro) | (with_reducible refine px_br_intro (fun _ => ?_) (fun _ => ?_)))
    all_goals (try (first | (unfold px_in32; omega) | omega))
    exact hfin 2 c1 kk
  · rename_i c1 c2 c3
    have kk : chk (cAt M ea pa p) (cAt M eb pb p) = 1 := by rw [hck, if_neg (by omega), if_pos (by omega)]
    refine (key 1 c1 kk).mono (fun r M1 q => ?_)
    obtain ⟨rfl, rfl⟩ := q
    simp only [px_go, px_Q0_at, px_sx_0, px_sx_s, px_cl, px_step, ↓px_ll, px_lg, f4_, ↓px_r1, ↓px_r2, ↓px_r4, ↓px_r5, ↓px_p1, ↓px_p2, ↓px_p3, ↓px_pop, px_k_0, px_k_s, px_k3_0, px_stk_, px_cats, px_ent, px_st1, px_st2, px_mask, ↓px_tsw, ↓px_lsw, ct_, mls_0, mls_1, mls_2, mls_3, mls_4, mls_5, kd_0, kd_1, kd_2, kd_3, ln_0, ln_1, ln_2, ln_3, gf_0, gf_1, gf_2, gf_3, gf_4, gf_7, gf_21, gf_63, dy_0, dy_1, dy_2, dy_3, dy_7, dy_21, px_brT, px_brF, true_and, and_true, and_false, false_and, and_self, true_implies, false_implies, or_true, true_or, or_false, false_or, eq_self, ne_eq, not_false_eq_true, not_true_eq_false, if_true, if_false, List.mem_cons, List.not_mem_nil, List.length_cons, List.length_nil, Nat.reduceEqDiff, Nat.reduceAdd, Nat.reduceSub, Nat.reduceLeDiff, Nat.reduceLT, Int.reduceEq, Int.reduceLT, Int.reduceLE, Int.reduceNeg, Int.reduceAdd, Int.reduceSub, Int.reduceToNat, ↓reduceIte, one_ne_zero_, zero_ne_one_, px_in32L, cd_3, (isE_lay ha).1, (isE_lay hb).1, hM, px_up_at]
    repeat' (first | (with_reducible apply And.intro) | (with_reducible refine px_br_intro (fun _ => ?_) (fun _ => ?_)))
    all_goals (try (first | (unfold px_in32; omega) | omega))
    refine (key2 1 _).mono (fun r M1 q => ?_)
    obtain ⟨rfl, rfl⟩ := q
    simp only [px_go, px_Q0_at, px_sx_0, px_sx_s, px_cl, px_step, ↓px_ll, px_lg, f4_, ↓px_r1, ↓px_r2, ↓px_r4, ↓px_r5, ↓px_p1, ↓px_p2, ↓px_p3, ↓px_pop, px_k_0, px_k_s, px_k3_0, px_stk_, px_cats, px_ent, px_st1, px_st2, px_mask, ↓px_tsw, ↓px_lsw, ct_, mls_0, mls_1, mls_2, mls_3, mls_4, mls_5, kd_0, kd_1, kd_2, kd_3, ln_0, ln_1, ln_2, ln_3, gf_0, gf_1, gf_2, gf_3, gf_4, gf_7, gf_21, gf_63, dy_0, dy_1, dy_2, dy_3, dy_7, dy_21, px_brT, px_brF, true_and, and_true, and_false, false_and, and_self, true_implies, false_implies, or_true, true_or, or_false, false_or, eq_self, ne_eq, not_false_eq_true, not_true_eq_false, if_true, if_false, List.mem_cons, List.not_mem_nil, List.length_cons, List.length_nil, Nat.reduceEqDiff, Nat.reduceAdd, Nat.reduceSub, Nat.reduceLeDiff, Nat.reduceLT, Int.reduceEq, Int.reduceLT, Int.reduceLE, Int.reduceNeg, Int.reduceAdd, Int.reduceSub, Int.reduceToNat, ↓reduceIte, one_ne_zero_, zero_ne_one_, px_in32L, cd_3, (isE_lay ha).1, (isE_lay hb).1, hM, px_up_at]
    repeat' (first | (with_reducible apply And.intro) | (with_reducible refine px_br_intro (fun _ => ?_) (fun _ => ?_)))
    all_goals (try (first | (unfold px_in32; omega) | omega))
    exact hfin 1 c1 kk
  · rename_i c1 c2
    have kk : chk (cAt M ea pa p) (cAt M eb pb p) = 0 := by rw [hck, if_pos (by omega)]
    refine (key 0 c1 kk).mono (fun r M1 q => ?_)
    obtain ⟨rfl, rfl⟩ := q
    simp only [px_go, px_Q0_at, px_sx_0, px_sx_s, px_cl, px_step, ↓px_ll, px_lg, f4_, ↓px_r1, ↓px_r2, ↓px_r4, ↓px_r5, ↓px_p1, ↓px_p2, ↓px_p3, ↓px_pop, px_k_0, px_k_s, px_k3_0, px_stk_, px_cats, px_ent, px_st1, px_st2, px_mask, ↓px_tsw, ↓px_lsw, ct_, mls_0, mls_1, mls_2, mls_3, mls_4, mls_5, kd_0, kd_1, kd_2, kd_3, ln_0, ln_1, ln_2, ln_3, gf_0, gf_1, gf_2, gf_3, gf_4, gf_7, gf_21, gf_63, dy_0, dy_1, dy_2, dy_3, dy_7, dy_21, px_brT, px_brF, true_and, and_true, and_false, false_and, and_self, true_implies, false_implies, or_true, true_or, or_false, false_or, eq_self, ne_eq, not_false_eq_true, not_true_eq_false, if_true, if_false, List.mem_cons, List.not_mem_nil, List.length_cons, List.length_nil, Nat.reduceEqDiff, Nat.reduceAdd, Nat.reduceSub, Nat.reduceLeDiff, Nat.reduceLT, Int.reduceEq, Int.reduceLT, Int.reduceLE, Int.reduceNeg, Int.reduceAdd, Int.reduceSub, Int.reduceToNat, ↓reduceIte, one_ne_zero_, zero_ne_one_, px_in32L, cd_3, (isE_lay ha).1, (isE_lay hb).1, hM, px_up_at]
    repeat' (first | (with_reducible apply And.intro) | (with_reducible refine px_br_intro (fun _ => ?_) (fun _ => ?_)))
    all_goals (try (first | (unfold px_in32; omega) | omega))
    refine (key2 0 _).mono (fun r M1 q => ?_)
    obtain ⟨rfl, rfl⟩ := q
    simp only [px_go, px_Q0_at, px_sx_0, px_sx_s, px_cl, px_step, ↓px_ll, px_lg, f4_, ↓px_r1, ↓px_r2, ↓px_r4, ↓px_r5, ↓px_p1, ↓px_p2, ↓px_p3, ↓px_pop, px_k_0, px_k_s, px_k3_0, px_stk_, px_cats, px_ent, px_st1, px_st2, px_mask, ↓px_tsw, ↓px_lsw, ct_, mls_0, mls_1, mls_2, mls_3, mls_4, mls_5, kd_0, kd_1, kd_2, kd_3, ln_0, ln_1, ln_2, ln_3, gf_0, gf_1, gf_2, gf_3, gf_4, gf_7, gf_21, gf_63, dy_0, dy_1, dy_2, dy_3, dy_7, dy_21, px_brT, px_brF, true_and, and_true, and_false, false_and, and_self, true_implies, false_implies, or_true, true_or, or_false, false_or, eq_self, ne_eq, not_false_eq_true, not_true_eq_false, if_true, if_false, List.mem_cons, List.not_mem_nil, List.length_cons, List.length_nil, Nat.reduceEqDiff, Nat.reduceAdd, Nat.reduceSub, Nat.reduceLeDiff, Nat.reduceLT, Int.reduceEq, Int.reduceLT, Int.reduceLE, Int.reduceNeg, Int.reduceAdd, Int.reduceSub, Int.reduceToNat, ↓reduceIte, one_ne_zero_, zero_ne_one_, px_in32L, cd_3, (isE_lay ha).1, (isE_lay hb).1, hM, px_up_at]
    repeat' (first | (with_reducible apply And.intro) | (with_reducible refine px_br_intro (fun _ => ?_) (fun _ => ?_)))
    all_goals (try (first | (unfold px_in32; omega) | omega))
    exact hfin 0 c1 kk
def uL2 (M0 : px_mem) (ea eb : Int) (pa pb : Int → List Int) (p : List Int) : Prop := inL (M0 ea 2) pa p ∨ inL (M0 eb 2) pb p
def t2 (M0 : px_mem) (ea eb : Int) (pa pb : Int → List Int) : Prop := (isE ea ∧ isE eb) ∧ (lsC M0 ea pa ∧ lsC M0 eb pb) ∧ (sE M0 ea ∧ sE M0 eb)
theorem next2_spec {M0 : px_mem} {ea eb c : Int} {pa pb : Int → List Int} (h : t2 M0 ea eb pa pb) (hc : c < 1152921504606846976) : ∃ d, d = min (nxt M0 ea c) (nxt M0 eb c) ∧ c < d ∧ d ≤ 1152921504606846976 ∧ (∀ p, uL2 M0 ea eb pa pb p → c < enc p → d ≤ enc p) ∧ (d < 1152921504606846976 → ∃ p, uL2 M0 ea eb pa pb p ∧ enc p = d ∧ okp p) := by
  obtain ⟨_, ⟨la, lb⟩, ⟨sa, sb⟩⟩ := h
  have a := nxt_spec la sa hc
  have b := nxt_spec lb sb hc
  refine ⟨_, rfl, by omega, by omega, fun p hp hcp => ?_, fun q => ?_⟩
  · rcases hp with hp | hp
    · have := a.2.2.1 p hp hcp; omega
    · have := b.2.2.1 p hp hcp; omega
  · rcases (by omega : min (nxt M0 ea c) (nxt M0 eb c) = nxt M0 ea c ∨ min (nxt M0 ea c) (nxt M0 eb c) = nxt M0 eb c) with e | e
    · obtain ⟨p, p1, p2, p3⟩ := a.2.2.2 (by omega)
      exact ⟨p, Or.inl p1, by omega, p3⟩
    · obtain ⟨p, p1, p2, p3⟩ := b.2.2.2 (by omega)
      exact ⟨p, Or.inr p1, by omega, p3⟩
theorem uL2_ok {M0 : px_mem} {ea eb : Int} {pa pb : Int → List Int} (h : t2 M0 ea eb pa pb) {p : List Int} (hp : uL2 M0 ea eb pa pb p) : okp p := by
  obtain ⟨_, ⟨la, lb⟩, _⟩ := h
  rcases hp with ⟨j, j0, j1, j2⟩ | ⟨j, j0, j1, j2⟩
  · rw [← j2]; exact (la.2.2 j j0 j1).1
  · rw [← j2]; exact (lb.2.2 j j0 j1).1
noncomputable def cnt2 (M0 : px_mem) (ea eb c : Int) : Int := cE M0 ea c + cE M0 eb c
theorem cnt2_step {M0 : px_mem} {ea eb c d : Int} {pa pb : Int → List Int} (h : t2 M0 ea eb pa pb) {p : List Int} (hp : uL2 M0 ea eb pa pb p) (hc : enc p = c) (hd : c < d) : cnt2 M0 ea eb c + 1 ≤ cnt2 M0 ea eb d ∧ cnt2 M0 ea eb c < 24 := by
  obtain ⟨_, ⟨la, lb⟩, _⟩ := h
  have m2 := cE_mono (M := M0) (e := ea) (show c ≤ d by omega)
  have m3 := cE_mono (M := M0) (e := eb) (show c ≤ d by omega)
  have r2 := cE_rng (M := M0) (e := ea) (c := d) la.1
  have r3 := cE_rng (M := M0) (e := eb) (c := d) lb.1
  have q2 := la.2.1
  have q3 := lb.2.1
  unfold cnt2
  rcases hp with hp | hp
  · have := cE_step la hp hc hd; omega
  · have := cE_step lb hp hc hd; omega
theorem pAt_frame {M M' : px_mem} {e : Int} {pl : Int → List Int} (h1 : M' e = M e) (p : List Int) : pAt M' e pl p = pAt M e pl p := by unfold pAt; rw [h1]
set_option maxHeartbeats 4000000 in
set_option maxRecDepth 100000 in
theorem sp_next2 {ea eb c : Int} (ha : isE ea) (hb : isE eb) (la : 0 ≤ M ea 2 ∧ M ea 2 ≤ 12) (lb : 0 ≤ M eb 2 ∧ M eb 2 ≤ 12) (h : Q (some (1, min (nxt M ea c) (nxt M eb c))) M) : px_Ok 2 [(1, c), (2, ea), (2, eb)] LAY M Q := by
  refine px_ok_go (inl := []) (ls0 := [(1, c), (9, 0), (2, ea), (2, eb)]) 60 (by decide) (Nat.le_of_ble_eq_true rfl) rfl ?_
  simp only [px_go, px_Q0_at, px_sx_0, px_sx_s, px_cl, px_step, ↓px_ll, px_lg, f4_, ↓px_r1, ↓px_r2, ↓px_r4, ↓px_r5, ↓px_p1, ↓px_p2, ↓px_p3, ↓px_pop, px_k_0, px_k_s, px_k3_0, px_stk_, px_cats, px_ent, px_st1, px_st2, px_mask, ↓px_tsw, ↓px_lsw, ct_, mls_0, mls_1, mls_2, mls_3, mls_4, mls_5, kd_0, kd_1, kd_2, kd_3, ln_0, ln_1, ln_2, ln_3, gf_0, gf_1, gf_2, gf_3, gf_4, gf_7, gf_21, gf_63, dy_0, dy_1, dy_2, dy_3, dy_7, dy_21, px_brT, px_brF, true_and, and_true, and_false, false_and, and_self, true_implies, false_implies, or_true, true_or, or_false, false_or, eq_self, ne_eq, not_false_eq_true, not_true_eq_false, if_true, if_false, List.mem_cons, List.not_mem_nil, List.length_cons, List.length_nil, Nat.reduceEqDiff, Nat.reduceAdd, Nat.reduceSub, Nat.reduceLeDiff, Nat.reduceLT, Int.reduceEq, Int.reduceLT, Int.reduceLE, Int.reduceNeg, Int.reduceAdd, Int.reduceSub, Int.reduceToNat, ↓reduceIte, one_ne_zero_, zero_ne_one_, px_in32L, cd_2, (isE_lay ha).1, (isE_lay hb).1]
  refine sp_pathBehind ha la ?_
  simp only [px_go, px_Q0_at, px_sx_0, px_sx_s, px_cl, px_step, ↓px_ll, px_lg, f4_, ↓px_r1, ↓px_r2, ↓px_r4, ↓px_r5, ↓px_p1, ↓px_p2, ↓px_p3, ↓px_pop, px_k_0, px_k_s, px_k3_0, px_stk_, px_cats, px_ent, px_st1, px_st2, px_mask, ↓px_tsw, ↓px_lsw, ct_, mls_0, mls_1, mls_2, mls_3, mls_4, mls_5, kd_0, kd_1, kd_2, kd_3, ln_0, ln_1, ln_2, ln_3, gf_0, gf_1, gf_2, gf_3, gf_4, gf_7, gf_21, gf_63, dy_0, dy_1, dy_2, dy_3, dy_7, dy_21, px_brT, px_brF, true_and, and_true, and_false, false_and, and_self, true_implies, false_implies, or_true, true_or, or_false, false_or, eq_self, ne_eq, not_false_eq_true, not_true_eq_false, if_true, if_false, List.mem_cons, List.not_mem_nil, List.length_cons, List.length_nil, Nat.reduceEqDiff, Nat.reduceAdd, Nat.reduceSub, Nat.reduceLeDiff, Nat.reduceLT, Int.reduceEq, Int.reduceLT, Int.reduceLE, Int.reduceNeg, Int.reduceAdd, Int.reduceSub, Int.reduceToNat, ↓reduceIte, one_ne_zero_, zero_ne_one_, px_in32L, cd_2, (isE_lay ha).1, (isE_lay hb).1]
  refine sp_pathBehind hb lb ?_
  simp only [px_go, px_Q0_at, px_sx_0, px_sx_s, px_cl, px_step, ↓px_ll, px_lg, f4_, ↓px_r1, ↓px_r2, ↓px_r4, ↓px_r5, ↓px_p1, ↓px_p2, ↓px_p3, ↓px_pop, px_k_0, px_k_s, px_k3_0, px_stk_, px_cats, px_ent, px_st1, px_st2, px_mask, ↓px_tsw, ↓px_lsw, ct_, mls_0, mls_1, mls_2, mls_3, mls_4, mls_5, kd_0, kd_1, kd_2, kd_3, ln_0, ln_1, ln_2, ln_3, gf_0, gf_1, gf_2, gf_3, gf_4, gf_7, gf_21, gf_63, dy_0, dy_1, dy_2, dy_3, dy_7, dy_21, px_brT, px_brF, true_and, and_true, and_false, false_and, and_self, true_implies, false_implies, or_true, true_or, or_false, false_or, eq_self, ne_eq, not_false_eq_true, not_true_eq_false, if_true, if_false, List.mem_cons, List.not_mem_nil, List.length_cons, List.length_nil, Nat.reduceEqDiff, Nat.reduceAdd, Nat.reduceSub, Nat.reduceLeDiff, Nat.reduceLT, Int.reduceEq, Int.reduceLT, Int.reduceLE, Int.reduceNeg, Int.reduceAdd, Int.reduceSub, Int.reduceToNat, ↓reduceIte, one_ne_zero_, zero_ne_one_, px_in32L, cd_2]
  exact h
set_option maxHeartbeats 600000 in
set_option maxRecDepth 100000 in
theorem lp_compare {M0 : px_mem} {ea eb : Int} {pa pb : Int → List Int} (h3 : t2 M0 ea eb pa pb) (h : ∀ M' U, isU (uL2 M0 ea eb pa pb) U → hC M' (chf (cAt M0 ea pa) (cAt M0 eb pb) (pAt M0 ea pa) (pAt M0 eb pb) U) → U.length ≤ 24 → (∀ b, b ≠ 121 → b ≠ 122 → b ≠ 123 → b ≠ 124 → M' b = M0 b) → Q none M') (st : Int) (hk_st : st ≤ 24) : ∀ (M : px_mem) (U : List (List Int)) (c : Int), 0 ≤ st → (U.length : Int) = st → (0 ≤ c ∧ c ≤ 1152921504606846976) → (U.Pairwise (fun a b => enc a < enc b) ∧ ∀ p, p ∈ U ↔ (uL2 M0 ea eb pa pb p ∧ enc p < c)) → hC M (chf (cAt M0 ea pa) (cAt M0 eb pb) (pAt M0 ea pa) (pAt M0 eb pb) U) → st ≤ cnt2 M0 ea eb c → (c < 1152921504606846976 → ∃ p, uL2 M0 ea eb pa pb p ∧ enc p = c ∧ okp p) → (∀ b, b ≠ 121 → b ≠ 122 → b ≠ 123 → b ≠ 124 → M b = M0 b) → px_WP 1 0 0 (px_Q0 LAY Q) 15 [(2, 121), (2, ea), (2, eb), (1, c), (9, 0), (0, st)] [] LAY M 0 0 := by
  refine up_ind (P := fun st => ∀ (M : px_mem) (U : List (List Int)) (c : Int), 0 ≤ st → (U.length : Int) = st → (0 ≤ c ∧ c ≤ 1152921504606846976) → (U.Pairwise (fun a b => enc a < enc b) ∧ ∀ p, p ∈ U ↔ (uL2 M0 ea eb pa pb p ∧ enc p < c)) → hC M (chf (cAt M0 ea pa) (cAt M0 eb pb) (pAt M0 ea pa) (pAt M0 eb pb) U) → st ≤ cnt2 M0 ea eb c → (c < 1152921504606846976 → ∃ p, uL2 M0 ea eb pa pb p ∧ enc p = c ∧ okp p) → (∀ b, b ≠ 121 → b ≠ 122 → b ≠ 123 → b ≠ 124 → M b = M0 b) → px_WP 1 0 0 (px_Q0 LAY Q) 15 [(2, 121), (2, ea), (2, eb), (1, c), (9, 0), (0, st)] [] LAY M 0 0) (24) (fun st hk_st ih => ?_) st hk_st
  intro M U c s0 hlen hcb hU hD hcnt hcc hfr
  have hlc := (lcmp_lt c 1152921504606846976).2.2.1
  have h3' := h3
  obtain ⟨⟨ha, hb⟩, ⟨la, lb⟩, _⟩ := h3'
  have hstep : c < 1152921504606846976 → st < 24 := fun q => by
    obtain ⟨p, p1, p2, p3⟩ := hcc q
    have := cnt2_step h3 p1 p2 (show c < c + 1 by omega); omega
  have hdone : c = 1152921504606846976 → Q none M := fun e => by
    refine h M U ⟨hU.1, fun p => ?_⟩ hD (by omega) hfr
    rw [hU.2 p]
    refine ⟨fun q => q.1, fun q => ⟨q, ?_⟩⟩
    have := enc_rng p; omega
  refine px_go_ok (inl := []) 60 ?_
  simp only [px_go, px_Q0_at, px_sx_0, px_sx_s, px_cl, px_step, ↓px_ll, px_lg, f4_, ↓px_r1, ↓px_r2, ↓px_r4, ↓px_r5, ↓px_p1, ↓px_p2, ↓px_p3, ↓px_pop, px_k_0, px_k_s, px_k3_0, px_stk_, px_cats, px_ent, px_st1, px_st2, px_mask, ↓px_tsw, ↓px_lsw, ct_, mls_0, mls_1, mls_2, mls_3, mls_4, mls_5, kd_0, kd_1, kd_2, kd_3, ln_0, ln_1, ln_2, ln_3, gf_0, gf_1, gf_2, gf_3, gf_4, gf_7, gf_21, gf_63, dy_0, dy_1, dy_2, dy_3, dy_7, dy_21, px_brT, px_brF, true_and, and_true, and_false, false_and, and_self, true_implies, false_implies, or_true, true_or, or_false, false_or, eq_self, ne_eq, not_false_eq_true, not_true_eq_false, if_true, if_false, List.mem_cons, List.not_mem_nil, List.length_cons, List.length_nil, Nat.reduceEqDiff, Nat.reduceAdd, Nat.reduceSub, Nat.reduceLeDiff, Nat.reduceLT, Int.reduceEq, Int.reduceLT, Int.reduceLE, Int.reduceNeg, Int.reduceAdd, Int.reduceSub, Int.reduceToNat, ↓reduceIte, one_ne_zero_, zero_ne_one_, px_in32L, cd_1, (isE_lay ha).1, (isE_lay hb).1]
  repeat' (first | (with_reducible apply And.intro) | (with_reducible refine px_br_intro (fun _ => ?_) (fun _ => ?_)))
  all_goals (try (first | (unfold px_in32; omega) | omega))
  · rename_i c1
    exact hdone (by
      rcases (by omega : c = 1152921504606846976 ∨ c < 1152921504606846976) with q | q
      · exact q
      · have := hstep q; omega)
  · rename_i c1 c2
    exact hdone (by have := hlc.mp c2; omega)
  · rename_i c1 c2
    have hlt : c < 1152921504606846976 := by
      rcases Int.lt_or_le c 1152921504606846976 with q | q
      · exact q
      · exact absurd (hlc.mpr q) c2
    obtain ⟨p, p1, p2, p3⟩ := hcc hlt
    have fo : ∀ e, isE e → M e = M0 e ∧ M (e + 1) = M0 (e + 1) ∧ M (e + 2) = M0 (e + 2) := fun e he => by
      have := isE_m he
      exact ⟨hfr _ (by omega) (by omega) (by omega) (by omega), hfr _ (by omega) (by omega) (by omega) (by omega), hfr _ (by omega) (by omega) (by omega) (by omega)⟩
    have la' := lsC_frame la (fo _ ha).1 (fo _ ha).2.1 (fo _ ha).2.2
    have lb' := lsC_frame lb (fo _ hb).1 (fo _ hb).2.1 (fo _ hb).2.2
    have jr := chf_len (cAt M0 ea pa) (cAt M0 eb pb) (pAt M0 ea pa) (pAt M0 eb pb) U
    have ec : cAt M ea pa = cAt M0 ea pa := funext (fun p => cAt_frame (fo _ ha).1 (fo _ ha).2.2 p)
    have ec2 : cAt M eb pb = cAt M0 eb pb := funext (fun p => cAt_frame (fo _ hb).1 (fo _ hb).2.2 p)
    have ep : pAt M ea pa = pAt M0 ea pa := funext (fun p => pAt_frame (fo _ ha).1 p)
    have ep2 : pAt M eb pb = pAt M0 eb pb := funext (fun p => pAt_frame (fo _ hb).1 p)
    rw [← p2]
    refine sp_note ha hb la' lb' p3 hD (by omega) (fun M' q1 q3 q4 => ?_)
    rw [ec, ec2, ep, ep2, ← chf_snoc] at q1
    · have g4 : ∀ b, b ≠ 121 → b ≠ 122 → b ≠ 123 → b ≠ 124 → M' b = M0 b := fun b b0 b1 b2 b3 => by rw [q4 b b0 b1 b2 b3]; exact hfr b b0 b1 b2 b3
      have fo2 : ∀ e, isE e → M' e = M0 e ∧ M' (e + 1) = M0 (e + 1) := fun e he => by
        have := isE_m he
        exact ⟨g4 _ (by omega) (by omega) (by omega) (by omega), g4 _ (by omega) (by omega) (by omega) (by omega)⟩
      simp only [px_go, px_Q0_at, px_sx_0, px_sx_s, px_cl, px_step, ↓px_ll, px_lg, f4_, ↓px_r1, ↓px_r2, ↓px_r4, ↓px_r5, ↓px_p1, ↓px_p2, ↓px_p3, ↓px_pop, px_k_0, px_k_s, px_k3_0, px_stk_, px_cats, px_ent, px_st1, px_st2, px_mask, ↓px_tsw, ↓px_lsw, ct_, mls_0, mls_1, mls_2, mls_3, mls_4, mls_5, kd_0, kd_1, kd_2, kd_3, ln_0, ln_1, ln_2, ln_3, gf_0, gf_1, gf_2, gf_3, gf_4, gf_7, gf_21, gf_63, dy_0, dy_1, dy_2, dy_3, dy_7, dy_21, px_brT, px_brF, true_and, and_true, and_false, false_and, and_self, true_implies, false_implies, or_true, true_or, or_false, false_or, eq_self, ne_eq, not_false_eq_true, not_true_eq_false, if_true, if_false, List.mem_cons, List.not_mem_nil, List.length_cons, List.length_nil, Nat.reduceEqDiff, Nat.reduceAdd, Nat.reduceSub, Nat.reduceLeDiff, Nat.reduceLT, Int.reduceEq, Int.reduceLT, Int.reduceLE, Int.reduceNeg, Int.reduceAdd, Int.reduceSub, Int.reduceToNat, ↓reduceIte, one_ne_zero_, zero_ne_one_, px_in32L, cd_1]
      refine sp_next2 ha hb (by rw [(fo2 _ ha).1]; exact ⟨la.1, la.2.1⟩) (by rw [(fo2 _ hb).1]; exact ⟨lb.1, lb.2.1⟩) ?_
      rw [nxt_frame (fo2 _ ha).1 (fo2 _ ha).2, nxt_frame (fo2 _ hb).1 (fo2 _ hb).2]
      obtain ⟨d, d1, d2, d3, d4, d5⟩ := next2_spec h3 (c := enc p) (by omega)
      rw [← d1]
      simp only [px_go, px_Q0_at, px_sx_0, px_sx_s, px_cl, px_step, ↓px_ll, px_lg, f4_, ↓px_r1, ↓px_r2, ↓px_r4, ↓px_r5, ↓px_p1, ↓px_p2, ↓px_p3, ↓px_pop, px_k_0, px_k_s, px_k3_0, px_stk_, px_cats, px_ent, px_st1, px_st2, px_mask, ↓px_tsw, ↓px_lsw, ct_, mls_0, mls_1, mls_2, mls_3, mls_4, mls_5, kd_0, kd_1, kd_2, kd_3, ln_0, ln_1, ln_2, ln_3, gf_0, gf_1, gf_2, gf_3, gf_4, gf_7, gf_21, gf_63, dy_0, dy_1, dy_2, dy_3, dy_7, dy_21, px_brT, px_brF, true_and, and_true, and_false, false_and, and_self, true_implies, false_implies, or_true, true_or, or_false, false_or, eq_self, ne_eq, not_false_eq_true, not_true_eq_false, if_true, if_false, List.mem_cons, List.not_mem_nil, List.length_cons, List.length_nil, Nat.reduceEqDiff, Nat.reduceAdd, Nat.reduceSub, Nat.reduceLeDiff, Nat.reduceLT, Int.reduceEq, Int.reduceLT, Int.reduceLE, Int.reduceNeg, Int.reduceAdd, Int.reduceSub, Int.reduceToNat, ↓reduceIte, one_ne_zero_, zero_ne_one_, px_in32L, cd_1]
      repeat' (first | (with_reducible apply And.intro) | (with_reducible refine px_br_intro (fun _ => ?_) (fun _ => ?_)))
      all_goals (try (first | (unfold px_in32; omega) | omega))
      have hcs := cnt2_step h3 p1 p2 (show c < d by omega)
      refine ih (by omega) M' (U ++ [p]) d (by omega) (by rw [List.length_append, List.length_cons, List.length_nil]; omega) (by omega) ⟨?_, fun q => ?_⟩ q1 (by omega) d5 g4
      · rw [List.pairwise_append]
        refine ⟨hU.1, by simp, fun a ha2 b hb2 => ?_⟩
        simp only [List.mem_cons, List.not_mem_nil, or_false] at hb2
        have := ((hU.2 a).mp ha2).2
        rw [hb2]; omega
      · rw [List.mem_append, hU.2 q]
        simp only [List.mem_cons, List.not_mem_nil, or_false]
        constructor
        · rintro (⟨a, b⟩ | a)
          · exact ⟨a, by omega⟩
          · rw [a]; exact ⟨p1, by omega⟩
        · rintro ⟨a, b⟩
          rcases (by omega : enc q < c ∨ enc q = c ∨ c < enc q) with r | r | r
          · exact Or.inl ⟨a, r⟩
          · right
            have := uL2_ok h3 a
            exact enc_inj this.1 p3.1 this.2 p3.2 (by omega)
          · have := d4 q a (by omega); omega
set_option maxHeartbeats 600000 in
set_option maxRecDepth 100000 in
theorem sp_compare {ea eb : Int} {pa pb : Int → List Int} (h3 : t2 M ea eb pa pb) (hne : ∀ p, uL2 M ea eb pa pb p → p ≠ []) (h : ∀ M' U, isU (uL2 M ea eb pa pb) U → hC M' (chf (cAt M ea pa) (cAt M eb pb) (pAt M ea pa) (pAt M eb pb) U) → U.length ≤ 24 → (∀ b, b ≠ 121 → b ≠ 122 → b ≠ 123 → b ≠ 124 → M' b = M b) → Q none M') : px_Ok 1 [(2, 121), (2, ea), (2, eb)] LAY M Q := by
  have h3' := h3
  obtain ⟨⟨ha, hb⟩, ⟨la, lb⟩, _⟩ := h3'
  have fo : ∀ e, isE e → px_up M 121 3 0 e = M e ∧ px_up M 121 3 0 (e + 1) = M (e + 1) := fun e he => by
    have := isE_m he
    exact ⟨row_ne (by omega), row_ne (by omega)⟩
  refine px_ok_go (inl := []) (ls0 := [(2, 121), (2, ea), (2, eb), (9, 0), (9, 0), (9, 0)]) 60 (by decide) (Nat.le_of_ble_eq_true rfl) rfl ?_
  simp only [px_go, px_Q0_at, px_sx_0, px_sx_s, px_cl, px_step, ↓px_ll, px_lg, f4_, ↓px_r1, ↓px_r2, ↓px_r4, ↓px_r5, ↓px_p1, ↓px_p2, ↓px_p3, ↓px_pop, px_k_0, px_k_s, px_k3_0, px_stk_, px_cats, px_ent, px_st1, px_st2, px_mask, ↓px_tsw, ↓px_lsw, ct_, mls_0, mls_1, mls_2, mls_3, mls_4, mls_5, kd_0, kd_1, kd_2, kd_3, ln_0, ln_1, ln_2, ln_3, gf_0, gf_1, gf_2, gf_3, gf_4, gf_7, gf_21, gf_63, dy_0, dy_1, dy_2, dy_3, dy_7, dy_21, px_brT, px_brF, true_and, and_true, and_false, false_and, and_self, true_implies, false_implies, or_true, true_or, or_false, false_or, eq_self, ne_eq, not_false_eq_true, not_true_eq_false, if_true, if_false, List.mem_cons, List.not_mem_nil, List.length_cons, List.length_nil, Nat.reduceEqDiff, Nat.reduceAdd, Nat.reduceSub, Nat.reduceLeDiff, Nat.reduceLT, Int.reduceEq, Int.reduceLT, Int.reduceLE, Int.reduceNeg, Int.reduceAdd, Int.reduceSub, Int.reduceToNat, ↓reduceIte, one_ne_zero_, zero_ne_one_, px_in32L, cd_1]
  repeat' (first | (with_reducible apply And.intro) | (with_reducible refine px_br_intro (fun _ => ?_) (fun _ => ?_)))
  all_goals (try (first | (unfold px_in32; omega) | omega))
  refine sp_next2 ha hb (by rw [(fo _ ha).1]; exact ⟨la.1, la.2.1⟩) (by rw [(fo _ hb).1]; exact ⟨lb.1, lb.2.1⟩) ?_
  rw [nxt_frame (fo _ ha).1 (fo _ ha).2, nxt_frame (fo _ hb).1 (fo _ hb).2]
  obtain ⟨d, d1, d2, d3, d4, d5⟩ := next2_spec h3 (c := 0) (by decide)
  rw [← d1]
  simp only [px_go, px_Q0_at, px_sx_0, px_sx_s, px_cl, px_step, ↓px_ll, px_lg, f4_, ↓px_r1, ↓px_r2, ↓px_r4, ↓px_r5, ↓px_p1, ↓px_p2, ↓px_p3, ↓px_pop, px_k_0, px_k_s, px_k3_0, px_stk_, px_cats, px_ent, px_st1, px_st2, px_mask, ↓px_tsw, ↓px_lsw, ct_, mls_0, mls_1, mls_2, mls_3, mls_4, mls_5, kd_0, kd_1, kd_2, kd_3, ln_0, ln_1, ln_2, ln_3, gf_0, gf_1, gf_2, gf_3, gf_4, gf_7, gf_21, gf_63, dy_0, dy_1, dy_2, dy_3, dy_7, dy_21, px_brT, px_brF, true_and, and_true, and_false, false_and, and_self, true_implies, false_implies, or_true, true_or, or_false, false_or, eq_self, ne_eq, not_false_eq_true, not_true_eq_false, if_true, if_false, List.mem_cons, List.not_mem_nil, List.length_cons, List.length_nil, Nat.reduceEqDiff, Nat.reduceAdd, Nat.reduceSub, Nat.reduceLeDiff, Nat.reduceLT, Int.reduceEq, Int.reduceLT, Int.reduceLE, Int.reduceNeg, Int.reduceAdd, Int.reduceSub, Int.reduceToNat, ↓reduceIte, one_ne_zero_, zero_ne_one_, px_in32L, cd_1]
  refine lp_compare (M0 := M) h3 h 0 (by decide) _ [] d (Int.le_refl 0) rfl (by omega) ⟨List.Pairwise.nil, fun p => ?_⟩ ⟨by rw [px_up_at, if_pos ⟨rfl, rfl⟩]; rfl, fun i x hx => by simp [chf] at hx⟩ ?_ d5 (fun b b0 _ _ _ => row_ne b0)
  · refine ⟨fun q => absurd q (by simp), fun q => ?_⟩
    have hok := uL2_ok h3 q.1
    have hr := enc_rng p
    have h0 := enc_0 hok.1 hok.2
    have hn := hne p q.1
    by_cases z : enc p = 0
    · exact absurd (h0.mp z) hn
    · have := d4 p q.1 (by omega); omega
  · have r2 := cE_rng (M := M) (e := ea) (c := d) la.1
    have r3 := cE_rng (M := M) (e := eb) (c := d) lb.1
    unfold cnt2; omega
set_option maxHeartbeats 600000 in
set_option maxRecDepth 100000 in
theorem lp_movedFrom {ea eb c : Int} {pa pb : Int → List Int} (ha : isE ea) (hb : isE eb) (la : lsC M ea pa) (lb : lsC M eb pb) (h : Q (some (0, idx (M ea 2) (fun i => M (ea + 2) i = c ∧ pAt M eb pb (pa i) < 0))) M) (k : Int) (hk_k : k ≤ M ea 2) : 0 ≤ k → (∀ i, 0 ≤ i → i < k → ¬ (M (ea + 2) i = c ∧ pAt M eb pb (pa i) < 0)) → px_WP 4 0 0 (px_Q0 LAY Q) 28 [(9, 0), (9, 0), (2, ea), (2, eb), (0, c), (0, k)] [] LAY M 0 0 := by
  refine up_ind (P := fun k => 0 ≤ k → (∀ i, 0 ≤ i → i < k → ¬ (M (ea + 2) i = c ∧ pAt M eb pb (pa i) < 0)) → px_WP 4 0 0 (px_Q0 LAY Q) 28 [(9, 0), (9, 0), (2, ea), (2, eb), (0, c), (0, k)] [] LAY M 0 0) (M ea 2) (fun k hk_k ih => ?_) k hk_k
  intro k0 hl
  have hela := isE_lay ha
  have hega := isE_gf ha
  have hln := la.2.1
  have hnx : ¬ (M (ea + 2) k = c ∧ pAt M eb pb (pa k) < 0) → ∀ i, 0 ≤ i → i < k + 1 → ¬ (M (ea + 2) i = c ∧ pAt M eb pb (pa i) < 0) := fun z i i0 i1 => by
    by_cases e : i = k
    · rw [e]; exact z
    · exact hl i i0 (by omega)
  refine px_go_ok (inl := []) 60 ?_
  simp only [px_go, px_Q0_at, px_sx_0, px_sx_s, px_cl, px_step, ↓px_ll, px_lg, f4_, ↓px_r1, ↓px_r2, ↓px_r4, ↓px_r5, ↓px_p1, ↓px_p2, ↓px_p3, ↓px_pop, px_k_0, px_k_s, px_k3_0, px_stk_, px_cats, px_ent, px_st1, px_st2, px_mask, ↓px_tsw, ↓px_lsw, ct_, mls_0, mls_1, mls_2, mls_3, mls_4, mls_5, kd_0, kd_1, kd_2, kd_3, ln_0, ln_1, ln_2, ln_3, gf_0, gf_1, gf_2, gf_3, gf_4, gf_7, gf_21, gf_63, dy_0, dy_1, dy_2, dy_3, dy_7, dy_21, px_brT, px_brF, true_and, and_true, and_false, false_and, and_self, true_implies, false_implies, or_true, true_or, or_false, false_or, eq_self, ne_eq, not_false_eq_true, not_true_eq_false, if_true, if_false, List.mem_cons, List.not_mem_nil, List.length_cons, List.length_nil, Nat.reduceEqDiff, Nat.reduceAdd, Nat.reduceSub, Nat.reduceLeDiff, Nat.reduceLT, Int.reduceEq, Int.reduceLT, Int.reduceLE, Int.reduceNeg, Int.reduceAdd, Int.reduceSub, Int.reduceToNat, ↓reduceIte, one_ne_zero_, zero_ne_one_, px_in32L, cd_4, hela, hega, (isE_lay hb).1]
  repeat' (first | (with_reducible apply And.intro) | (with_reducible refine px_br_intro (fun _ => ?_) (fun _ => ?_)))
  all_goals (try (first | (unfold px_in32; omega) | omega))
  · rename_i c1
    rw [idx_miss (fun j j0 j1 => hl j j0 (by omega))] at h; exact h
  · rename_i c1 c2
    have hj := la.2.2 k k0 (by omega)
    rw [hj.2.1]
    refine sp_ePlaceOf hb lb hj.1 ?_
    simp only [px_go, px_Q0_at, px_sx_0, px_sx_s, px_cl, px_step, ↓px_ll, px_lg, f4_, ↓px_r1, ↓px_r2, ↓px_r4, ↓px_r5, ↓px_p1, ↓px_p2, ↓px_p3, ↓px_pop, px_k_0, px_k_s, px_k3_0, px_stk_, px_cats, px_ent, px_st1, px_st2, px_mask, ↓px_tsw, ↓px_lsw, ct_, mls_0, mls_1, mls_2, mls_3, mls_4, mls_5, kd_0, kd_1, kd_2, kd_3, ln_0, ln_1, ln_2, ln_3, gf_0, gf_1, gf_2, gf_3, gf_4, gf_7, gf_21, gf_63, dy_0, dy_1, dy_2, dy_3, dy_7, dy_21, px_brT, px_brF, true_and, and_true, and_false, false_and, and_self, true_implies, false_implies, or_true, true_or, or_false, false_or, eq_self, ne_eq, not_false_eq_true, not_true_eq_false, if_true, if_false, List.mem_cons, List.not_mem_nil, List.length_cons, List.length_nil, Nat.reduceEqDiff, Nat.reduceAdd, Nat.reduceSub, Nat.reduceLeDiff, Nat.reduceLT, Int.reduceEq, Int.reduceLT, Int.reduceLE, Int.reduceNeg, Int.reduceAdd, Int.reduceSub, Int.reduceToNat, ↓reduceIte, one_ne_zero_, zero_ne_one_, px_in32L, cd_4]
    repeat' (first | (with_reducible apply And.intro) | (with_reducible refine px_br_intro (fun _ => ?_) (fun _ => ?_)))
    all_goals (try (first | (unfold px_in32; omega) | omega))
    · rename_i c3
      exact ih (by omega) (by omega) (hnx (fun z => by have := z.2; unfold pAt at this; omega))
    · rename_i c3
      rw [idx_hit k0 (by omega) ⟨c2, by unfold pAt; omega⟩ hl] at h; exact h
  · rename_i c1 c2
    exact ih (by omega) (by omega) (hnx (fun z => c2 z.1))
set_option maxHeartbeats 600000 in
set_option maxRecDepth 100000 in
theorem sp_movedFrom {ea eb k : Int} {pa pb : Int → List Int} (ha : isE ea) (hb : isE eb) (la : lsC M ea pa) (lb : lsC M eb pb) (hk : 0 ≤ k ∧ k < 24) (hj : M 122 k = 0 → 0 ≤ M 124 k ∧ M 124 k < M eb 2) (h1 : M 122 k ≠ 0 → Q (some (0, -2)) M) (h : M 122 k = 0 → Q (some (0, idx (M ea 2) (fun i => M (ea + 2) i = M (eb + 2) (M 124 k) ∧ pAt M eb pb (pa i) < 0))) M) : px_Ok 4 [(2, 121), (0, k), (2, ea), (2, eb)] LAY M Q := by
  have helb := isE_lay hb
  have hegb := isE_gf hb
  have hln := lb.2.1
  refine px_ok_go (inl := []) (ls0 := [(2, 121), (0, k), (2, ea), (2, eb), (9, 0), (9, 0)]) 60 (by decide) (Nat.le_of_ble_eq_true rfl) rfl ?_
  simp only [px_go, px_Q0_at, px_sx_0, px_sx_s, px_cl, px_step, ↓px_ll, px_lg, f4_, ↓px_r1, ↓px_r2, ↓px_r4, ↓px_r5, ↓px_p1, ↓px_p2, ↓px_p3, ↓px_pop, px_k_0, px_k_s, px_k3_0, px_stk_, px_cats, px_ent, px_st1, px_st2, px_mask, ↓px_tsw, ↓px_lsw, ct_, mls_0, mls_1, mls_2, mls_3, mls_4, mls_5, kd_0, kd_1, kd_2, kd_3, ln_0, ln_1, ln_2, ln_3, gf_0, gf_1, gf_2, gf_3, gf_4, gf_7, gf_21, gf_63, dy_0, dy_1, dy_2, dy_3, dy_7, dy_21, px_brT, px_brF, true_and, and_true, and_false, false_and, and_self, true_implies, false_implies, or_true, true_or, or_false, false_or, eq_self, ne_eq, not_false_eq_true, not_true_eq_false, if_true, if_false, List.mem_cons, List.not_mem_nil, List.length_cons, List.length_nil, Nat.reduceEqDiff, Nat.reduceAdd, Nat.reduceSub, Nat.reduceLeDiff, Nat.reduceLT, Int.reduceEq, Int.reduceLT, Int.reduceLE, Int.reduceNeg, Int.reduceAdd, Int.reduceSub, Int.reduceToNat, ↓reduceIte, one_ne_zero_, zero_ne_one_, px_in32L, cd_4, helb, hegb]
  repeat' (first | (with_reducible apply And.intro) | (with_reducible refine px_br_intro (fun _ => ?_) (fun _ => ?_)))
  all_goals (try (first | (unfold px_in32; omega) | omega))
  · rename_i c1
    exact lp_movedFrom ha hb la lb (h c1) 0 la.1 (Int.le_refl 0) (fun i i0 i1 => by omega)
  · rename_i c1
    exact h1 c1
end PS
