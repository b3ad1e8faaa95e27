set_option maxRecDepth 100000 in
/-- X12_movedFrom -/
theorem cd_296 : px_at 296 0 = some (1, [], .iconst 0, []) ∧ px_at 296 1 = some (3, [], .istore 4, []) ∧ px_at 296 3 = some (5, [1, 1, 1, 1, 1], .iload 4, []) ∧ px_at 296 5 = some (6, [], .aload_n 0, []) ∧ px_at 296 6 = some (7, [], .iload_n 1, []) ∧ px_at 296 7 = some (10, [], .invokevirtual 180, [206, 1, 11, 253]) ∧ px_at 296 10 = some (13, [], .if_icmp .ge 44, [54]) ∧ px_at 296 13 = some (14, [], .aload_n 0, []) ∧ px_at 296 14 = some (15, [], .iload_n 1, []) ∧ px_at 296 15 = some (17, [], .iload 4, []) ∧ px_at 296 17 = some (20, [], .invokevirtual 187, [207, 2, 11, 256]) ∧ px_at 296 20 = some (21, [], .iload_n 3, []) ∧ px_at 296 21 = some (24, [], .if_icmp .ne 27, [48]) ∧ px_at 296 24 = some (25, [], .aload_n 0, []) ∧ px_at 296 25 = some (26, [], .iload_n 2, []) ∧ px_at 296 26 = some (27, [], .aload_n 0, []) ∧ px_at 296 27 = some (30, [], .getfield 7, [11, 0, 2, 1, 125]) ∧ px_at 296 30 = some (31, [], .aload_n 0, []) ∧ px_at 296 31 = some (32, [], .iload_n 1, []) ∧ px_at 296 32 = some (34, [], .iload 4, []) ∧ px_at 296 34 = some (37, [], .invokevirtual 177, [205, 2, 11, 254]) ∧ px_at 296 37 = some (40, [], .invokevirtual 404, [209, 3, 11, 344]) ∧ px_at 296 40 = some (42, [], .bipush (-2), []) ∧ px_at 296 42 = some (45, [], .if_icmp .ne 6, [48]) ∧ px_at 296 45 = some (47, [], .iload 4, []) ∧ px_at 296 47 = some (48, [], .ireturn, [0]) ∧ px_at 296 48 = some (51, [], .iinc 4 1, []) ∧ px_at 296 51 = some (54, [], .goto (-48), [3]) ∧ px_at 296 54 = some (56, [], .bipush (-2), []) ∧ px_at 296 56 = some (57, [], .ireturn, [0]) := ⟨rfl, rfl, rfl, rfl, rfl, rfl, rfl, rfl, rfl, rfl, rfl, rfl, rfl, rfl, rfl, rfl, rfl, rfl, rfl, rfl, rfl, rfl, rfl, rfl, rfl, rfl, rfl, rfl, rfl, rfl⟩
set_option maxRecDepth 100000 in
/-- X12_toldChange -/
theorem cd_297 : px_at 297 0 = some (2, [], .iload 5, []) ∧ px_at 297 2 = some (28, [], .tableswitch 54 0 2 #[26, 49, 51], [56, 28, 51, 53]) ∧ px_at 297 28 = some (29, [], .iload_n 3, []) ∧ px_at 297 29 = some (31, [], .bipush (-2), []) ∧ px_at 297 31 = some (34, [], .if_icmp .ne 7, [38]) ∧ px_at 297 34 = some (35, [], .iconst 0, []) ∧ px_at 297 35 = some (38, [], .goto 15, [50]) ∧ px_at 297 38 = some (40, [], .iload 4, []) ∧ px_at 297 40 = some (42, [], .bipush (-2), []) ∧ px_at 297 42 = some (45, [], .if_icmp .ne 7, [49]) ∧ px_at 297 45 = some (46, [], .iconst 1, []) ∧ px_at 297 46 = some (49, [], .goto 4, [50]) ∧ px_at 297 49 = some (50, [], .iconst 2, []) ∧ px_at 297 50 = some (51, [], .ireturn, [0]) ∧ px_at 297 51 = some (52, [], .iload_n 3, []) ∧ px_at 297 52 = some (53, [], .ireturn, [0]) ∧ px_at 297 53 = some (55, [], .iload 4, []) ∧ px_at 297 55 = some (56, [], .ireturn, [0]) ∧ px_at 297 56 = some (57, [], .iload_n 3, []) ∧ px_at 297 57 = some (59, [], .bipush (-2), []) ∧ px_at 297 59 = some (62, [], .if_icmp .ne 19, [78]) ∧ px_at 297 62 = some (63, [], .aload_n 0, []) ∧ px_at 297 63 = some (64, [], .iload_n 1, []) ∧ px_at 297 64 = some (65, [], .iload_n 2, []) ∧ px_at 297 65 = some (66, [], .aload_n 0, []) ∧ px_at 297 66 = some (67, [], .iload_n 2, []) ∧ px_at 297 67 = some (69, [], .iload 4, []) ∧ px_at 297 69 = some (72, [], .invokevirtual 187, [207, 2, 11, 256]) ∧ px_at 297 72 = some (75, [], .invokevirtual 414, [296, 3, 11, 352]) ∧ px_at 297 75 = some (78, [], .goto 5, [80]) ∧ px_at 297 78 = some (80, [], .bipush (-2), []) ∧ px_at 297 80 = some (81, [], .ireturn, [0]) := ⟨rfl, rfl, rfl, rfl, rfl, rfl, rfl, rfl, rfl, rfl, rfl, rfl, rfl, rfl, rfl, rfl, rfl, rfl, rfl, rfl, rfl, rfl, rfl, rfl, rfl, rfl, rfl, rfl, rfl, rfl, rfl, rfl⟩
/-! the reference: change -/
/-- so far a list has come along -/
def pfx (n : Int) (pl : Int → List Int) (V : List (List Int)) (i : Int) : Prop := (0 ≤ i ∧ i ≤ n) ∧ ∀ j, 0 ≤ j → j < n → (j < i ↔ pl j ∈ V)
theorem tk_lt {U : List (List Int)} {m : Nat} {P : List Int} (hU : U.Pairwise (fun a b => enc a < enc b)) (hm : U[m]? = some P) : (∀ q ∈ U.take m, enc q < enc P) ∧ (∀ q ∈ U, q ∉ U.take m → enc P ≤ enc q) := by
  have key := List.pairwise_iff_getElem.mp hU
  obtain ⟨m1, m2⟩ := List.getElem?_eq_some_iff.mp hm
  constructor
  · intro q hq
    obtain ⟨t, ht⟩ := List.getElem?_of_mem hq
    rw [List.getElem?_take] at ht
    by_cases c : t < m
    · rw [if_pos c] at ht
      obtain ⟨t1, t2⟩ := List.getElem?_eq_some_iff.mp ht
      have := key t m t1 m1 c
      rw [t2, m2] at this; exact this
    · rw [if_neg c] at ht; cases ht
  · intro q hq hn
    obtain ⟨t, ht⟩ := List.getElem?_of_mem hq
    obtain ⟨t1, t2⟩ := List.getElem?_eq_some_iff.mp ht
    by_cases c : t < m
    · exact absurd (List.mem_of_getElem? (i := t) (by rw [List.getElem?_take, if_pos c]; exact ht)) hn
    · by_cases c2 : t = m
      · subst c2; rw [hm] at ht; injection ht with ht; rw [ht]; exact Int.le_refl _
      · have := key m t m1 t1 (by omega)
        rw [t2, m2] at this; omega
theorem tk_s {U : List (List Int)} {m : Nat} {P : List Int} (hm : U[m]? = some P) : U.take (m + 1) = U.take m ++ [P] := by
  rw [List.take_succ, hm]; rfl
theorem pf_at {n i : Int} {pl : Int → List Int} {U : List (List Int)} {m : Nat} {P : List Int} (hs : ∀ a b, 0 ≤ a → a < b → b < n → enc (pl a) < enc (pl b)) (hU : U.Pairwise (fun a b => enc a < enc b)) (hin : ∀ j, 0 ≤ j → j < n → pl j ∈ U) (hm : U[m]? = some P) (h : pfx n pl (U.take m) i) : (∀ j, 0 ≤ j → j < n → pl j = P → j = i) ∧ (i < n → enc P ≤ enc (pl i)) ∧ (i < n → pl i = P → pfx n pl (U.take (m + 1)) (i + 1)) ∧ (¬ (i < n ∧ pl i = P) → pfx n pl (U.take (m + 1)) i) := by
  have hk := tk_lt hU hm
  have hP : P ∉ U.take m := fun z => by have := hk.1 P z; omega
  have h2 : i < n → enc P ≤ enc (pl i) := fun q => hk.2 _ (hin i h.1.1 q) (fun z => by have := (h.2 i h.1.1 q).mpr z; omega)
  have h1 : ∀ j, 0 ≤ j → j < n → pl j = P → j = i := fun j j0 j1 e => by
    by_cases c : j < i
    · exact absurd (by rw [← e]; exact (h.2 j j0 j1).mp c) hP
    · by_cases c2 : j = i
      · exact c2
      · have := h2 (by omega)
        have := hs i j h.1.1 (by omega) j1
        rw [e] at this; omega
  refine ⟨h1, h2, fun q e => ⟨⟨by have := h.1.1; omega, by omega⟩, fun j j0 j1 => ?_⟩, fun q => ⟨h.1, fun j j0 j1 => ?_⟩⟩
  · rw [tk_s hm, List.mem_append, List.mem_singleton, ← h.2 j j0 j1]
    constructor
    · intro z
      by_cases c : j = i
      · right; rw [c]; exact e
      · left; omega
    · rintro (z | z)
      · omega
      · have := h1 j j0 j1 z; omega
  · rw [tk_s hm, List.mem_append, List.mem_singleton, ← h.2 j j0 j1]
    constructor
    · intro z; exact Or.inl z
    · rintro (z | z)
      · exact z
      · have := h1 j j0 j1 z
        exact absurd ⟨by omega, by rw [← this]; exact z⟩ q
theorem pf_c {M : px_mem} {e i : Int} {pl : Int → List Int} {P : List Int} (i0 : 0 ≤ i) (h : ∀ j, 0 ≤ j → j < M e 2 → pl j = P → j = i) : (i < M e 2 → pl i = P → pAt M e pl P = i ∧ cAt M e pl P = M (e + 2) i) ∧ (¬ (i < M e 2 ∧ pl i = P) → pAt M e pl P = -2 ∧ cAt M e pl P = -2) := by
  constructor
  · intro q z
    have hi : idx (M e 2) (fun j => pl j = P) = i := idx_hit i0 q z (fun j j0 j1 e => by have := h j j0 (by omega) e; omega)
    unfold pAt cAt
    rw [hi, if_neg (by omega)]
    exact ⟨rfl, rfl⟩
  · intro q
    have hi : idx (M e 2) (fun j => pl j = P) = -2 := idx_miss (fun j j0 j1 e => by
      have := h j j0 j1 e
      exact q ⟨by omega, by rw [← this]; exact e⟩)
    unfold pAt cAt
    rw [hi, if_pos (by decide)]
    exact ⟨rfl, rfl⟩
theorem chf_app (ca cb ia ib : List Int → Int) : ∀ (V U : List (List Int)), ∃ W, chf ca cb ia ib (U ++ V) = chf ca cb ia ib U ++ W := by
  intro V
  induction V with
  | nil => intro U; exact ⟨[], by rw [List.append_nil, List.append_nil]⟩
  | cons p V ih =>
    intro U
    obtain ⟨W, hW⟩ := ih (U ++ [p])
    rw [List.append_assoc] at hW
    have hW : chf ca cb ia ib (U ++ p :: V) = chf ca cb ia ib (U ++ [p]) ++ W := hW
    rw [hW, chf_snoc]
    unfold chst
    split
    · exact ⟨W, rfl⟩
    · exact ⟨[_] ++ W, by rw [List.append_assoc]⟩
theorem chf_at {ca cb ia ib : List Int → Int} {U : List (List Int)} {m : Nat} {P : List Int} (hm : U[m]? = some P) (hne : ca P ≠ cb P) : (chf ca cb ia ib U)[(chf ca cb ia ib (U.take m)).length]? = some (chk (ca P) (cb P), ia P, ib P) := by
  obtain ⟨W, hW⟩ := chf_app ca cb ia ib (U.drop (m + 1)) (U.take (m + 1))
  rw [List.take_append_drop] at hW
  rw [hW, tk_s hm, chf_snoc]
  unfold chst
  rw [if_neg hne, List.append_assoc, List.getElem?_append_right (Nat.le_refl _), Nat.sub_self]
  rfl
/-- what the reference tells of a change -/
noncomputable def tdR (M : px_mem) (ea eb : Int) (pa pb : Int → List Int) (i j w : Int) : Int := if w = 0 then (if i = -2 then 0 else if j = -2 then 1 else 2) else if w = 1 then i else if w = 2 then j else if i = -2 then idx (M ea 2) (fun t => M (ea + 2) t = M (eb + 2) j ∧ pAt M eb pb (pa t) < 0) else -2
theorem tdR_chg {M : px_mem} {ea eb x y i j k w : Int} {pa pb : Int → List Int} {D : List cT} (hD : D[k.toNat]? = some (chk x y, i, j)) (k0 : 0 ≤ k) (hi : i = -2 ↔ x < 0) (hj : j = -2 ↔ y < 0) : chgR M ea eb pa pb D k w = tdR M ea eb pa pb i j w := by
  unfold chgR tdR
  rw [if_neg (by omega), hD]
  dsimp only
  have hc0 : chk x y ≠ 0 ↔ ¬ i = -2 := by
    unfold chk
    rw [hi]
    split
    · rename_i c; exact ⟨fun z => absurd rfl z, fun z => absurd c z⟩
    · rename_i c
      refine ⟨fun _ => c, fun _ => ?_⟩
      split <;> decide
  by_cases w0 : w = 0
  · rw [if_pos w0, if_pos w0]
    unfold chk
    by_cases c : x < 0
    · rw [if_pos c, if_pos (hi.mpr c)]
    · rw [if_neg c, if_neg (fun z => c (hi.mp z))]
      by_cases d : y < 0
      · rw [if_pos d, if_pos (hj.mpr d)]
      · rw [if_neg d, if_neg (fun z => d (hj.mp z))]
  · rw [if_neg w0, if_neg w0]
    by_cases w1 : w = 1
    · rw [if_pos w1, if_pos w1]
    · rw [if_neg w1, if_neg w1]
      by_cases w2 : w = 2
      · rw [if_pos w2, if_pos w2]
      · rw [if_neg w2, if_neg w2]
        by_cases c : i = -2
        · rw [if_pos c, if_neg (fun z => hc0.mp z c)]
        · rw [if_neg c, if_pos (hc0.mpr c)]
section PS
variable {M : px_mem} {Q : Option pv → px_mem → Prop}
set_option maxHeartbeats 600000 in
set_option maxRecDepth 100000 in
theorem lp_rmovedFrom {Mc : px_mem} {sa sb c : Int} {pl : Int → Int → List Int} {nm : Int → List Int} (hT : TE Mc pl nm (M 128)) (hsa : 0 ≤ sa ∧ sa < Mc 20 1) (hsb : 0 ≤ sb ∧ sb < Mc 20 1) (h : Q (some (0, idx (Mc (Mc 21 sa) 2) (fun t => Mc (Mc 21 sa + 2) t = c ∧ pAt Mc (Mc 21 sb) (pl sb) (pl sa t) < 0))) M) (i : Int) (hk_i : i ≤ Mc (Mc 21 sa) 2) : 0 ≤ i → (∀ j, 0 ≤ j → j < i → ¬ (Mc (Mc 21 sa + 2) j = c ∧ pAt Mc (Mc 21 sb) (pl sb) (pl sa j) < 0)) → px_WP 296 0 0 (px_Q0 LAY Q) 3 [(2, 127), (0, sa), (0, sb), (0, c), (0, i)] [] LAY M 0 0 := by
  refine up_ind (P := fun i => 0 ≤ i → (∀ j, 0 ≤ j → j < i → ¬ (Mc (Mc 21 sa + 2) j = c ∧ pAt Mc (Mc 21 sb) (pl sb) (pl sa j) < 0)) → px_WP 296 0 0 (px_Q0 LAY Q) 3 [(2, 127), (0, sa), (0, sb), (0, c), (0, i)] [] LAY M 0 0) (Mc (Mc 21 sa) 2) (fun i hk_i ih => ?_) i hk_i
  intro i0 hj
  have hTn := TE_n hT
  have he := TE_e hT hsa.1 hsa.2
  have e17 : M 128 (1294 + 186 * sa + 17) = Mc (Mc 21 sa) 2 := he.2.2.2.2.1
  have hn12 := he.2.2.2.2.2
  have en := fun q => TE_ent hT hsa.1 hsa.2 i0 q
  have hnx : ¬ (Mc (Mc 21 sa + 2) i = c ∧ pAt Mc (Mc 21 sb) (pl sb) (pl sa i) < 0) → ∀ j, 0 ≤ j → j < i + 1 → ¬ (Mc (Mc 21 sa + 2) j = c ∧ pAt Mc (Mc 21 sb) (pl sb) (pl sa j) < 0) := fun z j j0 j1 => by
    by_cases q : j = i
    · rw [q]; exact z
    · exact hj j j0 (by omega)
  refine px_go_ok (inl := [204,205,206,207]) 60 ?_
  simp only [px_go, px_Q0_at, px_sx_0, px_sx_s, px_cl, px_step, ↓px_ll, px_lg, f4_, ↓px_r1, ↓px_r2, ↓px_r4, ↓px_r5, ↓px_p1, ↓px_p2, ↓px_p3, ↓px_pop, px_k_0, px_k_s, px_k3_0, px_stk_, px_cats, px_ent, px_st1, px_st2, px_mask, ↓px_tsw, ↓px_lsw, ct_, mls_0, mls_1, mls_2, mls_3, mls_4, mls_5, kd_0, kd_1, kd_2, kd_3, ln_0, ln_1, ln_2, ln_3, gf_0, gf_1, gf_2, gf_3, gf_4, gf_7, gf_21, gf_63, dy_0, dy_1, dy_2, dy_3, dy_7, dy_21, px_brT, px_brF, true_and, and_true, and_false, false_and, and_self, true_implies, false_implies, or_true, true_or, or_false, false_or, eq_self, ne_eq, not_false_eq_true, not_true_eq_false, if_true, if_false, List.mem_cons, List.not_mem_nil, List.length_cons, List.length_nil, Nat.reduceEqDiff, Nat.reduceAdd, Nat.reduceSub, Nat.reduceLeDiff, Nat.reduceLT, Int.reduceEq, Int.reduceLT, Int.reduceLE, Int.reduceNeg, Int.reduceAdd, Int.reduceSub, Int.reduceToNat, ↓reduceIte, one_ne_zero_, zero_ne_one_, px_in32L, cd_296, cd_204, cd_205, cd_206, cd_207, e17]
  repeat' (first | (with_reducible apply And.intro) | (with_reducible refine px_br_intro (fun _ => ?_) (fun _ => ?_)))
  all_goals (try (first | (unfold px_in32; omega) | omega))
  · rename_i c1
    rw [idx_miss (fun j j0 j1 => hj j j0 (by omega))] at h
    exact h
  · rename_i c1 c2
    have en' := en (by omega)
    have ec : M 128 (1294 + 186 * sa + 18 + 14 * i + 13) = Mc (Mc 21 sa + 2) i := en'.1.2.2
    rw [ec] at c2
    refine sp_placeT hT hsb rfl en'.1.1 en'.1.2.1 (by decide) ?_
    have hsp := idx_spec (Mc (Mc 21 sb) 2) (fun j => pl sb j = pl sa i)
    have hpa : pAt Mc (Mc 21 sb) (pl sb) (pl sa i) = idx (Mc (Mc 21 sb) 2) (fun j => pl sb j = pl sa i) := rfl
    generalize idx (Mc (Mc 21 sb) 2) (fun j => pl sb j = pl sa i) = p at *
    simp only [px_go, px_Q0_at, px_sx_0, px_sx_s, px_cl, px_step, ↓px_ll, px_lg, f4_, ↓px_r1, ↓px_r2, ↓px_r4, ↓px_r5, ↓px_p1, ↓px_p2, ↓px_p3, ↓px_pop, px_k_0, px_k_s, px_k3_0, px_stk_, px_cats, px_ent, px_st1, px_st2, px_mask, ↓px_tsw, ↓px_lsw, ct_, mls_0, mls_1, mls_2, mls_3, mls_4, mls_5, kd_0, kd_1, kd_2, kd_3, ln_0, ln_1, ln_2, ln_3, gf_0, gf_1, gf_2, gf_3, gf_4, gf_7, gf_21, gf_63, dy_0, dy_1, dy_2, dy_3, dy_7, dy_21, px_brT, px_brF, true_and, and_true, and_false, false_and, and_self, true_implies, false_implies, or_true, true_or, or_false, false_or, eq_self, ne_eq, not_false_eq_true, not_true_eq_false, if_true, if_false, List.mem_cons, List.not_mem_nil, List.length_cons, List.length_nil, Nat.reduceEqDiff, Nat.reduceAdd, Nat.reduceSub, Nat.reduceLeDiff, Nat.reduceLT, Int.reduceEq, Int.reduceLT, Int.reduceLE, Int.reduceNeg, Int.reduceAdd, Int.reduceSub, Int.reduceToNat, ↓reduceIte, one_ne_zero_, zero_ne_one_, px_in32L, cd_296, cd_204, cd_205, cd_206, cd_207]
    repeat' (first | (with_reducible apply And.intro) | (with_reducible refine px_br_intro (fun _ => ?_) (fun _ => ?_)))
    all_goals (try (first | (unfold px_in32; omega) | omega))
    · rename_i c3
      rw [idx_hit i0 (by omega) ⟨c2, by omega⟩ hj] at h
      exact h
    · rename_i c3
      exact ih (by omega) (by omega) (hnx (fun z => by have := z.2; omega))
  · rename_i c1 c2
    have ec : M 128 (1294 + 186 * sa + 18 + 14 * i + 13) = Mc (Mc 21 sa + 2) i := (en (by omega)).1.2.2
    rw [ec] at c2
    exact ih (by omega) (by omega) (hnx (fun z => c2 z.1))
set_option maxHeartbeats 600000 in
set_option maxRecDepth 100000 in
theorem sp_rmovedFrom {Mc : px_mem} {sa sb c : Int} {pl : Int → Int → List Int} {nm : Int → List Int} (hT : TE Mc pl nm (M 128)) (hsa : 0 ≤ sa ∧ sa < Mc 20 1) (hsb : 0 ≤ sb ∧ sb < Mc 20 1) (h : Q (some (0, idx (Mc (Mc 21 sa) 2) (fun t => Mc (Mc 21 sa + 2) t = c ∧ pAt Mc (Mc 21 sb) (pl sb) (pl sa t) < 0))) M) : px_Ok 296 [(2, 127), (0, sa), (0, sb), (0, c)] LAY M Q := by
  refine px_ok_go (inl := []) (ls0 := [(2, 127), (0, sa), (0, sb), (0, c), (9, 0)]) 60 (by decide) (Nat.le_of_ble_eq_true rfl) rfl ?_
  simp only [px_go, px_Q0_at, px_sx_0, px_sx_s, px_cl, px_step, ↓px_ll, px_lg, f4_, ↓px_r1, ↓px_r2, ↓px_r4, ↓px_r5, ↓px_p1, ↓px_p2, ↓px_p3, ↓px_pop, px_k_0, px_k_s, px_k3_0, px_stk_, px_cats, px_ent, px_st1, px_st2, px_mask, ↓px_tsw, ↓px_lsw, ct_, mls_0, mls_1, mls_2, mls_3, mls_4, mls_5, kd_0, kd_1, kd_2, kd_3, ln_0, ln_1, ln_2, ln_3, gf_0, gf_1, gf_2, gf_3, gf_4, gf_7, gf_21, gf_63, dy_0, dy_1, dy_2, dy_3, dy_7, dy_21, px_brT, px_brF, true_and, and_true, and_false, false_and, and_self, true_implies, false_implies, or_true, true_or, or_false, false_or, eq_self, ne_eq, not_false_eq_true, not_true_eq_false, if_true, if_false, List.mem_cons, List.not_mem_nil, List.length_cons, List.length_nil, Nat.reduceEqDiff, Nat.reduceAdd, Nat.reduceSub, Nat.reduceLeDiff, Nat.reduceLT, Int.reduceEq, Int.reduceLT, Int.reduceLE, Int.reduceNeg, Int.reduceAdd, Int.reduceSub, Int.reduceToNat, ↓reduceIte, one_ne_zero_, zero_ne_one_, px_in32L, cd_296]
  repeat' (first | (with_reducible apply And.intro) | (with_reducible refine px_br_intro (fun _ => ?_) (fun _ => ?_)))
  all_goals (try (first | (unfold px_in32; omega) | omega))
  exact lp_rmovedFrom hT hsa hsb h 0 (TE_e hT hsa.1 hsa.2).2.2.2.2.2.1 (Int.le_refl 0) (fun j j0 j1 => by omega)
set_option maxHeartbeats 600000 in
set_option maxRecDepth 100000 in
theorem sp_told0 {Mc : px_mem} {sa sb i j : Int} {pl : Int → Int → List Int} (h : Q (some (0, tdR Mc (Mc 21 sa) (Mc 21 sb) (pl sa) (pl sb) i j 0)) M) : px_Ok 297 [(2, 127), (0, sa), (0, sb), (0, i), (0, j), (0, 0)] LAY M Q := by
  refine px_ok_go (inl := []) (ls0 := [(2, 127), (0, sa), (0, sb), (0, i), (0, j), (0, 0)]) 60 (by decide) (Nat.le_of_ble_eq_true rfl) rfl ?_
  simp only [px_go, px_Q0_at, px_sx_0, px_sx_s, px_cl, px_step, ↓px_ll, px_lg, f4_, ↓px_r1, ↓px_r2, ↓px_r4, ↓px_r5, ↓px_p1, ↓px_p2, ↓px_p3, ↓px_pop, px_k_0, px_k_s, px_k3_0, px_stk_, px_cats, px_ent, px_st1, px_st2, px_mask, ↓px_tsw, ↓px_lsw, ct_, mls_0, mls_1, mls_2, mls_3, mls_4, mls_5, kd_0, kd_1, kd_2, kd_3, ln_0, ln_1, ln_2, ln_3, gf_0, gf_1, gf_2, gf_3, gf_4, gf_7, gf_21, gf_63, dy_0, dy_1, dy_2, dy_3, dy_7, dy_21, px_brT, px_brF, true_and, and_true, and_false, false_and, and_self, true_implies, false_implies, or_true, true_or, or_false, false_or, eq_self, ne_eq, not_false_eq_true, not_true_eq_false, if_true, if_false, List.mem_cons, List.not_mem_nil, List.length_cons, List.length_nil, Nat.reduceEqDiff, Nat.reduceAdd, Nat.reduceSub, Nat.reduceLeDiff, Nat.reduceLT, Int.reduceEq, Int.reduceLT, Int.reduceLE, Int.reduceNeg, Int.reduceAdd, Int.reduceSub, Int.reduceToNat, ↓reduceIte, one_ne_zero_, zero_ne_one_, px_in32L, cd_297]
  repeat' (first | (with_reducible apply And.intro) | (with_reducible refine px_br_intro (fun _ => ?_) (fun _ => ?_)))
  all_goals (try (first | (unfold px_in32; omega) | omega))
  all_goals unfold tdR at h
  all_goals rw [if_pos rfl] at h
  · rename_i c1
    rw [if_pos c1] at h; exact h
  · rename_i c1 c2
    rw [if_neg c1, if_pos c2] at h; exact h
  · rename_i c1 c2
    rw [if_neg c1, if_neg c2] at h; exact h
set_option maxHeartbeats 600000 in
set_option maxRecDepth 100000 in
theorem sp_told1 {Mc : px_mem} {sa sb i j : Int} {pl : Int → Int → List Int} (h : Q (some (0, tdR Mc (Mc 21 sa) (Mc 21 sb) (pl sa) (pl sb) i j 1)) M) : px_Ok 297 [(2, 127), (0, sa), (0, sb), (0, i), (0, j), (0, 1)] LAY M Q := by
  refine px_ok_go (inl := []) (ls0 := [(2, 127), (0, sa), (0, sb), (0, i), (0, j), (0, 1)]) 60 (by decide) (Nat.le_of_ble_eq_true rfl) rfl ?_
  simp only [px_go, px_Q0_at, px_sx_0, px_sx_s, px_cl, px_step, ↓px_ll, px_lg, f4_, ↓px_r1, ↓px_r2, ↓px_r4, ↓px_r5, ↓px_p1, ↓px_p2, ↓px_p3, ↓px_pop, px_k_0, px_k_s, px_k3_0, px_stk_, px_cats, px_ent, px_st1, px_st2, px_mask, ↓px_tsw, ↓px_lsw, ct_, mls_0, mls_1, mls_2, mls_3, mls_4, mls_5, kd_0, kd_1, kd_2, kd_3, ln_0, ln_1, ln_2, ln_3, gf_0, gf_1, gf_2, gf_3, gf_4, gf_7, gf_21, gf_63, dy_0, dy_1, dy_2, dy_3, dy_7, dy_21, px_brT, px_brF, true_and, and_true, and_false, false_and, and_self, true_implies, false_implies, or_true, true_or, or_false, false_or, eq_self, ne_eq, not_false_eq_true, not_true_eq_false, if_true, if_false, List.mem_cons, List.not_mem_nil, List.length_cons, List.length_nil, Nat.reduceEqDiff, Nat.reduceAdd, Nat.reduceSub, Nat.reduceLeDiff, Nat.reduceLT, Int.reduceEq, Int.reduceLT, Int.reduceLE, Int.reduceNeg, Int.reduceAdd, Int.reduceSub, Int.reduceToNat, ↓reduceIte, one_ne_zero_, zero_ne_one_, px_in32L, cd_297]
  repeat' (first | (with_reducible apply And.intro) | (with_reducible refine px_br_intro (fun _ => ?_) (fun _ => ?_)))
  all_goals (try (first | (unfold px_in32; omega) | omega))
  unfold tdR at h
  rw [if_neg (by decide), if_pos rfl] at h
  exact h
set_option maxHeartbeats 600000 in
set_option maxRecDepth 100000 in
theorem sp_told2 {Mc : px_mem} {sa sb i j : Int} {pl : Int → Int → List Int} (h : Q (some (0, tdR Mc (Mc 21 sa) (Mc 21 sb) (pl sa) (pl sb) i j 2)) M) : px_Ok 297 [(2, 127), (0, sa), (0, sb), (0, i), (0, j), (0, 2)] LAY M Q := by
  refine px_ok_go (inl := []) (ls0 := [(2, 127), (0, sa), (0, sb), (0, i), (0, j), (0, 2)]) 60 (by decide) (Nat.le_of_ble_eq_true rfl) rfl ?_
  simp only [px_go, px_Q0_at, px_sx_0, px_sx_s, px_cl, px_step, ↓px_ll, px_lg, f4_, ↓px_r1, ↓px_r2, ↓px_r4, ↓px_r5, ↓px_p1, ↓px_p2, ↓px_p3, ↓px_pop, px_k_0, px_k_s, px_k3_0, px_stk_, px_cats, px_ent, px_st1, px_st2, px_mask, ↓px_tsw, ↓px_lsw, ct_, mls_0, mls_1, mls_2, mls_3, mls_4, mls_5, kd_0, kd_1, kd_2, kd_3, ln_0, ln_1, ln_2, ln_3, gf_0, gf_1, gf_2, gf_3, gf_4, gf_7, gf_21, gf_63, dy_0, dy_1, dy_2, dy_3, dy_7, dy_21, px_brT, px_brF, true_and, and_true, and_false, false_and, and_self, true_implies, false_implies, or_true, true_or, or_false, false_or, eq_self, ne_eq, not_false_eq_true, not_true_eq_false, if_true, if_false, List.mem_cons, List.not_mem_nil, List.length_cons, List.length_nil, Nat.reduceEqDiff, Nat.reduceAdd, Nat.reduceSub, Nat.reduceLeDiff, Nat.reduceLT, Int.reduceEq, Int.reduceLT, Int.reduceLE, Int.reduceNeg, Int.reduceAdd, Int.reduceSub, Int.reduceToNat, ↓reduceIte, one_ne_zero_, zero_ne_one_, px_in32L, cd_297]
  repeat' (first | (with_reducible apply And.intro) | (with_reducible refine px_br_intro (fun _ => ?_) (fun _ => ?_)))
  all_goals (try (first | (unfold px_in32; omega) | omega))
  unfold tdR at h
  rw [if_neg (by decide), if_neg (by decide), if_pos rfl] at h
  exact h
set_option maxHeartbeats 600000 in
set_option maxRecDepth 100000 in
theorem sp_told3 {Mc : px_mem} {sa sb i j : Int} {pl : Int → Int → List Int} {nm : Int → List Int} (hT : TE Mc pl nm (M 128)) (hsa : 0 ≤ sa ∧ sa < Mc 20 1) (hsb : 0 ≤ sb ∧ sb < Mc 20 1) (hj : i = -2 → 0 ≤ j ∧ j < Mc (Mc 21 sb) 2) (h : Q (some (0, tdR Mc (Mc 21 sa) (Mc 21 sb) (pl sa) (pl sb) i j 3)) M) : px_Ok 297 [(2, 127), (0, sa), (0, sb), (0, i), (0, j), (0, 3)] LAY M Q := by
  have hTn := TE_n hT
  have hn12 := (TE_e hT hsb.1 hsb.2).2.2.2.2.2
  unfold tdR at h
  rw [if_neg (by decide), if_neg (by decide), if_neg (by decide)] at h
  refine px_ok_go (inl := [204, 205, 207]) (ls0 := [(2, 127), (0, sa), (0, sb), (0, i), (0, j), (0, 3)]) 60 (by decide) (Nat.le_of_ble_eq_true rfl) rfl ?_
  simp only [px_go, px_Q0_at, px_sx_0, px_sx_s, px_cl, px_step, ↓px_ll, px_lg, f4_, ↓px_r1, ↓px_r2, ↓px_r4, ↓px_r5, ↓px_p1, ↓px_p2, ↓px_p3, ↓px_pop, px_k_0, px_k_s, px_k3_0, px_stk_, px_cats, px_ent, px_st1, px_st2, px_mask, ↓px_tsw, ↓px_lsw, ct_, mls_0, mls_1, mls_2, mls_3, mls_4, mls_5, kd_0, kd_1, kd_2, kd_3, ln_0, ln_1, ln_2, ln_3, gf_0, gf_1, gf_2, gf_3, gf_4, gf_7, gf_21, gf_63, dy_0, dy_1, dy_2, dy_3, dy_7, dy_21, px_brT, px_brF, true_and, and_true, and_false, false_and, and_self, true_implies, false_implies, or_true, true_or, or_false, false_or, eq_self, ne_eq, not_false_eq_true, not_true_eq_false, if_true, if_false, List.mem_cons, List.not_mem_nil, List.length_cons, List.length_nil, Nat.reduceEqDiff, Nat.reduceAdd, Nat.reduceSub, Nat.reduceLeDiff, Nat.reduceLT, Int.reduceEq, Int.reduceLT, Int.reduceLE, Int.reduceNeg, Int.reduceAdd, Int.reduceSub, Int.reduceToNat, ↓reduceIte, one_ne_zero_, zero_ne_one_, px_in32L, cd_297, cd_204, cd_205, cd_207]
  repeat' (first | (with_reducible apply And.intro) | (with_reducible refine px_br_intro (fun _ => ?_) (fun _ => ?_)))
  all_goals (try (first | (unfold px_in32; omega) | omega))
  · rename_i c1
    rw [if_pos c1] at h
    have hj := hj c1
    have en := TE_ent hT hsb.1 hsb.2 hj.1 hj.2
    have ec : M 128 (1294 + 186 * sb + 18 + 14 * j + 13) = Mc (Mc 21 sb + 2) j := en.1.2.2
    rw [ec]
    refine sp_rmovedFrom hT hsa hsb ?_
    simp only [px_go, px_Q0_at, px_sx_0, px_sx_s, px_cl, px_step, ↓px_ll, px_lg, f4_, ↓px_r1, ↓px_r2, ↓px_r4, ↓px_r5, ↓px_p1, ↓px_p2, ↓px_p3, ↓px_pop, px_k_0, px_k_s, px_k3_0, px_stk_, px_cats, px_ent, px_st1, px_st2, px_mask, ↓px_tsw, ↓px_lsw, ct_, mls_0, mls_1, mls_2, mls_3, mls_4, mls_5, kd_0, kd_1, kd_2, kd_3, ln_0, ln_1, ln_2, ln_3, gf_0, gf_1, gf_2, gf_3, gf_4, gf_7, gf_21, gf_63, dy_0, dy_1, dy_2, dy_3, dy_7, dy_21, px_brT, px_brF, true_and, and_true, and_false, false_and, and_self, true_implies, false_implies, or_true, true_or, or_false, false_or, eq_self, ne_eq, not_false_eq_true, not_true_eq_false, if_true, if_false, List.mem_cons, List.not_mem_nil, List.length_cons, List.length_nil, Nat.reduceEqDiff, Nat.reduceAdd, Nat.reduceSub, Nat.reduceLeDiff, Nat.reduceLT, Int.reduceEq, Int.reduceLT, Int.reduceLE, Int.reduceNeg, Int.reduceAdd, Int.reduceSub, Int.reduceToNat, ↓reduceIte, one_ne_zero_, zero_ne_one_, px_in32L, cd_297, cd_204, cd_205, cd_207]
    exact h
  · rename_i c1
    rw [if_neg c1] at h; exact h
theorem sp_toldCh {Mc : px_mem} {sa sb i j w : Int} {pl : Int → Int → List Int} {nm : Int → List Int} (hT : TE Mc pl nm (M 128)) (hsa : 0 ≤ sa ∧ sa < Mc 20 1) (hsb : 0 ≤ sb ∧ sb < Mc 20 1) (hw : 0 ≤ w ∧ w ≤ 3) (hj : i = -2 → 0 ≤ j ∧ j < Mc (Mc 21 sb) 2) (h : Q (some (0, tdR Mc (Mc 21 sa) (Mc 21 sb) (pl sa) (pl sb) i j w)) M) : px_Ok 297 [(2, 127), (0, sa), (0, sb), (0, i), (0, j), (0, w)] LAY M Q := by
  rcases (by omega : w = 0 ∨ w = 1 ∨ w = 2 ∨ w = 3) with e | e | e | e <;> subst e
  · exact sp_told0 h
  · exact sp_told1 h
  · exact sp_told2 h
  · exact sp_told3 hT hsa hsb hj h
end PS
