set_option maxRecDepth 100000 in
/-- X12_has -/
theorem cd_173 : px_at 173 0 = some (1, [], .iload_n 0, []) ∧ px_at 173 1 = some (2, [], .iload_n 1, []) ∧ px_at 173 2 = some (3, [], .ishr, []) ∧ px_at 173 3 = some (4, [], .iconst 1, []) ∧ px_at 173 4 = some (5, [], .iand, []) ∧ px_at 173 5 = some (6, [], .iconst 1, []) ∧ px_at 173 6 = some (9, [], .if_icmp .ne 7, [13]) ∧ px_at 173 9 = some (10, [], .iconst 1, []) ∧ px_at 173 10 = some (13, [], .goto 4, [14]) ∧ px_at 173 13 = some (14, [], .iconst 0, []) ∧ px_at 173 14 = some (15, [], .ireturn, [4]) := ⟨rfl, rfl, rfl, rfl, rfl, rfl, rfl, rfl, rfl, rfl, rfl⟩
set_option maxRecDepth 100000 in
/-- X12_ancestorsOf -/
theorem cd_238 : px_at 238 0 = some (1, [], .iconst 1, []) ∧ px_at 238 1 = some (2, [], .iload_n 1, []) ∧ px_at 238 2 = some (3, [], .ishl, []) ∧ px_at 238 3 = some (4, [], .istore_n 2, []) ∧ px_at 238 4 = some (5, [], .iconst 0, []) ∧ px_at 238 5 = some (6, [], .istore_n 3, []) ∧ px_at 238 6 = some (7, [1, 0, 1, 1, 0, 0, 0], .iload_n 3, []) ∧ px_at 238 7 = some (9, [], .bipush 10, []) ∧ px_at 238 9 = some (12, [], .if_icmp .ge 91, [100]) ∧ px_at 238 12 = some (13, [], .iconst 0, []) ∧ px_at 238 13 = some (15, [], .istore 4, []) ∧ px_at 238 15 = some (17, [1, 0, 1, 1, 1, 0, 0], .iload 4, []) ∧ px_at 238 17 = some (18, [], .aload_n 0, []) ∧ px_at 238 18 = some (21, [], .getfield 7, [11, 0, 2, 1, 125]) ∧ px_at 238 21 = some (22, [], .iconst 5, []) ∧ px_at 238 22 = some (23, [], .iaload, []) ∧ px_at 238 23 = some (26, [], .if_icmp .ge 71, [94]) ∧ px_at 238 26 = some (27, [], .iload_n 2, []) ∧ px_at 238 27 = some (29, [], .iload 4, []) ∧ px_at 238 29 = some (32, [], .invokestatic 289, [173, 2, 11, 281]) ∧ px_at 238 32 = some (35, [], .ifCond .ne 6, [38]) ∧ px_at 238 35 = some (38, [], .goto 53, [88]) ∧ px_at 238 38 = some (39, [], .iconst 0, []) ∧ px_at 238 39 = some (41, [], .istore 5, []) ∧ px_at 238 41 = some (43, [1, 0, 1, 1, 1, 1, 0], .iload 5, []) ∧ px_at 238 43 = some (44, [], .iconst 2, []) ∧ px_at 238 44 = some (47, [], .if_icmp .ge 44, [88]) ∧ px_at 238 47 = some (48, [], .aload_n 0, []) ∧ px_at 238 48 = some (49, [], .aload_n 0, []) ∧ px_at 238 49 = some (52, [], .getfield 7, [11, 0, 2, 1, 125]) ∧ px_at 238 52 = some (53, [], .aload_n 0, []) ∧ px_at 238 53 = some (55, [], .iload 4, []) ∧ px_at 238 55 = some (58, [], .invokevirtual 174, [204, 1, 11, 251]) ∧ px_at 238 58 = some (59, [], .iconst 1, []) ∧ px_at 238 59 = some (60, [], .iadd, []) ∧ px_at 238 60 = some (62, [], .iload 5, []) ∧ px_at 238 62 = some (63, [], .iadd, []) ∧ px_at 238 63 = some (64, [], .iaload, []) ∧ px_at 238 64 = some (67, [], .invokevirtual 267, [208, 1, 11, 250]) ∧ px_at 238 67 = some (69, [], .istore 6, []) ∧ px_at 238 69 = some (71, [], .iload 6, []) ∧ px_at 238 71 = some (72, [], .iconst (-1), []) ∧ px_at 238 72 = some (75, [], .if_icmp .eq 10, [82]) ∧ px_at 238 75 = some (76, [], .iload_n 2, []) ∧ px_at 238 76 = some (77, [], .iconst 1, []) ∧ px_at 238 77 = some (79, [], .iload 6, []) ∧ px_at 238 79 = some (80, [], .ishl, []) ∧ px_at 238 80 = some (81, [], .ior, []) ∧ px_at 238 81 = some (82, [], .istore_n 2, []) ∧ px_at 238 82 = some (85, [], .iinc 5 1, []) ∧ px_at 238 85 = some (88, [], .goto (-44), [41]) ∧ px_at 238 88 = some (91, [], .iinc 4 1, []) ∧ px_at 238 91 = some (94, [], .goto (-76), [15]) ∧ px_at 238 94 = some (97, [], .iinc 3 1, []) ∧ px_at 238 97 = some (100, [], .goto (-91), [6]) ∧ px_at 238 100 = some (101, [], .iload_n 2, []) ∧ px_at 238 101 = some (102, [], .ireturn, [0]) := ⟨rfl, rfl, rfl, rfl, rfl, rfl, rfl, rfl, rfl, rfl, rfl, rfl, rfl, rfl, rfl, rfl, rfl, rfl, rfl, rfl, rfl, rfl, rfl, rfl, rfl, rfl, rfl, rfl, rfl, rfl, rfl, rfl, rfl, rfl, rfl, rfl, rfl, rfl, rfl, rfl, rfl, rfl, rfl, rfl, rfl, rfl, rfl, rfl, rfl, rfl, rfl, rfl, rfl, rfl, rfl, rfl, rfl⟩
set_option maxRecDepth 100000 in
/-- X12_commonOf -/
theorem cd_239 : px_at 239 0 = some (1, [], .aload_n 0, []) ∧ px_at 239 1 = some (2, [], .iload_n 1, []) ∧ px_at 239 2 = some (5, [], .invokevirtual 292, [238, 1, 11, 280]) ∧ px_at 239 5 = some (6, [], .aload_n 0, []) ∧ px_at 239 6 = some (7, [], .iload_n 2, []) ∧ px_at 239 7 = some (10, [], .invokevirtual 292, [238, 1, 11, 280]) ∧ px_at 239 10 = some (11, [], .iand, []) ∧ px_at 239 11 = some (12, [], .istore_n 3, []) ∧ px_at 239 12 = some (13, [], .iconst (-1), []) ∧ px_at 239 13 = some (15, [], .istore 4, []) ∧ px_at 239 15 = some (16, [], .iconst 0, []) ∧ px_at 239 16 = some (18, [], .istore 5, []) ∧ px_at 239 18 = some (20, [1, 0, 0, 1, 1, 1], .iload 5, []) ∧ px_at 239 20 = some (21, [], .aload_n 0, []) ∧ px_at 239 21 = some (24, [], .getfield 7, [11, 0, 2, 1, 125]) ∧ px_at 239 24 = some (25, [], .iconst 5, []) ∧ px_at 239 25 = some (26, [], .iaload, []) ∧ px_at 239 26 = some (29, [], .if_icmp .ge 22, [48]) ∧ px_at 239 29 = some (30, [], .iload_n 3, []) ∧ px_at 239 30 = some (32, [], .iload 5, []) ∧ px_at 239 32 = some (35, [], .invokestatic 289, [173, 2, 11, 281]) ∧ px_at 239 35 = some (38, [], .ifCond .eq 7, [42]) ∧ px_at 239 38 = some (40, [], .iload 5, []) ∧ px_at 239 40 = some (42, [], .istore 4, []) ∧ px_at 239 42 = some (45, [], .iinc 5 1, []) ∧ px_at 239 45 = some (48, [], .goto (-27), [18]) ∧ px_at 239 48 = some (50, [], .iload 4, []) ∧ px_at 239 50 = some (51, [], .ireturn, [0]) := ⟨rfl, rfl, rfl, rfl, rfl, rfl, rfl, rfl, rfl, rfl, rfl, rfl, rfl, rfl, rfl, rfl, rfl, rfl, rfl, rfl, rfl, rfl, rfl, rfl, rfl, rfl, rfl, rfl⟩
set_option maxRecDepth 100000 in
/-- X12_common -/
theorem cd_240 : px_at 240 0 = some (1, [], .aload_n 0, []) ∧ px_at 240 1 = some (2, [], .iload_n 1, []) ∧ px_at 240 2 = some (5, [], .invokevirtual 267, [208, 1, 11, 250]) ∧ px_at 240 5 = some (6, [], .istore_n 3, []) ∧ px_at 240 6 = some (7, [], .aload_n 0, []) ∧ px_at 240 7 = some (8, [], .iload_n 2, []) ∧ px_at 240 8 = some (11, [], .invokevirtual 267, [208, 1, 11, 250]) ∧ px_at 240 11 = some (13, [], .istore 4, []) ∧ px_at 240 13 = some (14, [], .iload_n 3, []) ∧ px_at 240 14 = some (15, [], .iconst (-1), []) ∧ px_at 240 15 = some (18, [], .if_icmp .eq 9, [24]) ∧ px_at 240 18 = some (20, [], .iload 4, []) ∧ px_at 240 20 = some (21, [], .iconst (-1), []) ∧ px_at 240 21 = some (24, [], .if_icmp .ne 5, [26]) ∧ px_at 240 24 = some (25, [], .iconst (-1), []) ∧ px_at 240 25 = some (26, [], .ireturn, [0]) ∧ px_at 240 26 = some (27, [], .aload_n 0, []) ∧ px_at 240 27 = some (28, [], .iload_n 3, []) ∧ px_at 240 28 = some (30, [], .iload 4, []) ∧ px_at 240 30 = some (33, [], .invokevirtual 295, [239, 2, 11, 279]) ∧ px_at 240 33 = some (35, [], .istore 5, []) ∧ px_at 240 35 = some (37, [], .iload 5, []) ∧ px_at 240 37 = some (38, [], .iconst (-1), []) ∧ px_at 240 38 = some (41, [], .if_icmp .ne 8, [46]) ∧ px_at 240 41 = some (43, [], .bipush (-2), []) ∧ px_at 240 43 = some (46, [], .goto 16, [59]) ∧ px_at 240 46 = some (47, [], .aload_n 0, []) ∧ px_at 240 47 = some (50, [], .getfield 7, [11, 0, 2, 1, 125]) ∧ px_at 240 50 = some (51, [], .aload_n 0, []) ∧ px_at 240 51 = some (53, [], .iload 5, []) ∧ px_at 240 53 = some (56, [], .invokevirtual 174, [204, 1, 11, 251]) ∧ px_at 240 56 = some (57, [], .iconst 0, []) ∧ px_at 240 57 = some (58, [], .iadd, []) ∧ px_at 240 58 = some (59, [], .iaload, []) ∧ px_at 240 59 = some (60, [], .ireturn, [0]) := ⟨rfl, rfl, rfl, rfl, rfl, rfl, rfl, rfl, rfl, rfl, rfl, rfl, rfl, rfl, rfl, rfl, rfl, rfl, rfl, rfl, rfl, rfl, rfl, rfl, rfl, rfl, rfl, rfl, rfl, rfl, rfl, rfl, rfl, rfl, rfl⟩
/-! the reference: what editions come of -/
section PS
variable {M : px_mem} {Q : Option pv → px_mem → Prop}
/-- a set that holds the start, in bounds, and nothing that need not be -/
def ancP (Mc : px_mem) (a s : Int) : Prop := (0 ≤ s ∧ s < 2 ^ 10) ∧ (∀ i, 0 ≤ i → inS s i → i < Mc 20 1) ∧ inS s a ∧ ∀ p : Int → Prop, p a → (∀ i j, 0 ≤ i → i < Mc 20 1 → p i → 0 ≤ j → par Mc i j → p j) → ∀ i, 0 ≤ i → inS s i → p i
theorem ancP_add {Mc : px_mem} {a s e u : Int} (h : ancP Mc a s) (ha : acy Mc) (e0 : 0 ≤ e) (e1 : e < Mc 20 1) (hn : Mc 20 1 ≤ 10) (he : inS s e) (u0 : 0 ≤ u) (hp : par Mc e u) : ancP Mc a (px_ior s (px_ishl 1 u)) ∧ ∀ i, 0 ≤ i → (inS (px_ior s (px_ishl 1 u)) i ↔ inS s i ∨ i = u) := by
  have e10 : (2 : Int) ^ 10 = 1024 := rfl
  have hu := ha e u e0 e1 hp
  have s1 := h.1
  have t1 := ishl_lt (k := u) (n := 10) u0 (by omega) (by decide)
  have hin : ∀ i, 0 ≤ i → (inS (px_ior s (px_ishl 1 u)) i ↔ inS s i ∨ i = u) := fun i i0 => by
    rw [ior_in ⟨by omega, by omega⟩ ⟨by omega, by omega⟩, ishl_in u0 (by omega) i0]
  have a0 : 0 ≤ a ∨ a < 0 := by omega
  refine ⟨⟨ior_lt (by decide) s1 t1, fun i i0 hi => ?_, ?_, fun p p1 p2 i i0 hi => ?_⟩, hin⟩
  · rcases (hin i i0).mp hi with z | z
    · exact h.2.1 i i0 z
    · omega
  · rw [ior_in ⟨by omega, by omega⟩ ⟨by omega, by omega⟩]; exact Or.inl h.2.2.1
  · rcases (hin i i0).mp hi with z | z
    · exact h.2.2.2 p p1 p2 i i0 z
    · rw [z]; exact p2 e u e0 e1 (h.2.2.2 p p1 p2 e e0 he) u0 hp
/-- a round half done: below e all parents are in; S0 as the round began, closed for high ones -/
def ancR (Mc : px_mem) (S0 s r e : Int) : Prop := (∀ i, 0 ≤ i → inS S0 i → inS s i) ∧ (∀ i, 0 ≤ i → 9 - r ≤ i → inS s i → inS S0 i) ∧ ∀ i j, 0 ≤ i → i < e → inS S0 i → 0 ≤ j → par Mc i j → inS s j
set_option maxHeartbeats 600000 in
set_option maxRecDepth 100000 in
theorem lp_ra3 {Mc : px_mem} {pl : Int → Int → List Int} {nm : Int → List Int} {a S0 r e : Int} (hT : TE Mc pl nm (M 128)) (ha : acy Mc) (he : 0 ≤ e ∧ e < Mc 20 1) (hr : 0 ≤ r ∧ r < 10) (hcl : ∀ i j, 0 ≤ i → inS S0 i → 9 - r ≤ j → 0 ≤ j → par Mc i j → inS S0 j) (hx : ∀ s, ancP Mc a s → ancR Mc S0 s r (e + 1) → px_WP 238 0 0 (px_Q0 LAY Q) 15 [(2, 127), (9, 0), (0, s), (0, r), (0, e + 1), (9, 0), (9, 0)] [] LAY M 0 0) (k : Int) (hk_k : k ≤ 2) : ∀ s, 0 ≤ k → ancP Mc a s → ancR Mc S0 s r e → ((1 ≤ k → 0 ≤ slot Mc (Mc (Mc 21 e) 4) → inS s (slot Mc (Mc (Mc 21 e) 4))) ∧ (2 ≤ k → 0 ≤ slot Mc (Mc (Mc 21 e) 5) → inS s (slot Mc (Mc (Mc 21 e) 5)))) → inS s e → px_WP 238 0 0 (px_Q0 LAY Q) 41 [(2, 127), (9, 0), (0, s), (0, r), (0, e), (0, k), (9, 0)] [] LAY M 0 0 := by
  refine up_ind (P := fun k => ∀ s, 0 ≤ k → ancP Mc a s → ancR Mc S0 s r e → ((1 ≤ k → 0 ≤ slot Mc (Mc (Mc 21 e) 4) → inS s (slot Mc (Mc (Mc 21 e) 4))) ∧ (2 ≤ k → 0 ≤ slot Mc (Mc (Mc 21 e) 5) → inS s (slot Mc (Mc (Mc 21 e) 5)))) → inS s e → px_WP 238 0 0 (px_Q0 LAY Q) 41 [(2, 127), (9, 0), (0, s), (0, r), (0, e), (0, k), (9, 0)] [] LAY M 0 0) (2) (fun k hk_k ih => ?_) k hk_k
  intro s k0 hP hR hk1 hse
  have hTn := TE_n hT
  have hee := TE_e hT he.1 he.2
  have hadd : ∀ u, 0 ≤ u → par Mc e u → ancP Mc a (px_ior s (px_ishl 1 u)) ∧ ancR Mc S0 (px_ior s (px_ishl 1 u)) r e ∧ ∀ i, 0 ≤ i → (inS (px_ior s (px_ishl 1 u)) i ↔ inS s i ∨ i = u) := fun u u0 hp => by
    obtain ⟨q1, q2⟩ := ancP_add hP ha he.1 he.2 (by omega) hse u0 hp
    have hu := ha e u he.1 he.2 hp
    refine ⟨q1, ⟨fun i i0 hi => (q2 i i0).mpr (Or.inl (hR.1 i i0 hi)), fun i i0 ir hi => ?_, fun i j i0 i1 hi j0 hp2 => (q2 j j0).mpr (Or.inl (hR.2.2 i j i0 i1 hi j0 hp2))⟩, q2⟩
    rcases (q2 i i0).mp hi with z | z
    · exact hR.2.1 i i0 ir z
    · rw [z]
      exact hcl e u he.1 (hR.2.1 e he.1 (by omega) hse) (by omega) u0 hp
  refine px_go_ok (inl := [204]) 60 ?_
  simp only [px_go, px_Q0_at, px_sx_0, px_sx_s, px_cl, px_step, ↓px_ll, px_lg, f4_, ↓px_r1, ↓px_r2, ↓px_r4, ↓px_r5, ↓px_p1, ↓px_p2, ↓px_p3, ↓px_pop, px_k_0, px_k_s, px_k3_0, px_stk_, px_cats, px_ent, px_st1, px_st2, px_mask, ↓px_tsw, ↓px_lsw, ct_, mls_0, mls_1, mls_2, mls_3, mls_4, mls_5, kd_0, kd_1, kd_2, kd_3, ln_0, ln_1, ln_2, ln_3, gf_0, gf_1, gf_2, gf_3, gf_4, gf_7, gf_21, gf_63, dy_0, dy_1, dy_2, dy_3, dy_7, dy_21, px_brT, px_brF, true_and, and_true, and_false, false_and, and_self, true_implies, false_implies, or_true, true_or, or_false, false_or, eq_self, ne_eq, not_false_eq_true, not_true_eq_false, if_true, if_false, List.mem_cons, List.not_mem_nil, List.length_cons, List.length_nil, Nat.reduceEqDiff, Nat.reduceAdd, Nat.reduceSub, Nat.reduceLeDiff, Nat.reduceLT, Int.reduceEq, Int.reduceLT, Int.reduceLE, Int.reduceNeg, Int.reduceAdd, Int.reduceSub, Int.reduceToNat, ↓reduceIte, one_ne_zero_, zero_ne_one_, px_in32L, cd_238, cd_204]
  repeat' (first | (with_reducible apply And.intro) | (with_reducible refine px_br_intro (fun _ => ?_) (fun _ => ?_)))
  all_goals (try (first | (unfold px_in32; omega) | omega))
  · rename_i c1
    have ek : k = 2 := by omega
    subst ek
    refine hx s hP ⟨hR.1, hR.2.1, fun i j i0 i1 hi j0 hp => ?_⟩
    by_cases q : i = e
    · rw [q] at hp
      rcases hp with z | z
      · rw [← z]; exact hk1.1 (by decide) (by omega)
      · rw [← z]; exact hk1.2 (by decide) (by omega)
    · exact hR.2.2 i j i0 (by omega) hi j0 hp
  · rename_i c1
    have hkk : k = 0 ∨ k = 1 := by omega
    have hv : M 128 (1294 + 186 * e + 1 + k) = if k = 0 then Mc (Mc 21 e) 4 else Mc (Mc 21 e) 5 := by
      rcases hkk with q | q
      · rw [if_pos q, q, Int.add_zero]; exact hee.2.1
      · rw [if_neg (by omega), q, Int.add_assoc]; exact hee.2.2.1
    rw [hv]
    refine sp_slotT hT ?_
    have hsb := slot_bd Mc (if k = 0 then Mc (Mc 21 e) 4 else Mc (Mc 21 e) 5)
    have hpar : ∀ u, slot Mc (if k = 0 then Mc (Mc 21 e) 4 else Mc (Mc 21 e) 5) = u → par Mc e u := fun u hu => by
      rcases hkk with q | q
      · rw [if_pos q] at hu; exact Or.inl hu
      · rw [if_neg (by omega)] at hu; exact Or.inr hu
    have hnext : ∀ s', ancP Mc a s' → ancR Mc S0 s' r e → (∀ i, 0 ≤ i → inS s i → inS s' i) → (0 ≤ slot Mc (if k = 0 then Mc (Mc 21 e) 4 else Mc (Mc 21 e) 5) → inS s' (slot Mc (if k = 0 then Mc (Mc 21 e) 4 else Mc (Mc 21 e) 5))) → px_WP 238 0 0 (px_Q0 LAY Q) 41 [(2, 127), (9, 0), (0, s'), (0, r), (0, e), (0, k + 1), (9, 0)] [] LAY M 0 0 := fun s' p1 p2 p3 p4 => by
      refine ih (by omega) s' (by omega) p1 p2 ⟨fun _ z => ?_, fun z2 z => ?_⟩ (p3 e he.1 hse)
      · rcases hkk with q | q
        · rw [if_pos q] at p4; exact p4 z
        · exact p3 _ z (hk1.1 (by omega) z)
      · rw [if_neg (by omega)] at p4; exact p4 z
    generalize hsv : slot Mc (if k = 0 then Mc (Mc 21 e) 4 else Mc (Mc 21 e) 5) = u at *
    simp only [px_go, px_Q0_at, px_sx_0, px_sx_s, px_cl, px_step, ↓px_ll, px_lg, f4_, ↓px_r1, ↓px_r2, ↓px_r4, ↓px_r5, ↓px_p1, ↓px_p2, ↓px_p3, ↓px_pop, px_k_0, px_k_s, px_k3_0, px_stk_, px_cats, px_ent, px_st1, px_st2, px_mask, ↓px_tsw, ↓px_lsw, ct_, mls_0, mls_1, mls_2, mls_3, mls_4, mls_5, kd_0, kd_1, kd_2, kd_3, ln_0, ln_1, ln_2, ln_3, gf_0, gf_1, gf_2, gf_3, gf_4, gf_7, gf_21, gf_63, dy_0, dy_1, dy_2, dy_3, dy_7, dy_21, px_brT, px_brF, true_and, and_true, and_false, false_and, and_self, true_implies, false_implies, or_true, true_or, or_false, false_or, eq_self, ne_eq, not_false_eq_true, not_true_eq_false, if_true, if_false, List.mem_cons, List.not_mem_nil, List.length_cons, List.length_nil, Nat.reduceEqDiff, Nat.reduceAdd, Nat.reduceSub, Nat.reduceLeDiff, Nat.reduceLT, Int.reduceEq, Int.reduceLT, Int.reduceLE, Int.reduceNeg, Int.reduceAdd, Int.reduceSub, Int.reduceToNat, ↓reduceIte, one_ne_zero_, zero_ne_one_, px_in32L, cd_238, cd_204]
    repeat' (first | (with_reducible apply And.intro) | (with_reducible refine px_br_intro (fun _ => ?_) (fun _ => ?_)))
    all_goals (try (first | (unfold px_in32; omega) | omega))
    · rename_i c2
      exact hnext s hP hR (fun _ _ z => z) (fun z => by omega)
    · rename_i c2
      obtain ⟨q1, q2, q3⟩ := hadd u (by omega) (hpar u rfl)
      exact hnext _ q1 q2 (fun i i0 z => (q3 i i0).mpr (Or.inl z)) (fun z => (q3 u z).mpr (Or.inr rfl))
set_option maxHeartbeats 600000 in
set_option maxRecDepth 100000 in
theorem lp_ra2 {Mc : px_mem} {pl : Int → Int → List Int} {nm : Int → List Int} {a S0 r : Int} (hT : TE Mc pl nm (M 128)) (ha : acy Mc) (hr : 0 ≤ r ∧ r < 10) (hcl : ∀ i j, 0 ≤ i → inS S0 i → 9 - r ≤ j → 0 ≤ j → par Mc i j → inS S0 j) (hx : ∀ s, ancP Mc a s → ancR Mc S0 s r (Mc 20 1) → px_WP 238 0 0 (px_Q0 LAY Q) 6 [(2, 127), (9, 0), (0, s), (0, r + 1), (9, 0), (9, 0), (9, 0)] [] LAY M 0 0) (e : Int) (hk_e : e ≤ Mc 20 1) : ∀ s, 0 ≤ e → ancP Mc a s → ancR Mc S0 s r e → px_WP 238 0 0 (px_Q0 LAY Q) 15 [(2, 127), (9, 0), (0, s), (0, r), (0, e), (9, 0), (9, 0)] [] LAY M 0 0 := by
  refine up_ind (P := fun e => ∀ s, 0 ≤ e → ancP Mc a s → ancR Mc S0 s r e → px_WP 238 0 0 (px_Q0 LAY Q) 15 [(2, 127), (9, 0), (0, s), (0, r), (0, e), (9, 0), (9, 0)] [] LAY M 0 0) (Mc 20 1) (fun e hk_e ih => ?_) e hk_e
  intro s e0 hP hR
  have hTn := TE_n hT
  have h5 := hTn.1
  have e10 : (2 : Int) ^ 10 = 1024 := rfl
  have hs1 := hP.1
  have hbit := fun q0 q1 => bit_s1 (a := s) (b := e) q0 q1 ⟨by omega, by omega⟩
  refine px_go_ok (inl := [173]) 60 ?_
  simp only [px_go, px_Q0_at, px_sx_0, px_sx_s, px_cl, px_step, ↓px_ll, px_lg, f4_, ↓px_r1, ↓px_r2, ↓px_r4, ↓px_r5, ↓px_p1, ↓px_p2, ↓px_p3, ↓px_pop, px_k_0, px_k_s, px_k3_0, px_stk_, px_cats, px_ent, px_st1, px_st2, px_mask, ↓px_tsw, ↓px_lsw, ct_, mls_0, mls_1, mls_2, mls_3, mls_4, mls_5, kd_0, kd_1, kd_2, kd_3, ln_0, ln_1, ln_2, ln_3, gf_0, gf_1, gf_2, gf_3, gf_4, gf_7, gf_21, gf_63, dy_0, dy_1, dy_2, dy_3, dy_7, dy_21, px_brT, px_brF, true_and, and_true, and_false, false_and, and_self, true_implies, false_implies, or_true, true_or, or_false, false_or, eq_self, ne_eq, not_false_eq_true, not_true_eq_false, if_true, if_false, List.mem_cons, List.not_mem_nil, List.length_cons, List.length_nil, Nat.reduceEqDiff, Nat.reduceAdd, Nat.reduceSub, Nat.reduceLeDiff, Nat.reduceLT, Int.reduceEq, Int.reduceLT, Int.reduceLE, Int.reduceNeg, Int.reduceAdd, Int.reduceSub, Int.reduceToNat, ↓reduceIte, one_ne_zero_, zero_ne_one_, px_in32L, cd_238, cd_173, h5]
  repeat' (first | (with_reducible apply And.intro) | (with_reducible refine px_br_intro (fun _ => ?_) (fun _ => ?_)))
  all_goals (try (first | (unfold px_in32; omega) | omega))
  · rename_i c1
    have ee : e = Mc 20 1 := by omega
    subst ee
    exact hx s hP hR
  · rename_i c1 c2
    have c3 := (hbit (by omega) (by omega)).mp c2
    exact lp_ra3 hT ha ⟨e0, by omega⟩ hr hcl (fun s' p1 p2 => ih (by omega) s' (by omega) p1 p2) 0 (by decide) s (Int.le_refl 0) hP hR ⟨fun z => by omega, fun z => by omega⟩ c3
  · rename_i c1 c2
    have c3 : ¬ inS s e := fun z => c2 ((hbit (by omega) (by omega)).mpr z)
    refine ih (by omega) s (by omega) hP ⟨hR.1, hR.2.1, fun i j i0 i1 hi j0 hp => ?_⟩
    by_cases q : i = e
    · rw [q] at hi; exact absurd (hR.1 e e0 hi) c3
    · exact hR.2.2 i j i0 (by omega) hi j0 hp
set_option maxHeartbeats 600000 in
set_option maxRecDepth 100000 in
theorem lp_ra1 {Mc : px_mem} {pl : Int → Int → List Int} {nm : Int → List Int} {a num : Int} (hT : TE Mc pl nm (M 128)) (ha : acy Mc) (hnum : slot Mc num = a) (ha0 : 0 ≤ a) (h : ∀ s, ancC Mc s num → Q (some (0, s)) M) (r : Int) (hk_r : r ≤ 10) : ∀ s, 0 ≤ r → ancP Mc a s → (∀ i j, 0 ≤ i → inS s i → 9 - r ≤ j → 0 ≤ j → par Mc i j → inS s j) → px_WP 238 0 0 (px_Q0 LAY Q) 6 [(2, 127), (9, 0), (0, s), (0, r), (9, 0), (9, 0), (9, 0)] [] LAY M 0 0 := by
  refine up_ind (P := fun r => ∀ s, 0 ≤ r → ancP Mc a s → (∀ i j, 0 ≤ i → inS s i → 9 - r ≤ j → 0 ≤ j → par Mc i j → inS s j) → px_WP 238 0 0 (px_Q0 LAY Q) 6 [(2, 127), (9, 0), (0, s), (0, r), (9, 0), (9, 0), (9, 0)] [] LAY M 0 0) (10) (fun r hk_r ih => ?_) r hk_r
  intro s r0 hP hcl
  have hTn := TE_n hT
  refine px_go_ok (inl := []) 60 ?_
  simp only [px_go, px_Q0_at, px_sx_0, px_sx_s, px_cl, px_step, ↓px_ll, px_lg, f4_, ↓px_r1, ↓px_r2, ↓px_r4, ↓px_r5, ↓px_p1, ↓px_p2, ↓px_p3, ↓px_pop, px_k_0, px_k_s, px_k3_0, px_stk_, px_cats, px_ent, px_st1, px_st2, px_mask, ↓px_tsw, ↓px_lsw, ct_, mls_0, mls_1, mls_2, mls_3, mls_4, mls_5, kd_0, kd_1, kd_2, kd_3, ln_0, ln_1, ln_2, ln_3, gf_0, gf_1, gf_2, gf_3, gf_4, gf_7, gf_21, gf_63, dy_0, dy_1, dy_2, dy_3, dy_7, dy_21, px_brT, px_brF, true_and, and_true, and_false, false_and, and_self, true_implies, false_implies, or_true, true_or, or_false, false_or, eq_self, ne_eq, not_false_eq_true, not_true_eq_false, if_true, if_false, List.mem_cons, List.not_mem_nil, List.length_cons, List.length_nil, Nat.reduceEqDiff, Nat.reduceAdd, Nat.reduceSub, Nat.reduceLeDiff, Nat.reduceLT, Int.reduceEq, Int.reduceLT, Int.reduceLE, Int.reduceNeg, Int.reduceAdd, Int.reduceSub, Int.reduceToNat, ↓reduceIte, one_ne_zero_, zero_ne_one_, px_in32L, cd_238]
  repeat' (first | (with_reducible apply And.intro) | (with_reducible refine px_br_intro (fun _ => ?_) (fun _ => ?_)))
  all_goals (try (first | (unfold px_in32; omega) | omega))
  · rename_i c1
    refine h s ⟨hP.1, hP.2.1, fun _ => by rw [hnum]; exact hP.2.2.1, fun i j i0 hi j0 hp => hcl i j i0 hi (by omega) j0 hp, fun p p1 p2 => hP.2.2.2 p (by rw [hnum] at p1; exact p1 ha0) p2⟩
  · rename_i c1
    refine lp_ra2 (S0 := s) hT ha ⟨r0, by omega⟩ hcl (fun s' p1 p2 => ih (by omega) s' (by omega) p1 (fun i j i0 hi jr j0 hp => ?_)) 0 (by omega) s (Int.le_refl 0) hP ⟨fun _ _ z => z, fun _ _ _ z => z, fun i j i0 i1 => by omega⟩
    have hib := p1.2.1 i i0 hi
    have hji := ha i j i0 hib hp
    exact p2.2.2 i j i0 hib (p2.2.1 i i0 (by omega) hi) j0 hp
set_option maxHeartbeats 600000 in
set_option maxRecDepth 100000 in
theorem sp_rancestors {Mc : px_mem} {pl : Int → Int → List Int} {nm : Int → List Int} {a num : Int} (hT : TE Mc pl nm (M 128)) (ha : acy Mc) (hnum : slot Mc num = a) (hab : 0 ≤ a ∧ a < Mc 20 1) (h : ∀ s, ancC Mc s num → Q (some (0, s)) M) : px_Ok 238 [(2, 127), (0, a)] LAY M Q := by
  have hTn := TE_n hT
  refine px_ok_go (inl := []) (ls0 := [(2, 127), (0, a), (9, 0), (9, 0), (9, 0), (9, 0), (9, 0)]) 60 (by decide) (Nat.le_of_ble_eq_true rfl) rfl ?_
  simp only [px_go, px_Q0_at, px_sx_0, px_sx_s, px_cl, px_step, ↓px_ll, px_lg, f4_, ↓px_r1, ↓px_r2, ↓px_r4, ↓px_r5, ↓px_p1, ↓px_p2, ↓px_p3, ↓px_pop, px_k_0, px_k_s, px_k3_0, px_stk_, px_cats, px_ent, px_st1, px_st2, px_mask, ↓px_tsw, ↓px_lsw, ct_, mls_0, mls_1, mls_2, mls_3, mls_4, mls_5, kd_0, kd_1, kd_2, kd_3, ln_0, ln_1, ln_2, ln_3, gf_0, gf_1, gf_2, gf_3, gf_4, gf_7, gf_21, gf_63, dy_0, dy_1, dy_2, dy_3, dy_7, dy_21, px_brT, px_brF, true_and, and_true, and_false, false_and, and_self, true_implies, false_implies, or_true, true_or, or_false, false_or, eq_self, ne_eq, not_false_eq_true, not_true_eq_false, if_true, if_false, List.mem_cons, List.not_mem_nil, List.length_cons, List.length_nil, Nat.reduceEqDiff, Nat.reduceAdd, Nat.reduceSub, Nat.reduceLeDiff, Nat.reduceLT, Int.reduceEq, Int.reduceLT, Int.reduceLE, Int.reduceNeg, Int.reduceAdd, Int.reduceSub, Int.reduceToNat, ↓reduceIte, one_ne_zero_, zero_ne_one_, px_in32L, cd_238]
  repeat' (first | (with_reducible apply And.intro) | (with_reducible refine px_br_intro (fun _ => ?_) (fun _ => ?_)))
  all_goals (try (first | (unfold px_in32; omega) | omega))
  have hin : ∀ i, 0 ≤ i → (inS (px_ishl 1 a) i ↔ i = a) := fun i i0 => ishl_in hab.1 (by omega) i0
  refine lp_ra1 hT ha hnum hab.1 h 0 (by decide) _ (Int.le_refl 0) ⟨ishl_lt hab.1 (by omega) (by decide), fun i i0 hi => ?_, (hin a hab.1).mpr rfl, fun p p1 p2 i i0 hi => ?_⟩ (fun i j i0 hi jr j0 hp => ?_)
  · have := (hin i i0).mp hi; omega
  · rw [(hin i i0).mp hi]; exact p1
  · have := (hin i i0).mp hi
    have := ha i j i0 (by omega) hp
    omega
set_option maxHeartbeats 600000 in
set_option maxRecDepth 100000 in
theorem lp_rcommon {Mc : px_mem} {pl : Int → Int → List Int} {nm : Int → List Int} {s t a b : Int} (hT : TE Mc pl nm (M 128)) (hs : ancC Mc s a) (ht : ancC Mc t b) (h : ∀ r, comS Mc a b r → Q (some (0, r)) M) (e : Int) (hk_e : e ≤ Mc 20 1) : ∀ l, 0 ≤ e → ((l = -1 ∧ ∀ j, 0 ≤ j → j < e → ¬ (inS s j ∧ inS t j)) ∨ (0 ≤ l ∧ l < e ∧ inS s l ∧ inS t l ∧ ∀ j, l < j → j < e → ¬ (inS s j ∧ inS t j))) → px_WP 239 0 0 (px_Q0 LAY Q) 18 [(2, 127), (9, 0), (9, 0), (0, px_iand s t), (0, l), (0, e)] [] LAY M 0 0 := by
  refine up_ind (P := fun e => ∀ l, 0 ≤ e → ((l = -1 ∧ ∀ j, 0 ≤ j → j < e → ¬ (inS s j ∧ inS t j)) ∨ (0 ≤ l ∧ l < e ∧ inS s l ∧ inS t l ∧ ∀ j, l < j → j < e → ¬ (inS s j ∧ inS t j))) → px_WP 239 0 0 (px_Q0 LAY Q) 18 [(2, 127), (9, 0), (9, 0), (0, px_iand s t), (0, l), (0, e)] [] LAY M 0 0) (Mc 20 1) (fun e hk_e ih => ?_) e hk_e
  intro l e0 hl
  have hTn := TE_n hT
  have h5 := hTn.1
  have e10 : (2 : Int) ^ 10 = 1024 := rfl
  have hs1 := hs.1
  have ht1 := ht.1
  have hal := iand_lt (n := 10) (by decide) hs.1 ht.1
  have hbit := fun q0 q1 => bit_s1 (a := px_iand s t) (b := e) q0 q1 ⟨by omega, by omega⟩
  have hai := iand_in (a := s) (b := t) ⟨by omega, by omega⟩ ⟨by omega, by omega⟩ e
  refine px_go_ok (inl := [173]) 60 ?_
  simp only [px_go, px_Q0_at, px_sx_0, px_sx_s, px_cl, px_step, ↓px_ll, px_lg, f4_, ↓px_r1, ↓px_r2, ↓px_r4, ↓px_r5, ↓px_p1, ↓px_p2, ↓px_p3, ↓px_pop, px_k_0, px_k_s, px_k3_0, px_stk_, px_cats, px_ent, px_st1, px_st2, px_mask, ↓px_tsw, ↓px_lsw, ct_, mls_0, mls_1, mls_2, mls_3, mls_4, mls_5, kd_0, kd_1, kd_2, kd_3, ln_0, ln_1, ln_2, ln_3, gf_0, gf_1, gf_2, gf_3, gf_4, gf_7, gf_21, gf_63, dy_0, dy_1, dy_2, dy_3, dy_7, dy_21, px_brT, px_brF, true_and, and_true, and_false, false_and, and_self, true_implies, false_implies, or_true, true_or, or_false, false_or, eq_self, ne_eq, not_false_eq_true, not_true_eq_false, if_true, if_false, List.mem_cons, List.not_mem_nil, List.length_cons, List.length_nil, Nat.reduceEqDiff, Nat.reduceAdd, Nat.reduceSub, Nat.reduceLeDiff, Nat.reduceLT, Int.reduceEq, Int.reduceLT, Int.reduceLE, Int.reduceNeg, Int.reduceAdd, Int.reduceSub, Int.reduceToNat, ↓reduceIte, one_ne_zero_, zero_ne_one_, px_in32L, cd_239, cd_173, h5]
  repeat' (first | (with_reducible apply And.intro) | (with_reducible refine px_br_intro (fun _ => ?_) (fun _ => ?_)))
  all_goals (try (first | (unfold px_in32; omega) | omega))
  · rename_i c1
    have ee : e = Mc 20 1 := by omega
    subst ee
    refine h l ⟨s, t, hs, ht, ?_⟩
    rcases hl with z | z
    · exact Or.inl z
    · exact Or.inr z
  · rename_i c1 c2
    have c3 := hai.mp ((hbit (by omega) (by omega)).mp c2)
    exact ih (by omega) e (by omega) (Or.inr ⟨e0, by omega, c3.1, c3.2, fun j j0 j1 => by omega⟩)
  · rename_i c1 c2
    have c3 : ¬ (inS s e ∧ inS t e) := fun z => c2 ((hbit (by omega) (by omega)).mpr (hai.mpr z))
    refine ih (by omega) l (by omega) ?_
    rcases hl with z | z
    · refine Or.inl ⟨z.1, fun j j0 j1 => ?_⟩
      by_cases q : j = e
      · rw [q]; exact c3
      · exact z.2 j j0 (by omega)
    · refine Or.inr ⟨z.1, by omega, z.2.2.1, z.2.2.2.1, fun j j0 j1 => ?_⟩
      by_cases q : j = e
      · rw [q]; exact c3
      · exact z.2.2.2.2 j j0 (by omega)
set_option maxHeartbeats 600000 in
set_option maxRecDepth 100000 in
theorem sp_rcommonOf {Mc : px_mem} {pl : Int → Int → List Int} {nm : Int → List Int} {a b sa sb : Int} (hT : TE Mc pl nm (M 128)) (ha : acy Mc) (ea : slot Mc a = sa) (eb : slot Mc b = sb) (h1 : 0 ≤ sa ∧ sa < Mc 20 1) (h2 : 0 ≤ sb ∧ sb < Mc 20 1) (h : ∀ r, comS Mc a b r → Q (some (0, r)) M) : px_Ok 239 [(2, 127), (0, sa), (0, sb)] LAY M Q := by
  refine px_ok_go (inl := []) (ls0 := [(2, 127), (0, sa), (0, sb), (9, 0), (9, 0), (9, 0)]) 60 (by decide) (Nat.le_of_ble_eq_true rfl) rfl ?_
  simp only [px_go, px_Q0_at, px_sx_0, px_sx_s, px_cl, px_step, ↓px_ll, px_lg, f4_, ↓px_r1, ↓px_r2, ↓px_r4, ↓px_r5, ↓px_p1, ↓px_p2, ↓px_p3, ↓px_pop, px_k_0, px_k_s, px_k3_0, px_stk_, px_cats, px_ent, px_st1, px_st2, px_mask, ↓px_tsw, ↓px_lsw, ct_, mls_0, mls_1, mls_2, mls_3, mls_4, mls_5, kd_0, kd_1, kd_2, kd_3, ln_0, ln_1, ln_2, ln_3, gf_0, gf_1, gf_2, gf_3, gf_4, gf_7, gf_21, gf_63, dy_0, dy_1, dy_2, dy_3, dy_7, dy_21, px_brT, px_brF, true_and, and_true, and_false, false_and, and_self, true_implies, false_implies, or_true, true_or, or_false, false_or, eq_self, ne_eq, not_false_eq_true, not_true_eq_false, if_true, if_false, List.mem_cons, List.not_mem_nil, List.length_cons, List.length_nil, Nat.reduceEqDiff, Nat.reduceAdd, Nat.reduceSub, Nat.reduceLeDiff, Nat.reduceLT, Int.reduceEq, Int.reduceLT, Int.reduceLE, Int.reduceNeg, Int.reduceAdd, Int.reduceSub, Int.reduceToNat, ↓reduceIte, one_ne_zero_, zero_ne_one_, px_in32L, cd_239]
  repeat' (first | (with_reducible apply And.intro) | (with_reducible refine px_br_intro (fun _ => ?_) (fun _ => ?_)))
  all_goals (try (first | (unfold px_in32; omega) | omega))
  refine sp_rancestors hT ha ea h1 (fun s hs => ?_)
  simp only [px_go, px_Q0_at, px_sx_0, px_sx_s, px_cl, px_step, ↓px_ll, px_lg, f4_, ↓px_r1, ↓px_r2, ↓px_r4, ↓px_r5, ↓px_p1, ↓px_p2, ↓px_p3, ↓px_pop, px_k_0, px_k_s, px_k3_0, px_stk_, px_cats, px_ent, px_st1, px_st2, px_mask, ↓px_tsw, ↓px_lsw, ct_, mls_0, mls_1, mls_2, mls_3, mls_4, mls_5, kd_0, kd_1, kd_2, kd_3, ln_0, ln_1, ln_2, ln_3, gf_0, gf_1, gf_2, gf_3, gf_4, gf_7, gf_21, gf_63, dy_0, dy_1, dy_2, dy_3, dy_7, dy_21, px_brT, px_brF, true_and, and_true, and_false, false_and, and_self, true_implies, false_implies, or_true, true_or, or_false, false_or, eq_self, ne_eq, not_false_eq_true, not_true_eq_false, if_true, if_false, List.mem_cons, List.not_mem_nil, List.length_cons, List.length_nil, Nat.reduceEqDiff, Nat.reduceAdd, Nat.reduceSub, Nat.reduceLeDiff, Nat.reduceLT, Int.reduceEq, Int.reduceLT, Int.reduceLE, Int.reduceNeg, Int.reduceAdd, Int.reduceSub, Int.reduceToNat, ↓reduceIte, one_ne_zero_, zero_ne_one_, px_in32L, cd_239]
  refine sp_rancestors hT ha eb h2 (fun t ht => ?_)
  simp only [px_go, px_Q0_at, px_sx_0, px_sx_s, px_cl, px_step, ↓px_ll, px_lg, f4_, ↓px_r1, ↓px_r2, ↓px_r4, ↓px_r5, ↓px_p1, ↓px_p2, ↓px_p3, ↓px_pop, px_k_0, px_k_s, px_k3_0, px_stk_, px_cats, px_ent, px_st1, px_st2, px_mask, ↓px_tsw, ↓px_lsw, ct_, mls_0, mls_1, mls_2, mls_3, mls_4, mls_5, kd_0, kd_1, kd_2, kd_3, ln_0, ln_1, ln_2, ln_3, gf_0, gf_1, gf_2, gf_3, gf_4, gf_7, gf_21, gf_63, dy_0, dy_1, dy_2, dy_3, dy_7, dy_21, px_brT, px_brF, true_and, and_true, and_false, false_and, and_self, true_implies, false_implies, or_true, true_or, or_false, false_or, eq_self, ne_eq, not_false_eq_true, not_true_eq_false, if_true, if_false, List.mem_cons, List.not_mem_nil, List.length_cons, List.length_nil, Nat.reduceEqDiff, Nat.reduceAdd, Nat.reduceSub, Nat.reduceLeDiff, Nat.reduceLT, Int.reduceEq, Int.reduceLT, Int.reduceLE, Int.reduceNeg, Int.reduceAdd, Int.reduceSub, Int.reduceToNat, ↓reduceIte, one_ne_zero_, zero_ne_one_, px_in32L, cd_239]
  have hTn := TE_n hT
  exact lp_rcommon hT hs ht h 0 (by omega) (-1) (Int.le_refl 0) (Or.inl ⟨rfl, fun j j0 j1 => by omega⟩)
set_option maxHeartbeats 600000 in
set_option maxRecDepth 100000 in
theorem sp_rcommon {Mc : px_mem} {pl : Int → Int → List Int} {nm : Int → List Int} {a b : Int} (hT : TE Mc pl nm (M 128)) (ha : acy Mc) (h0 : (slot Mc a < 0 ∨ slot Mc b < 0) → Q (some (0, -1)) M) (h1 : ∀ r, 0 ≤ slot Mc a → 0 ≤ slot Mc b → comS Mc a b r → Q (some (0, if r = -1 then -2 else Mc (Mc 21 r) 3)) M) : px_Ok 240 [(2, 127), (0, a), (0, b)] LAY M Q := by
  have hsa := slot_bd Mc a
  have hsb := slot_bd Mc b
  have hTn := TE_n hT
  refine px_ok_go (inl := [204]) (ls0 := [(2, 127), (0, a), (0, b), (9, 0), (9, 0), (9, 0)]) 60 (by decide) (Nat.le_of_ble_eq_true rfl) rfl ?_
  simp only [px_go, px_Q0_at, px_sx_0, px_sx_s, px_cl, px_step, ↓px_ll, px_lg, f4_, ↓px_r1, ↓px_r2, ↓px_r4, ↓px_r5, ↓px_p1, ↓px_p2, ↓px_p3, ↓px_pop, px_k_0, px_k_s, px_k3_0, px_stk_, px_cats, px_ent, px_st1, px_st2, px_mask, ↓px_tsw, ↓px_lsw, ct_, mls_0, mls_1, mls_2, mls_3, mls_4, mls_5, kd_0, kd_1, kd_2, kd_3, ln_0, ln_1, ln_2, ln_3, gf_0, gf_1, gf_2, gf_3, gf_4, gf_7, gf_21, gf_63, dy_0, dy_1, dy_2, dy_3, dy_7, dy_21, px_brT, px_brF, true_and, and_true, and_false, false_and, and_self, true_implies, false_implies, or_true, true_or, or_false, false_or, eq_self, ne_eq, not_false_eq_true, not_true_eq_false, if_true, if_false, List.mem_cons, List.not_mem_nil, List.length_cons, List.length_nil, Nat.reduceEqDiff, Nat.reduceAdd, Nat.reduceSub, Nat.reduceLeDiff, Nat.reduceLT, Int.reduceEq, Int.reduceLT, Int.reduceLE, Int.reduceNeg, Int.reduceAdd, Int.reduceSub, Int.reduceToNat, ↓reduceIte, one_ne_zero_, zero_ne_one_, px_in32L, cd_240, cd_204]
  repeat' (first | (with_reducible apply And.intro) | (with_reducible refine px_br_intro (fun _ => ?_) (fun _ => ?_)))
  all_goals (try (first | (unfold px_in32; omega) | omega))
  refine sp_slotT hT ?_
  simp only [px_go, px_Q0_at, px_sx_0, px_sx_s, px_cl, px_step, ↓px_ll, px_lg, f4_, ↓px_r1, ↓px_r2, ↓px_r4, ↓px_r5, ↓px_p1, ↓px_p2, ↓px_p3, ↓px_pop, px_k_0, px_k_s, px_k3_0, px_stk_, px_cats, px_ent, px_st1, px_st2, px_mask, ↓px_tsw, ↓px_lsw, ct_, mls_0, mls_1, mls_2, mls_3, mls_4, mls_5, kd_0, kd_1, kd_2, kd_3, ln_0, ln_1, ln_2, ln_3, gf_0, gf_1, gf_2, gf_3, gf_4, gf_7, gf_21, gf_63, dy_0, dy_1, dy_2, dy_3, dy_7, dy_21, px_brT, px_brF, true_and, and_true, and_false, false_and, and_self, true_implies, false_implies, or_true, true_or, or_false, false_or, eq_self, ne_eq, not_false_eq_true, not_true_eq_false, if_true, if_false, List.mem_cons, List.not_mem_nil, List.length_cons, List.length_nil, Nat.reduceEqDiff, Nat.reduceAdd, Nat.reduceSub, Nat.reduceLeDiff, Nat.reduceLT, Int.reduceEq, Int.reduceLT, Int.reduceLE, Int.reduceNeg, Int.reduceAdd, Int.reduceSub, Int.reduceToNat, ↓reduceIte, one_ne_zero_, zero_ne_one_, px_in32L, cd_240, cd_204]
  refine sp_slotT hT ?_
  simp only [px_go, px_Q0_at, px_sx_0, px_sx_s, px_cl, px_step, ↓px_ll, px_lg, f4_, ↓px_r1, ↓px_r2, ↓px_r4, ↓px_r5, ↓px_p1, ↓px_p2, ↓px_p3, ↓px_pop, px_k_0, px_k_s, px_k3_0, px_stk_, px_cats, px_ent, px_st1, px_st2, px_mask, ↓px_tsw, ↓px_lsw, ct_, mls_0, mls_1, mls_2, mls_3, mls_4, mls_5, kd_0, kd_1, kd_2, kd_3, ln_0, ln_1, ln_2, ln_3, gf_0, gf_1, gf_2, gf_3, gf_4, gf_7, gf_21, gf_63, dy_0, dy_1, dy_2, dy_3, dy_7, dy_21, px_brT, px_brF, true_and, and_true, and_false, false_and, and_self, true_implies, false_implies, or_true, true_or, or_false, false_or, eq_self, ne_eq, not_false_eq_true, not_true_eq_false, if_true, if_false, List.mem_cons, List.not_mem_nil, List.length_cons, List.length_nil, Nat.reduceEqDiff, Nat.reduceAdd, Nat.reduceSub, Nat.reduceLeDiff, Nat.reduceLT, Int.reduceEq, Int.reduceLT, Int.reduceLE, Int.reduceNeg, Int.reduceAdd, Int.reduceSub, Int.reduceToNat, ↓reduceIte, one_ne_zero_, zero_ne_one_, px_in32L, cd_240, cd_204]
  refine px_br_intro (fun c1 => ?_) (fun c1 => ?_)
  · exact h0 (Or.inl (by omega))
  · refine px_br_intro (fun c2 => ?_) (fun c2 => ?_)
    · exact h0 (Or.inr (by omega))
    · refine sp_rcommonOf hT ha rfl rfl (by omega) (by omega) (fun r hr => ?_)
      have h := h1 r (by omega) (by omega) hr
      have hrb : r = -1 ∨ (0 ≤ r ∧ r < Mc 20 1) := by
        obtain ⟨s, t, _, _, z | z⟩ := hr
        · exact Or.inl z.1
        · exact Or.inr ⟨z.1, z.2.1⟩
      simp only [px_go, px_Q0_at, px_sx_0, px_sx_s, px_cl, px_step, ↓px_ll, px_lg, f4_, ↓px_r1, ↓px_r2, ↓px_r4, ↓px_r5, ↓px_p1, ↓px_p2, ↓px_p3, ↓px_pop, px_k_0, px_k_s, px_k3_0, px_stk_, px_cats, px_ent, px_st1, px_st2, px_mask, ↓px_tsw, ↓px_lsw, ct_, mls_0, mls_1, mls_2, mls_3, mls_4, mls_5, kd_0, kd_1, kd_2, kd_3, ln_0, ln_1, ln_2, ln_3, gf_0, gf_1, gf_2, gf_3, gf_4, gf_7, gf_21, gf_63, dy_0, dy_1, dy_2, dy_3, dy_7, dy_21, px_brT, px_brF, true_and, and_true, and_false, false_and, and_self, true_implies, false_implies, or_true, true_or, or_false, false_or, eq_self, ne_eq, not_false_eq_true, not_true_eq_false, if_true, if_false, List.mem_cons, List.not_mem_nil, List.length_cons, List.length_nil, Nat.reduceEqDiff, Nat.reduceAdd, Nat.reduceSub, Nat.reduceLeDiff, Nat.reduceLT, Int.reduceEq, Int.reduceLT, Int.reduceLE, Int.reduceNeg, Int.reduceAdd, Int.reduceSub, Int.reduceToNat, ↓reduceIte, one_ne_zero_, zero_ne_one_, px_in32L, cd_240, cd_204]
      refine px_br_intro (fun c3 => ?_) (fun c3 => ?_)
      · rw [if_pos c3] at h; exact h
      · rw [if_neg c3] at h
        have he := (TE_e hT (i := r) (by omega) (by omega)).1
        repeat' (first | (with_reducible apply And.intro) | (with_reducible refine px_br_intro (fun _ => ?_) (fun _ => ?_)))
        all_goals (try (first | (unfold px_in32; omega) | omega))
        have e0 : M 128 (1294 + 186 * r + 0) = Mc (Mc 21 r) 3 := he
        rw [e0]; exact h
end PS
