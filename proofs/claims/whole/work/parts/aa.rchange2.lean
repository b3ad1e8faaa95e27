set_option maxRecDepth 100000 in
/-- X12_change -/
theorem cd_298 : px_at 298 0 = some (1, [], .aload_n 0, []) ∧ px_at 298 1 = some (2, [], .iload_n 1, []) ∧ px_at 298 2 = some (5, [], .invokevirtual 267, [208, 1, 11, 250]) ∧ px_at 298 5 = some (7, [], .istore 5, []) ∧ px_at 298 7 = some (8, [], .aload_n 0, []) ∧ px_at 298 8 = some (9, [], .iload_n 2, []) ∧ px_at 298 9 = some (12, [], .invokevirtual 267, [208, 1, 11, 250]) ∧ px_at 298 12 = some (14, [], .istore 6, []) ∧ px_at 298 14 = some (16, [], .iload 5, []) ∧ px_at 298 16 = some (17, [], .iconst (-1), []) ∧ px_at 298 17 = some (20, [], .if_icmp .eq 34, [51]) ∧ px_at 298 20 = some (22, [], .iload 6, []) ∧ px_at 298 22 = some (23, [], .iconst (-1), []) ∧ px_at 298 23 = some (26, [], .if_icmp .eq 28, [51]) ∧ px_at 298 26 = some (27, [], .iload_n 3, []) ∧ px_at 298 27 = some (28, [], .iconst (-1), []) ∧ px_at 298 28 = some (31, [], .if_icmp .lt 23, [51]) ∧ px_at 298 31 = some (33, [], .iload 4, []) ∧ px_at 298 33 = some (34, [], .iconst 0, []) ∧ px_at 298 34 = some (35, [], .iconst 3, []) ∧ px_at 298 35 = some (38, [], .invokestatic 92, [170, 3, 11, 223]) ∧ px_at 298 38 = some (41, [], .ifCond .eq 13, [51]) ∧ px_at 298 41 = some (42, [], .iload_n 3, []) ∧ px_at 298 42 = some (43, [], .iconst (-1), []) ∧ px_at 298 43 = some (46, [], .if_icmp .ne 10, [53]) ∧ px_at 298 46 = some (48, [], .iload 4, []) ∧ px_at 298 48 = some (51, [], .ifCond .le 5, [53]) ∧ px_at 298 51 = some (52, [], .iconst (-1), []) ∧ px_at 298 52 = some (53, [], .ireturn, [0]) ∧ px_at 298 53 = some (54, [], .iconst 0, []) ∧ px_at 298 54 = some (56, [], .istore 7, []) ∧ px_at 298 56 = some (57, [], .iconst 0, []) ∧ px_at 298 57 = some (59, [], .istore 8, []) ∧ px_at 298 59 = some (60, [], .iconst 0, []) ∧ px_at 298 60 = some (62, [], .istore 9, []) ∧ px_at 298 62 = some (64, [1, 0, 0, 1, 1, 1, 1, 1, 1, 1, 0, 0], .iload 8, []) ∧ px_at 298 64 = some (65, [], .aload_n 0, []) ∧ px_at 298 65 = some (67, [], .iload 5, []) ∧ px_at 298 67 = some (70, [], .invokevirtual 180, [206, 1, 11, 253]) ∧ px_at 298 70 = some (73, [], .if_icmp .lt 14, [84]) ∧ px_at 298 73 = some (75, [], .iload 9, []) ∧ px_at 298 75 = some (76, [], .aload_n 0, []) ∧ px_at 298 76 = some (78, [], .iload 6, []) ∧ px_at 298 78 = some (81, [], .invokevirtual 180, [206, 1, 11, 253]) ∧ px_at 298 81 = some (84, [], .if_icmp .ge 175, [256]) ∧ px_at 298 84 = some (86, [], .iload 8, []) ∧ px_at 298 86 = some (87, [], .aload_n 0, []) ∧ px_at 298 87 = some (89, [], .iload 5, []) ∧ px_at 298 89 = some (92, [], .invokevirtual 180, [206, 1, 11, 253]) ∧ px_at 298 92 = some (95, [], .if_icmp .ne 7, [99]) ∧ px_at 298 95 = some (96, [], .iconst 1, []) ∧ px_at 298 96 = some (99, [], .goto 45, [141]) ∧ px_at 298 99 = some (101, [], .iload 9, []) ∧ px_at 298 101 = some (102, [], .aload_n 0, []) ∧ px_at 298 102 = some (104, [], .iload 6, []) ∧ px_at 298 104 = some (107, [], .invokevirtual 180, [206, 1, 11, 253]) ∧ px_at 298 107 = some (110, [], .if_icmp .ne 7, [114]) ∧ px_at 298 110 = some (111, [], .iconst (-1), []) ∧ px_at 298 111 = some (114, [], .goto 30, [141]) ∧ px_at 298 114 = some (115, [], .aload_n 0, []) ∧ px_at 298 115 = some (118, [], .getfield 7, [11, 0, 2, 1, 125]) ∧ px_at 298 118 = some (119, [], .aload_n 0, []) ∧ px_at 298 119 = some (121, [], .iload 5, []) ∧ px_at 298 121 = some (123, [], .iload 8, []) ∧ px_at 298 123 = some (126, [], .invokevirtual 177, [205, 2, 11, 254]) ∧ px_at 298 126 = some (127, [], .aload_n 0, []) ∧ px_at 298 127 = some (130, [], .getfield 7, [11, 0, 2, 1, 125]) ∧ px_at 298 130 = some (131, [], .aload_n 0, []) ∧ px_at 298 131 = some (133, [], .iload 6, []) ∧ px_at 298 133 = some (135, [], .iload 9, []) ∧ px_at 298 135 = some (138, [], .invokevirtual 177, [205, 2, 11, 254]) ∧ px_at 298 138 = some (141, [], .invokestatic 183, [182, 4, 11, 230]) ∧ px_at 298 141 = some (143, [], .istore 10, []) ∧ px_at 298 143 = some (145, [], .iload 10, []) ∧ px_at 298 145 = some (148, [], .ifCond .ne 22, [167]) ∧ px_at 298 148 = some (149, [], .aload_n 0, []) ∧ px_at 298 149 = some (151, [], .iload 5, []) ∧ px_at 298 151 = some (153, [], .iload 8, []) ∧ px_at 298 153 = some (156, [], .invokevirtual 187, [207, 2, 11, 256]) ∧ px_at 298 156 = some (157, [], .aload_n 0, []) ∧ px_at 298 157 = some (159, [], .iload 6, []) ∧ px_at 298 159 = some (161, [], .iload 9, []) ∧ px_at 298 161 = some (164, [], .invokevirtual 187, [207, 2, 11, 256]) ∧ px_at 298 164 = some (167, [], .if_icmp .eq 7, [171]) ∧ px_at 298 167 = some (168, [], .iconst 1, []) ∧ px_at 298 168 = some (171, [], .goto 4, [172]) ∧ px_at 298 171 = some (172, [], .iconst 0, []) ∧ px_at 298 172 = some (174, [], .istore 11, []) ∧ px_at 298 174 = some (176, [], .iload 11, []) ∧ px_at 298 176 = some (179, [], .ifCond .eq 44, [220]) ∧ px_at 298 179 = some (181, [], .iload 7, []) ∧ px_at 298 181 = some (182, [], .iload_n 3, []) ∧ px_at 298 182 = some (185, [], .if_icmp .ne 38, [220]) ∧ px_at 298 185 = some (186, [], .aload_n 0, []) ∧ px_at 298 186 = some (188, [], .iload 5, []) ∧ px_at 298 188 = some (190, [], .iload 6, []) ∧ px_at 298 190 = some (192, [], .iload 10, []) ∧ px_at 298 192 = some (195, [], .ifCond .le 8, [200]) ∧ px_at 298 195 = some (197, [], .bipush (-2), []) ∧ px_at 298 197 = some (200, [], .goto 5, [202]) ∧ px_at 298 200 = some (202, [], .iload 8, []) ∧ px_at 298 202 = some (204, [], .iload 10, []) ∧ px_at 298 204 = some (207, [], .ifCond .ge 8, [212]) ∧ px_at 298 207 = some (209, [], .bipush (-2), []) ∧ px_at 298 209 = some (212, [], .goto 5, [214]) ∧ px_at 298 212 = some (214, [], .iload 9, []) ∧ px_at 298 214 = some (216, [], .iload 4, []) ∧ px_at 298 216 = some (219, [], .invokevirtual 417, [297, 5, 11, 351]) ∧ px_at 298 219 = some (220, [], .ireturn, [0]) ∧ px_at 298 220 = some (222, [], .iload 11, []) ∧ px_at 298 222 = some (225, [], .ifCond .eq 9, [231]) ∧ px_at 298 225 = some (227, [], .iload 7, []) ∧ px_at 298 227 = some (228, [], .iconst 1, []) ∧ px_at 298 228 = some (229, [], .iadd, []) ∧ px_at 298 229 = some (231, [], .istore 7, []) ∧ px_at 298 231 = some (233, [], .iload 10, []) ∧ px_at 298 233 = some (236, [], .ifCond .gt 9, [242]) ∧ px_at 298 236 = some (238, [], .iload 8, []) ∧ px_at 298 238 = some (239, [], .iconst 1, []) ∧ px_at 298 239 = some (240, [], .iadd, []) ∧ px_at 298 240 = some (242, [], .istore 8, []) ∧ px_at 298 242 = some (244, [], .iload 10, []) ∧ px_at 298 244 = some (247, [], .ifCond .lt 9, [253]) ∧ px_at 298 247 = some (249, [], .iload 9, []) ∧ px_at 298 249 = some (250, [], .iconst 1, []) ∧ px_at 298 250 = some (251, [], .iadd, []) ∧ px_at 298 251 = some (253, [], .istore 9, []) ∧ px_at 298 253 = some (256, [], .goto (-191), [62]) ∧ px_at 298 256 = some (257, [], .iload_n 3, []) ∧ px_at 298 257 = some (258, [], .iconst (-1), []) ∧ px_at 298 258 = some (261, [], .if_icmp .ne 8, [266]) ∧ px_at 298 261 = some (263, [], .iload 7, []) ∧ px_at 298 263 = some (266, [], .goto 4, [267]) ∧ px_at 298 266 = some (267, [], .iconst (-1), []) ∧ px_at 298 267 = some (268, [], .ireturn, [0]) := ⟨rfl, rfl, rfl, rfl, rfl, rfl, rfl, rfl, rfl, rfl, rfl, rfl, rfl, rfl, rfl, rfl, rfl, rfl, rfl, rfl, rfl, rfl, rfl, rfl, rfl, rfl, rfl, rfl, rfl, rfl, rfl, rfl, rfl, rfl, rfl, rfl, rfl, rfl, rfl, rfl, rfl, rfl, rfl, rfl, rfl, rfl, rfl, rfl, rfl, rfl, rfl, rfl, rfl, rfl, rfl, rfl, rfl, rfl, rfl, rfl, rfl, rfl, rfl, rfl, rfl, rfl, rfl, rfl, rfl, rfl, rfl, rfl, rfl, rfl, rfl, rfl, rfl, rfl, rfl, rfl, rfl, rfl, rfl, rfl, rfl, rfl, rfl, rfl, rfl, rfl, rfl, rfl, rfl, rfl, rfl, rfl, rfl, rfl, rfl, rfl, rfl, rfl, rfl, rfl, rfl, rfl, rfl, rfl, rfl, rfl, rfl, rfl, rfl, rfl, rfl, rfl, rfl, rfl, rfl, rfl, rfl, rfl, rfl, rfl, rfl, rfl, rfl, rfl, rfl, rfl, rfl, rfl, rfl, rfl, rfl⟩
/-! the reference: change, its loop -/
section PS
variable {M : px_mem} {Q : Option pv → px_mem → Prop}
set_option maxHeartbeats 4000000 in
set_option maxRecDepth 100000 in
theorem lp_chg {Mc : px_mem} {sa sb k w : Int} {U : List (List Int)} {pl : Int → Int → List Int} {nm : Int → List Int} (hT : TE Mc pl nm (M 128)) (hsa : 0 ≤ sa ∧ sa < Mc 20 1) (hsb : 0 ≤ sb ∧ sb < Mc 20 1) (hk : -1 ≤ k) (hw : 0 ≤ w ∧ w ≤ 3) (hkw : k = -1 → w = 0) (hU : isU (uL2 Mc (Mc 21 sa) (Mc 21 sb) (pl sa) (pl sb)) U) (h : Q (some (0, chgR Mc (Mc 21 sa) (Mc 21 sb) (pl sa) (pl sb) (chgD Mc pl sa sb U) k w)) M) : ∀ (f : Nat) (i j : Int) (m : Nat), 25 ≤ (f : Int) + i + j → m ≤ U.length → (m : Int) ≤ i + j → pfx (Mc (Mc 21 sa) 2) (pl sa) (U.take m) i → pfx (Mc (Mc 21 sb) 2) (pl sb) (U.take m) j → (0 ≤ k → ((chgD Mc pl sa sb (U.take m)).length : Int) ≤ k) → px_WP 298 0 0 (px_Q0 LAY Q) 62 [(2, 127), (9, 0), (9, 0), (0, k), (0, w), (0, sa), (0, sb), (0, ((chgD Mc pl sa sb (U.take m)).length : Int)), (0, i), (0, j), (9, 0), (9, 0)] [] LAY M 0 0 := by
  have hTn := TE_n hT
  have hea := TE_e hT hsa.1 hsa.2
  have heb := TE_e hT hsb.1 hsb.2
  have e17a : M 128 (1294 + 186 * sa + 17) = Mc (Mc 21 sa) 2 := hea.2.2.2.2.1
  have e17b : M 128 (1294 + 186 * sb + 17) = Mc (Mc 21 sb) 2 := heb.2.2.2.2.1
  have h12a := hea.2.2.2.2.2
  have h12b := heb.2.2.2.2.2
  have hsra : ∀ a b, 0 ≤ a → a < b → b < Mc (Mc 21 sa) 2 → enc (pl sa a) < enc (pl sa b) := rbG_srt hT.2.1 hsa.1 hsa.2
  have hsrb : ∀ a b, 0 ≤ a → a < b → b < Mc (Mc 21 sb) 2 → enc (pl sb a) < enc (pl sb b) := rbG_srt hT.2.1 hsb.1 hsb.2
  have hina : ∀ j, 0 ≤ j → j < Mc (Mc 21 sa) 2 → pl sa j ∈ U := fun j j0 j1 => (hU.2 _).mpr (Or.inl ⟨j, j0, j1, rfl⟩)
  have hinb : ∀ j, 0 ≤ j → j < Mc (Mc 21 sb) 2 → pl sb j ∈ U := fun j j0 j1 => (hU.2 _).mpr (Or.inr ⟨j, j0, j1, rfl⟩)
  intro f
  induction f with
  | zero =>
    intro i j m hf hm hmij hA hB hn
    have := hA.1
    have := hB.1
    omega
  | succ f ih =>
    intro i j m hf hm hmij hA hB hn
    have hA1 := hA.1
    have hB1 := hB.1
    have hD24 : ((chgD Mc pl sa sb (U.take m)).length : Int) ≤ 24 := by
      have h1 := (chf_len (cAt Mc (Mc 21 sa) (pl sa)) (cAt Mc (Mc 21 sb) (pl sb)) (pAt Mc (Mc 21 sa) (pl sa)) (pAt Mc (Mc 21 sb) (pl sb)) (U.take m)).1
      have h2 : (chgD Mc pl sa sb (U.take m)).length ≤ (U.take m).length := h1
      have h3 := @List.length_take_le _ m U
      omega
    by_cases hend : i = Mc (Mc 21 sa) 2 ∧ j = Mc (Mc 21 sb) 2
    · have hmU : U.take m = U := by
        by_cases q : m = U.length
        · rw [q, List.take_length]
        · exfalso
          have hg : U[m]? = some (U[m]'(by omega)) := List.getElem?_eq_getElem (by omega)
          have hmem : U[m]'(by omega) ∈ U := List.getElem_mem _
          generalize U[m]'(by omega) = P at *
          have hk := (tk_lt hU.1 hg).1
          rcases (hU.2 P).mp hmem with ⟨t, t0, t1, t2⟩ | ⟨t, t0, t1, t2⟩
          · have h1 := (hA.2 t t0 t1).mp (by omega)
            rw [t2] at h1
            have := hk P h1; omega
          · have h1 := (hB.2 t t0 t1).mp (by omega)
            rw [t2] at h1
            have := hk P h1; omega
      rw [hmU] at hn hD24 ⊢
      have n1 : (i < Mc (Mc 21 sa) 2) = False := eq_false (by omega)
      have n2 : (Mc (Mc 21 sb) 2 ≤ j) = True := eq_true (by omega)
      refine px_go_ok (inl := [204, 206]) 60 ?_
      simp only [px_go, px_Q0_at, px_sx_0, px_sx_s, px_cl, px_step, ↓px_ll, px_lg, f4_, ↓px_r1, ↓px_r2, ↓px_r4, ↓px_r5, ↓px_p1, ↓px_p2, ↓px_p3, ↓px_pop, px_k_0, px_k_s, px_k3_0, px_stk_, px_cats, px_ent, px_st1, px_st2, px_mask, ↓px_tsw, ↓px_lsw, ct_, mls_0, mls_1, mls_2, mls_3, mls_4, mls_5, kd_0, kd_1, kd_2, kd_3, ln_0, ln_1, ln_2, ln_3, gf_0, gf_1, gf_2, gf_3, gf_4, gf_7, gf_21, gf_63, dy_0, dy_1, dy_2, dy_3, dy_7, dy_21, px_brT, px_brF, true_and, and_true, and_false, false_and, and_self, true_implies, false_implies, or_true, true_or, or_false, false_or, eq_self, ne_eq, not_false_eq_true, not_true_eq_false, if_true, if_false, List.mem_cons, List.not_mem_nil, List.length_cons, List.length_nil, Nat.reduceEqDiff, Nat.reduceAdd, Nat.reduceSub, Nat.reduceLeDiff, Nat.reduceLT, Int.reduceEq, Int.reduceLT, Int.reduceLE, Int.reduceNeg, Int.reduceAdd, Int.reduceSub, Int.reduceToNat, ↓reduceIte, one_ne_zero_, zero_ne_one_, px_in32L, cd_298, cd_204, cd_206, e17a, e17b, n1, n2]
      repeat' (first | (with_reducible apply And.intro) | (with_reducible refine px_br_intro (fun _ => ?_) (fun _ => ?_)))
      all_goals (try (first | (unfold px_in32; omega) | omega))
      · rename_i c1
        unfold chgR at h
        rw [if_pos c1, if_pos (hkw c1)] at h; exact h
      · rename_i c1
        unfold chgR at h
        have hn := hn (by omega)
        rw [if_neg c1, List.getElem?_eq_none (by omega)] at h; exact h
    · have hmU : m < U.length := by
        rcases (by omega : m < U.length ∨ m = U.length) with q | q
        · exact q
        · exfalso
          rw [q, List.take_length] at hA hB
          by_cases q2 : i < Mc (Mc 21 sa) 2
          · have := (hA.2 i hA1.1 q2).mpr (hina i hA1.1 q2); omega
          · have := (hB.2 j hB1.1 (by omega)).mpr (hinb j hB1.1 (by omega)); omega
      have hg : U[m]? = some (U[m]'(by omega)) := List.getElem?_eq_getElem (by omega)
      have hmem : U[m]'(by omega) ∈ U := List.getElem_mem _
      generalize U[m]'(by omega) = P at *
      have pA := pf_at hsra hU.1 hina hg hA
      have pB := pf_at hsrb hU.1 hinb hg hB
      have qA := pf_c (M := Mc) (e := Mc 21 sa) hA1.1 pA.1
      have qB := pf_c (M := Mc) (e := Mc 21 sb) hB1.1 pB.1
      have hAB : (i < Mc (Mc 21 sa) 2 ∧ pl sa i = P) ∨ (j < Mc (Mc 21 sb) 2 ∧ pl sb j = P) := by
        rcases (hU.2 P).mp hmem with ⟨t, t0, t1, t2⟩ | ⟨t, t0, t1, t2⟩
        · have := pA.1 t t0 t1 t2
          rw [this] at t1 t2; exact Or.inl ⟨t1, t2⟩
        · have := pB.1 t t0 t1 t2
          rw [this] at t1 t2; exact Or.inr ⟨t1, t2⟩
      have enA := fun q => TE_ent hT hsa.1 hsa.2 hA1.1 q
      have enB := fun q => TE_ent hT hsb.1 hsb.2 hB1.1 q
      have hsn : chgD Mc pl sa sb (U.take (m + 1)) = chst (cAt Mc (Mc 21 sa) (pl sa)) (cAt Mc (Mc 21 sb) (pl sb)) (pAt Mc (Mc 21 sa) (pl sa)) (pAt Mc (Mc 21 sb) (pl sb)) (chgD Mc pl sa sb (U.take m)) P := by
        rw [tk_s hg]; unfold chgD; exact chf_snoc _ _ _ _ _ _
      have hhit : cAt Mc (Mc 21 sa) (pl sa) P ≠ cAt Mc (Mc 21 sb) (pl sb) P → ((chgD Mc pl sa sb (U.take m)).length : Int) = k → Q (some (0, tdR Mc (Mc 21 sa) (Mc 21 sb) (pl sa) (pl sb) (pAt Mc (Mc 21 sa) (pl sa) P) (pAt Mc (Mc 21 sb) (pl sb) P) w)) M := fun z1 z2 => by
        have h1 : (chgD Mc pl sa sb U)[(chgD Mc pl sa sb (U.take m)).length]? = some (chk (cAt Mc (Mc 21 sa) (pl sa) P) (cAt Mc (Mc 21 sb) (pl sb) P), pAt Mc (Mc 21 sa) (pl sa) P, pAt Mc (Mc 21 sb) (pl sb) P) := chf_at hg z1
        rw [tdR_chg (x := cAt Mc (Mc 21 sa) (pl sa) P) (y := cAt Mc (Mc 21 sb) (pl sb) P) (i := pAt Mc (Mc 21 sa) (pl sa) P) (j := pAt Mc (Mc 21 sb) (pl sb) P) (by rw [← z2, Int.toNat_natCast]; exact h1) (by omega) ?_ ?_] at h
        · exact h
        · by_cases q : i < Mc (Mc 21 sa) 2 ∧ pl sa i = P
          · have := (enA q.1).2.2.2.1
            rw [(qA.1 q.1 q.2).1, (qA.1 q.1 q.2).2]; omega
          · rw [(qA.2 q).1, (qA.2 q).2]; omega
        · by_cases q : j < Mc (Mc 21 sb) 2 ∧ pl sb j = P
          · have := (enB q.1).2.2.2.1
            rw [(qB.1 q.1 q.2).1, (qB.1 q.1 q.2).2]; omega
          · rw [(qB.2 q).1, (qB.2 q).2]; omega
      have hnext : ∀ i2 j2, i + j < i2 + j2 → pfx (Mc (Mc 21 sa) 2) (pl sa) (U.take (m + 1)) i2 → pfx (Mc (Mc 21 sb) 2) (pl sb) (U.take (m + 1)) j2 → cAt Mc (Mc 21 sa) (pl sa) P ≠ cAt Mc (Mc 21 sb) (pl sb) P → ¬ ((chgD Mc pl sa sb (U.take m)).length : Int) = k → px_WP 298 0 0 (px_Q0 LAY Q) 62 [(2, 127), (9, 0), (9, 0), (0, k), (0, w), (0, sa), (0, sb), (0, ((chgD Mc pl sa sb (U.take m)).length : Int) + 1), (0, i2), (0, j2), (9, 0), (9, 0)] [] LAY M 0 0 := fun i2 j2 z1 z2 z3 z4 z5 => by
        have e : ((chgD Mc pl sa sb (U.take (m + 1))).length : Int) = ((chgD Mc pl sa sb (U.take m)).length : Int) + 1 := by
          rw [hsn]; unfold chst; rw [if_neg z4, List.length_append]; rfl
        have := ih i2 j2 (m + 1) (by omega) (by omega) (by omega) z2 z3 (fun q => by have := hn q; omega)
        rw [e] at this; exact this
      have hsame : ∀ i2 j2, i + j < i2 + j2 → pfx (Mc (Mc 21 sa) 2) (pl sa) (U.take (m + 1)) i2 → pfx (Mc (Mc 21 sb) 2) (pl sb) (U.take (m + 1)) j2 → cAt Mc (Mc 21 sa) (pl sa) P = cAt Mc (Mc 21 sb) (pl sb) P → px_WP 298 0 0 (px_Q0 LAY Q) 62 [(2, 127), (9, 0), (9, 0), (0, k), (0, w), (0, sa), (0, sb), (0, ((chgD Mc pl sa sb (U.take m)).length : Int)), (0, i2), (0, j2), (9, 0), (9, 0)] [] LAY M 0 0 := fun i2 j2 z1 z2 z3 z4 => by
        have e : ((chgD Mc pl sa sb (U.take (m + 1))).length : Int) = ((chgD Mc pl sa sb (U.take m)).length : Int) := by
          rw [hsn]; unfold chst; rw [if_pos z4]
        have := ih i2 j2 (m + 1) (by omega) (by omega) (by omega) z2 z3 (fun q => by have := hn q; omega)
        rw [e] at this; exact this
      clear ih hsn
      generalize hDn : ((chgD Mc pl sa sb (U.take m)).length : Int) = n at *
      have hn0 : 0 ≤ n := by omega
      have honlyA : (i < Mc (Mc 21 sa) 2 ∧ pl sa i = P) → ¬ (j < Mc (Mc 21 sb) 2 ∧ pl sb j = P) → (n = k → Q (some (0, tdR Mc (Mc 21 sa) (Mc 21 sb) (pl sa) (pl sb) i (-2) w)) M) ∧ (¬ n = k → px_WP 298 0 0 (px_Q0 LAY Q) 62 [(2, 127), (9, 0), (9, 0), (0, k), (0, w), (0, sa), (0, sb), (0, n + 1), (0, i + 1), (0, j), (9, 0), (9, 0)] [] LAY M 0 0) := fun z1 z2 => by
        have c1 := qA.1 z1.1 z1.2
        have c2 := qB.2 z2
        have h0 := (enA z1.1).2.2.2.1
        rw [c1.1, c1.2, c2.1, c2.2] at hhit
        rw [c1.2, c2.2] at hnext
        exact ⟨fun q => hhit (by omega) q, fun q => hnext (i + 1) j (by omega) (pA.2.2.1 z1.1 z1.2) (pB.2.2.2 z2) (by omega) q⟩
      have honlyB : ¬ (i < Mc (Mc 21 sa) 2 ∧ pl sa i = P) → (j < Mc (Mc 21 sb) 2 ∧ pl sb j = P) → (n = k → Q (some (0, tdR Mc (Mc 21 sa) (Mc 21 sb) (pl sa) (pl sb) (-2) j w)) M) ∧ (¬ n = k → px_WP 298 0 0 (px_Q0 LAY Q) 62 [(2, 127), (9, 0), (9, 0), (0, k), (0, w), (0, sa), (0, sb), (0, n + 1), (0, i), (0, j + 1), (9, 0), (9, 0)] [] LAY M 0 0) := fun z1 z2 => by
        have c1 := qA.2 z1
        have c2 := qB.1 z2.1 z2.2
        have h0 := (enB z2.1).2.2.2.1
        rw [c1.1, c1.2, c2.1, c2.2] at hhit
        rw [c1.2, c2.2] at hnext
        exact ⟨fun q => hhit (by omega) q, fun q => hnext i (j + 1) (by omega) (pA.2.2.2 z1) (pB.2.2.1 z2.1 z2.2) (by omega) q⟩
      by_cases ci1 : i = Mc (Mc 21 sa) 2
      · have hb := honlyB (fun z => by omega) (by rcases hAB with z | z
                                                  · omega
                                                  · exact z)
        have n1 : (i < Mc (Mc 21 sa) 2) = False := eq_false (by omega)
        have n2 : (Mc (Mc 21 sb) 2 ≤ j) = False := eq_false (by omega)
        have n3 : (i = Mc (Mc 21 sa) 2) = True := eq_true ci1
        refine px_go_ok (inl := [204, 206]) 60 ?_
        simp only [px_go, px_Q0_at, px_sx_0, px_sx_s, px_cl, px_step, ↓px_ll, px_lg, f4_, ↓px_r1, ↓px_r2, ↓px_r4, ↓px_r5, ↓px_p1, ↓px_p2, ↓px_p3, ↓px_pop, px_k_0, px_k_s, px_k3_0, px_stk_, px_cats, px_ent, px_st1, px_st2, px_mask, ↓px_tsw, ↓px_lsw, ct_, mls_0, mls_1, mls_2, mls_3, mls_4, mls_5, kd_0, kd_1, kd_2, kd_3, ln_0, ln_1, ln_2, ln_3, gf_0, gf_1, gf_2, gf_3, gf_4, gf_7, gf_21, gf_63, dy_0, dy_1, dy_2, dy_3, dy_7, dy_21, px_brT, px_brF, true_and, and_true, and_false, false_and, and_self, true_implies, false_implies, or_true, true_or, or_false, false_or, eq_self, ne_eq, not_false_eq_true, not_true_eq_false, if_true, if_false, List.mem_cons, List.not_mem_nil, List.length_cons, List.length_nil, Nat.reduceEqDiff, Nat.reduceAdd, Nat.reduceSub, Nat.reduceLeDiff, Nat.reduceLT, Int.reduceEq, Int.reduceLT, Int.reduceLE, Int.reduceNeg, Int.reduceAdd, Int.reduceSub, Int.reduceToNat, ↓reduceIte, one_ne_zero_, zero_ne_one_, px_in32L, cd_298, cd_204, cd_206, e17a, e17b, n1, n2, n3]
        repeat' (first | (with_reducible apply And.intro) | (with_reducible refine px_br_intro (fun _ => ?_) (fun _ => ?_)))
        all_goals (try (first | (unfold px_in32; omega) | omega))
        · rename_i c1
          refine sp_toldCh hT hsa hsb hw (fun _ => ⟨hB1.1, by omega⟩) ?_
          simp only [px_go, px_Q0_at, px_sx_0, px_sx_s, px_cl, px_step, ↓px_ll, px_lg, f4_, ↓px_r1, ↓px_r2, ↓px_r4, ↓px_r5, ↓px_p1, ↓px_p2, ↓px_p3, ↓px_pop, px_k_0, px_k_s, px_k3_0, px_stk_, px_cats, px_ent, px_st1, px_st2, px_mask, ↓px_tsw, ↓px_lsw, ct_, mls_0, mls_1, mls_2, mls_3, mls_4, mls_5, kd_0, kd_1, kd_2, kd_3, ln_0, ln_1, ln_2, ln_3, gf_0, gf_1, gf_2, gf_3, gf_4, gf_7, gf_21, gf_63, dy_0, dy_1, dy_2, dy_3, dy_7, dy_21, px_brT, px_brF, true_and, and_true, and_false, false_and, and_self, true_implies, false_implies, or_true, true_or, or_false, false_or, eq_self, ne_eq, not_false_eq_true, not_true_eq_false, if_true, if_false, List.mem_cons, List.not_mem_nil, List.length_cons, List.length_nil, Nat.reduceEqDiff, Nat.reduceAdd, Nat.reduceSub, Nat.reduceLeDiff, Nat.reduceLT, Int.reduceEq, Int.reduceLT, Int.reduceLE, Int.reduceNeg, Int.reduceAdd, Int.reduceSub, Int.reduceToNat, ↓reduceIte, one_ne_zero_, zero_ne_one_, px_in32L, cd_298]
          exact hb.1 c1
        · rename_i c1
          exact hb.2 c1
      · by_cases cj1 : j = Mc (Mc 21 sb) 2
        · have hb := honlyA (by rcases hAB with z | z
                                · exact z
                                · omega) (fun z => by omega)
          have n1 : (i < Mc (Mc 21 sa) 2) = True := eq_true (by omega)
          have n2 : (i = Mc (Mc 21 sa) 2) = False := eq_false ci1
          have n3 : (j = Mc (Mc 21 sb) 2) = True := eq_true cj1
          refine px_go_ok (inl := [204, 206]) 60 ?_
          simp only [px_go, px_Q0_at, px_sx_0, px_sx_s, px_cl, px_step, ↓px_ll, px_lg, f4_, ↓px_r1, ↓px_r2, ↓px_r4, ↓px_r5, ↓px_p1, ↓px_p2, ↓px_p3, ↓px_pop, px_k_0, px_k_s, px_k3_0, px_stk_, px_cats, px_ent, px_st1, px_st2, px_mask, ↓px_tsw, ↓px_lsw, ct_, mls_0, mls_1, mls_2, mls_3, mls_4, mls_5, kd_0, kd_1, kd_2, kd_3, ln_0, ln_1, ln_2, ln_3, gf_0, gf_1, gf_2, gf_3, gf_4, gf_7, gf_21, gf_63, dy_0, dy_1, dy_2, dy_3, dy_7, dy_21, px_brT, px_brF, true_and, and_true, and_false, false_and, and_self, true_implies, false_implies, or_true, true_or, or_false, false_or, eq_self, ne_eq, not_false_eq_true, not_true_eq_false, if_true, if_false, List.mem_cons, List.not_mem_nil, List.length_cons, List.length_nil, Nat.reduceEqDiff, Nat.reduceAdd, Nat.reduceSub, Nat.reduceLeDiff, Nat.reduceLT, Int.reduceEq, Int.reduceLT, Int.reduceLE, Int.reduceNeg, Int.reduceAdd, Int.reduceSub, Int.reduceToNat, ↓reduceIte, one_ne_zero_, zero_ne_one_, px_in32L, cd_298, cd_204, cd_206, e17a, e17b, n1, n2, n3]
          repeat' (first | (with_reducible apply And.intro) | (with_reducible refine px_br_intro (fun _ => ?_) (fun _ => ?_)))
          all_goals (try (first | (unfold px_in32; omega) | omega))
          · rename_i c1
            refine sp_toldCh hT hsa hsb hw (fun z => by omega) ?_
            simp only [px_go, px_Q0_at, px_sx_0, px_sx_s, px_cl, px_step, ↓px_ll, px_lg, f4_, ↓px_r1, ↓px_r2, ↓px_r4, ↓px_r5, ↓px_p1, ↓px_p2, ↓px_p3, ↓px_pop, px_k_0, px_k_s, px_k3_0, px_stk_, px_cats, px_ent, px_st1, px_st2, px_mask, ↓px_tsw, ↓px_lsw, ct_, mls_0, mls_1, mls_2, mls_3, mls_4, mls_5, kd_0, kd_1, kd_2, kd_3, ln_0, ln_1, ln_2, ln_3, gf_0, gf_1, gf_2, gf_3, gf_4, gf_7, gf_21, gf_63, dy_0, dy_1, dy_2, dy_3, dy_7, dy_21, px_brT, px_brF, true_and, and_true, and_false, false_and, and_self, true_implies, false_implies, or_true, true_or, or_false, false_or, eq_self, ne_eq, not_false_eq_true, not_true_eq_false, if_true, if_false, List.mem_cons, List.not_mem_nil, List.length_cons, List.length_nil, Nat.reduceEqDiff, Nat.reduceAdd, Nat.reduceSub, Nat.reduceLeDiff, Nat.reduceLT, Int.reduceEq, Int.reduceLT, Int.reduceLE, Int.reduceNeg, Int.reduceAdd, Int.reduceSub, Int.reduceToNat, ↓reduceIte, one_ne_zero_, zero_ne_one_, px_in32L, cd_298]
            exact hb.1 c1
          · rename_i c1
            exact hb.2 c1
        · have n1 : (i < Mc (Mc 21 sa) 2) = True := eq_true (by omega)
          have n2 : (i = Mc (Mc 21 sa) 2) = False := eq_false ci1
          have n3 : (j = Mc (Mc 21 sb) 2) = False := eq_false cj1
          have en1 := enA (by omega)
          have en2 := enB (by omega)
          have eca : M 128 (1294 + 186 * sa + 18 + 14 * i + 13) = Mc (Mc 21 sa + 2) i := en1.1.2.2
          have ecb : M 128 (1294 + 186 * sb + 18 + 14 * j + 13) = Mc (Mc 21 sb + 2) j := en2.1.2.2
          have lA := pA.2.1 (by omega)
          have lB := pB.2.1 (by omega)
          refine px_go_ok (inl := [204, 205, 206, 207]) 120 ?_
          simp only [px_go, px_Q0_at, px_sx_0, px_sx_s, px_cl, px_step, ↓px_ll, px_lg, f4_, ↓px_r1, ↓px_r2, ↓px_r4, ↓px_r5, ↓px_p1, ↓px_p2, ↓px_p3, ↓px_pop, px_k_0, px_k_s, px_k3_0, px_stk_, px_cats, px_ent, px_st1, px_st2, px_mask, ↓px_tsw, ↓px_lsw, ct_, mls_0, mls_1, mls_2, mls_3, mls_4, mls_5, kd_0, kd_1, kd_2, kd_3, ln_0, ln_1, ln_2, ln_3, gf_0, gf_1, gf_2, gf_3, gf_4, gf_7, gf_21, gf_63, dy_0, dy_1, dy_2, dy_3, dy_7, dy_21, px_brT, px_brF, true_and, and_true, and_false, false_and, and_self, true_implies, false_implies, or_true, true_or, or_false, false_or, eq_self, ne_eq, not_false_eq_true, not_true_eq_false, if_true, if_false, List.mem_cons, List.not_mem_nil, List.length_cons, List.length_nil, Nat.reduceEqDiff, Nat.reduceAdd, Nat.reduceSub, Nat.reduceLeDiff, Nat.reduceLT, Int.reduceEq, Int.reduceLT, Int.reduceLE, Int.reduceNeg, Int.reduceAdd, Int.reduceSub, Int.reduceToNat, ↓reduceIte, one_ne_zero_, zero_ne_one_, px_in32L, cd_298, cd_204, cd_205, cd_206, cd_207, e17a, e17b, n1, n2, n3]
          repeat' (first | (with_reducible apply And.intro) | (with_reducible refine px_br_intro (fun _ => ?_) (fun _ => ?_)))
          all_goals (try (first | (unfold px_in32; omega) | omega))
          refine sp_against rfl rfl en1.1.1 en2.1.1 ⟨by decide, by decide⟩ (fun r r1 r2 => ?_)
          rw [en1.1.2.1, en2.1.2.1] at r1 r2
          have tri := enc_tri en1.2.1 en2.2.1 r1 r2
          rcases (by omega : r < 0 ∨ r = 0 ∨ 0 < r) with q | q | q
          · have hnb : ¬ (j < Mc (Mc 21 sb) 2 ∧ pl sb j = P) := fun z => by
              rw [z.2] at tri; omega
            have hb := honlyA (by rcases hAB with z | z
                                  · exact z
                                  · exact absurd z hnb) hnb
            have s1 : (r = 0) = False := eq_false (by omega)
            have s2 : (r ≤ 0) = True := eq_true (by omega)
            have s3 : (0 ≤ r) = False := eq_false (by omega)
            have s4 : (0 < r) = False := eq_false (by omega)
            have s5 : (r < 0) = True := eq_true q
            simp only [px_go, px_Q0_at, px_sx_0, px_sx_s, px_cl, px_step, ↓px_ll, px_lg, f4_, ↓px_r1, ↓px_r2, ↓px_r4, ↓px_r5, ↓px_p1, ↓px_p2, ↓px_p3, ↓px_pop, px_k_0, px_k_s, px_k3_0, px_stk_, px_cats, px_ent, px_st1, px_st2, px_mask, ↓px_tsw, ↓px_lsw, ct_, mls_0, mls_1, mls_2, mls_3, mls_4, mls_5, kd_0, kd_1, kd_2, kd_3, ln_0, ln_1, ln_2, ln_3, gf_0, gf_1, gf_2, gf_3, gf_4, gf_7, gf_21, gf_63, dy_0, dy_1, dy_2, dy_3, dy_7, dy_21, px_brT, px_brF, true_and, and_true, and_false, false_and, and_self, true_implies, false_implies, or_true, true_or, or_false, false_or, eq_self, ne_eq, not_false_eq_true, not_true_eq_false, if_true, if_false, List.mem_cons, List.not_mem_nil, List.length_cons, List.length_nil, Nat.reduceEqDiff, Nat.reduceAdd, Nat.reduceSub, Nat.reduceLeDiff, Nat.reduceLT, Int.reduceEq, Int.reduceLT, Int.reduceLE, Int.reduceNeg, Int.reduceAdd, Int.reduceSub, Int.reduceToNat, ↓reduceIte, one_ne_zero_, zero_ne_one_, px_in32L, cd_298, cd_204, cd_205, cd_207, s1, s2, s3, s4, s5, eca, ecb]
            repeat' (first | (with_reducible apply And.intro) | (with_reducible refine px_br_intro (fun _ => ?_) (fun _ => ?_)))
            all_goals (try (first | (unfold px_in32; omega) | omega))
            · rename_i c1
              refine sp_toldCh hT hsa hsb hw (fun z => by omega) ?_
              simp only [px_go, px_Q0_at, px_sx_0, px_sx_s, px_cl, px_step, ↓px_ll, px_lg, f4_, ↓px_r1, ↓px_r2, ↓px_r4, ↓px_r5, ↓px_p1, ↓px_p2, ↓px_p3, ↓px_pop, px_k_0, px_k_s, px_k3_0, px_stk_, px_cats, px_ent, px_st1, px_st2, px_mask, ↓px_tsw, ↓px_lsw, ct_, mls_0, mls_1, mls_2, mls_3, mls_4, mls_5, kd_0, kd_1, kd_2, kd_3, ln_0, ln_1, ln_2, ln_3, gf_0, gf_1, gf_2, gf_3, gf_4, gf_7, gf_21, gf_63, dy_0, dy_1, dy_2, dy_3, dy_7, dy_21, px_brT, px_brF, true_and, and_true, and_false, false_and, and_self, true_implies, false_implies, or_true, true_or, or_false, false_or, eq_self, ne_eq, not_false_eq_true, not_true_eq_false, if_true, if_false, List.mem_cons, List.not_mem_nil, List.length_cons, List.length_nil, Nat.reduceEqDiff, Nat.reduceAdd, Nat.reduceSub, Nat.reduceLeDiff, Nat.reduceLT, Int.reduceEq, Int.reduceLT, Int.reduceLE, Int.reduceNeg, Int.reduceAdd, Int.reduceSub, Int.reduceToNat, ↓reduceIte, one_ne_zero_, zero_ne_one_, px_in32L, cd_298]
              exact hb.1 c1
            · rename_i c1
              exact hb.2 c1
          · have hpp : pl sa i = pl sb j := r2.mp q
            have hA9 : pl sa i = P := by
              rcases hAB with z | z
              · exact z.2
              · rw [hpp]; exact z.2
            have hB9 : pl sb j = P := by rw [← hpp]; exact hA9
            have c1 := qA.1 (by omega) hA9
            have c2 := qB.1 (by omega) hB9
            have g1 := pA.2.2.1 (by omega) hA9
            have g2 := pB.2.2.1 (by omega) hB9
            rw [c1.1, c1.2, c2.1, c2.2] at hhit
            rw [c1.2, c2.2] at hnext hsame
            subst q
            simp only [px_go, px_Q0_at, px_sx_0, px_sx_s, px_cl, px_step, ↓px_ll, px_lg, f4_, ↓px_r1, ↓px_r2, ↓px_r4, ↓px_r5, ↓px_p1, ↓px_p2, ↓px_p3, ↓px_pop, px_k_0, px_k_s, px_k3_0, px_stk_, px_cats, px_ent, px_st1, px_st2, px_mask, ↓px_tsw, ↓px_lsw, ct_, mls_0, mls_1, mls_2, mls_3, mls_4, mls_5, kd_0, kd_1, kd_2, kd_3, ln_0, ln_1, ln_2, ln_3, gf_0, gf_1, gf_2, gf_3, gf_4, gf_7, gf_21, gf_63, dy_0, dy_1, dy_2, dy_3, dy_7, dy_21, px_brT, px_brF, true_and, and_true, and_false, false_and, and_self, true_implies, false_implies, or_true, true_or, or_false, false_or, eq_self, ne_eq, not_false_eq_true, not_true_eq_false, if_true, if_false, List.mem_cons, List.not_mem_nil, List.length_cons, List.length_nil, Nat.reduceEqDiff, Nat.reduceAdd, Nat.reduceSub, Nat.reduceLeDiff, Nat.reduceLT, Int.reduceEq, Int.reduceLT, Int.reduceLE, Int.reduceNeg, Int.reduceAdd, Int.reduceSub, Int.reduceToNat, ↓reduceIte, one_ne_zero_, zero_ne_one_, px_in32L, cd_298, cd_204, cd_205, cd_207, eca, ecb]
            repeat' (first | (with_reducible apply And.intro) | (with_reducible refine px_br_intro (fun _ => ?_) (fun _ => ?_)))
            all_goals (try (first | (unfold px_in32; omega) | omega))
            · rename_i c3
              exact hsame (i + 1) (j + 1) (by omega) g1 g2 c3
            · rename_i c3 c4
              refine sp_toldCh hT hsa hsb hw (fun z => by omega) ?_
              simp only [px_go, px_Q0_at, px_sx_0, px_sx_s, px_cl, px_step, ↓px_ll, px_lg, f4_, ↓px_r1, ↓px_r2, ↓px_r4, ↓px_r5, ↓px_p1, ↓px_p2, ↓px_p3, ↓px_pop, px_k_0, px_k_s, px_k3_0, px_stk_, px_cats, px_ent, px_st1, px_st2, px_mask, ↓px_tsw, ↓px_lsw, ct_, mls_0, mls_1, mls_2, mls_3, mls_4, mls_5, kd_0, kd_1, kd_2, kd_3, ln_0, ln_1, ln_2, ln_3, gf_0, gf_1, gf_2, gf_3, gf_4, gf_7, gf_21, gf_63, dy_0, dy_1, dy_2, dy_3, dy_7, dy_21, px_brT, px_brF, true_and, and_true, and_false, false_and, and_self, true_implies, false_implies, or_true, true_or, or_false, false_or, eq_self, ne_eq, not_false_eq_true, not_true_eq_false, if_true, if_false, List.mem_cons, List.not_mem_nil, List.length_cons, List.length_nil, Nat.reduceEqDiff, Nat.reduceAdd, Nat.reduceSub, Nat.reduceLeDiff, Nat.reduceLT, Int.reduceEq, Int.reduceLT, Int.reduceLE, Int.reduceNeg, Int.reduceAdd, Int.reduceSub, Int.reduceToNat, ↓reduceIte, one_ne_zero_, zero_ne_one_, px_in32L, cd_298]
              exact hhit c3 c4
            · rename_i c3 c4
              exact hnext (i + 1) (j + 1) (by omega) g1 g2 c3 c4
          · have hna : ¬ (i < Mc (Mc 21 sa) 2 ∧ pl sa i = P) := fun z => by
              rw [z.2] at tri; omega
            have hb := honlyB hna (by rcases hAB with z | z
                                      · exact absurd z hna
                                      · exact z)
            have s1 : (r = 0) = False := eq_false (by omega)
            have s2 : (r ≤ 0) = False := eq_false (by omega)
            have s3 : (0 ≤ r) = True := eq_true (by omega)
            have s4 : (0 < r) = True := eq_true q
            have s5 : (r < 0) = False := eq_false (by omega)
            simp only [px_go, px_Q0_at, px_sx_0, px_sx_s, px_cl, px_step, ↓px_ll, px_lg, f4_, ↓px_r1, ↓px_r2, ↓px_r4, ↓px_r5, ↓px_p1, ↓px_p2, ↓px_p3, ↓px_pop, px_k_0, px_k_s, px_k3_0, px_stk_, px_cats, px_ent, px_st1, px_st2, px_mask, ↓px_tsw, ↓px_lsw, ct_, mls_0, mls_1, mls_2, mls_3, mls_4, mls_5, kd_0, kd_1, kd_2, kd_3, ln_0, ln_1, ln_2, ln_3, gf_0, gf_1, gf_2, gf_3, gf_4, gf_7, gf_21, gf_63, dy_0, dy_1, dy_2, dy_3, dy_7, dy_21, px_brT, px_brF, true_and, and_true, and_false, false_and, and_self, true_implies, false_implies, or_true, true_or, or_false, false_or, eq_self, ne_eq, not_false_eq_true, not_true_eq_false, if_true, if_false, List.mem_cons, List.not_mem_nil, List.length_cons, List.length_nil, Nat.reduceEqDiff, Nat.reduceAdd, Nat.reduceSub, Nat.reduceLeDiff, Nat.reduceLT, Int.reduceEq, Int.reduceLT, Int.reduceLE, Int.reduceNeg, Int.reduceAdd, Int.reduceSub, Int.reduceToNat, ↓reduceIte, one_ne_zero_, zero_ne_one_, px_in32L, cd_298, cd_204, cd_205, cd_207, s1, s2, s3, s4, s5, eca, ecb]
            repeat' (first | (with_reducible apply And.intro) | (with_reducible refine px_br_intro (fun _ => ?_) (fun _ => ?_)))
            all_goals (try (first | (unfold px_in32; omega) | omega))
            · rename_i c1
              refine sp_toldCh hT hsa hsb hw (fun _ => ⟨hB1.1, by omega⟩) ?_
              simp only [px_go, px_Q0_at, px_sx_0, px_sx_s, px_cl, px_step, ↓px_ll, px_lg, f4_, ↓px_r1, ↓px_r2, ↓px_r4, ↓px_r5, ↓px_p1, ↓px_p2, ↓px_p3, ↓px_pop, px_k_0, px_k_s, px_k3_0, px_stk_, px_cats, px_ent, px_st1, px_st2, px_mask, ↓px_tsw, ↓px_lsw, ct_, mls_0, mls_1, mls_2, mls_3, mls_4, mls_5, kd_0, kd_1, kd_2, kd_3, ln_0, ln_1, ln_2, ln_3, gf_0, gf_1, gf_2, gf_3, gf_4, gf_7, gf_21, gf_63, dy_0, dy_1, dy_2, dy_3, dy_7, dy_21, px_brT, px_brF, true_and, and_true, and_false, false_and, and_self, true_implies, false_implies, or_true, true_or, or_false, false_or, eq_self, ne_eq, not_false_eq_true, not_true_eq_false, if_true, if_false, List.mem_cons, List.not_mem_nil, List.length_cons, List.length_nil, Nat.reduceEqDiff, Nat.reduceAdd, Nat.reduceSub, Nat.reduceLeDiff, Nat.reduceLT, Int.reduceEq, Int.reduceLT, Int.reduceLE, Int.reduceNeg, Int.reduceAdd, Int.reduceSub, Int.reduceToNat, ↓reduceIte, one_ne_zero_, zero_ne_one_, px_in32L, cd_298]
              exact hb.1 c1
            · rename_i c1
              exact hb.2 c1
set_option maxHeartbeats 600000 in
set_option maxRecDepth 100000 in
theorem sp_rchange {Mc : px_mem} {a b k w : Int} {U : List (List Int)} {pl : Int → Int → List Int} {nm : Int → List Int} (hT : TE Mc pl nm (M 128)) (hU : 0 ≤ slot Mc a → slot Mc a < Mc 20 1 → 0 ≤ slot Mc b → slot Mc b < Mc 20 1 → -1 ≤ k → (0 ≤ w ∧ w ≤ 3) → isU (uL2 Mc (Mc 21 (slot Mc a)) (Mc 21 (slot Mc b)) (pl (slot Mc a)) (pl (slot Mc b))) U) (h0 : (slot Mc a < 0 ∨ slot Mc b < 0 ∨ k < -1 ∨ ¬ (0 ≤ w ∧ w ≤ 3)) → Q (some (0, -1)) M) (h1 : 0 ≤ slot Mc a → slot Mc a < Mc 20 1 → 0 ≤ slot Mc b → slot Mc b < Mc 20 1 → -1 ≤ k → (0 ≤ w ∧ w ≤ 3) → Q (some (0, chgR Mc (Mc 21 (slot Mc a)) (Mc 21 (slot Mc b)) (pl (slot Mc a)) (pl (slot Mc b)) (chgD Mc pl (slot Mc a) (slot Mc b) U) k w)) M) : px_Ok 298 [(2, 127), (0, a), (0, b), (0, k), (0, w)] LAY M Q := by
  refine px_ok_go (inl := [170]) (ls0 := [(2, 127), (0, a), (0, b), (0, k), (0, w), (9, 0), (9, 0), (9, 0), (9, 0), (9, 0), (9, 0), (9, 0)]) 60 (by decide) (Nat.le_of_ble_eq_true rfl) rfl ?_
  simp only [px_go, px_Q0_at, px_sx_0, px_sx_s, px_cl, px_step, ↓px_ll, px_lg, f4_, ↓px_r1, ↓px_r2, ↓px_r4, ↓px_r5, ↓px_p1, ↓px_p2, ↓px_p3, ↓px_pop, px_k_0, px_k_s, px_k3_0, px_stk_, px_cats, px_ent, px_st1, px_st2, px_mask, ↓px_tsw, ↓px_lsw, ct_, mls_0, mls_1, mls_2, mls_3, mls_4, mls_5, kd_0, kd_1, kd_2, kd_3, ln_0, ln_1, ln_2, ln_3, gf_0, gf_1, gf_2, gf_3, gf_4, gf_7, gf_21, gf_63, dy_0, dy_1, dy_2, dy_3, dy_7, dy_21, px_brT, px_brF, true_and, and_true, and_false, false_and, and_self, true_implies, false_implies, or_true, true_or, or_false, false_or, eq_self, ne_eq, not_false_eq_true, not_true_eq_false, if_true, if_false, List.mem_cons, List.not_mem_nil, List.length_cons, List.length_nil, Nat.reduceEqDiff, Nat.reduceAdd, Nat.reduceSub, Nat.reduceLeDiff, Nat.reduceLT, Int.reduceEq, Int.reduceLT, Int.reduceLE, Int.reduceNeg, Int.reduceAdd, Int.reduceSub, Int.reduceToNat, ↓reduceIte, one_ne_zero_, zero_ne_one_, px_in32L, cd_298, cd_170]
  repeat' (first | (with_reducible apply And.intro) | (with_reducible refine px_br_intro (fun _ => ?_) (fun _ => ?_)))
  all_goals (try (first | (unfold px_in32; omega) | omega))
  have hsa := slot_bd Mc a
  have hsb := slot_bd Mc b
  refine sp_slotT hT ?_
  simp only [px_go, px_Q0_at, px_sx_0, px_sx_s, px_cl, px_step, ↓px_ll, px_lg, f4_, ↓px_r1, ↓px_r2, ↓px_r4, ↓px_r5, ↓px_p1, ↓px_p2, ↓px_p3, ↓px_pop, px_k_0, px_k_s, px_k3_0, px_stk_, px_cats, px_ent, px_st1, px_st2, px_mask, ↓px_tsw, ↓px_lsw, ct_, mls_0, mls_1, mls_2, mls_3, mls_4, mls_5, kd_0, kd_1, kd_2, kd_3, ln_0, ln_1, ln_2, ln_3, gf_0, gf_1, gf_2, gf_3, gf_4, gf_7, gf_21, gf_63, dy_0, dy_1, dy_2, dy_3, dy_7, dy_21, px_brT, px_brF, true_and, and_true, and_false, false_and, and_self, true_implies, false_implies, or_true, true_or, or_false, false_or, eq_self, ne_eq, not_false_eq_true, not_true_eq_false, if_true, if_false, List.mem_cons, List.not_mem_nil, List.length_cons, List.length_nil, Nat.reduceEqDiff, Nat.reduceAdd, Nat.reduceSub, Nat.reduceLeDiff, Nat.reduceLT, Int.reduceEq, Int.reduceLT, Int.reduceLE, Int.reduceNeg, Int.reduceAdd, Int.reduceSub, Int.reduceToNat, ↓reduceIte, one_ne_zero_, zero_ne_one_, px_in32L, cd_298, cd_170]
  refine sp_slotT hT ?_
  generalize slot Mc a = sa at *
  generalize slot Mc b = sb at *
  have hloop : 0 ≤ sa → 0 ≤ sb → -1 ≤ k → (0 ≤ w ∧ w ≤ 3) → (k = -1 → w = 0) → px_WP 298 0 0 (px_Q0 LAY Q) 62 [(2, 127), (9, 0), (9, 0), (0, k), (0, w), (0, sa), (0, sb), (0, 0), (0, 0), (0, 0), (9, 0), (9, 0)] [] LAY M 0 0 := fun y1 y2 y3 z1 z2 => by
    have ha : 0 ≤ sa ∧ sa < Mc 20 1 := by omega
    have hb : 0 ≤ sb ∧ sb < Mc 20 1 := by omega
    have hU := hU ha.1 ha.2 hb.1 hb.2 y3 z1
    have n1 := (TE_e hT ha.1 ha.2).2.2.2.2.2
    have n2 := (TE_e hT hb.1 hb.2).2.2.2.2.2
    exact lp_chg hT ha hb y3 z1 z2 hU (h1 ha.1 ha.2 hb.1 hb.2 y3 z1) 25 0 0 0 (by decide) (Nat.zero_le _) (by decide) ⟨⟨Int.le_refl 0, n1.1⟩, fun j j0 j1 => ⟨fun q => by omega, fun q => absurd q List.not_mem_nil⟩⟩ ⟨⟨Int.le_refl 0, n2.1⟩, fun j j0 j1 => ⟨fun q => by omega, fun q => absurd q List.not_mem_nil⟩⟩ (fun q => q)
  simp only [px_go, px_Q0_at, px_sx_0, px_sx_s, px_cl, px_step, ↓px_ll, px_lg, f4_, ↓px_r1, ↓px_r2, ↓px_r4, ↓px_r5, ↓px_p1, ↓px_p2, ↓px_p3, ↓px_pop, px_k_0, px_k_s, px_k3_0, px_stk_, px_cats, px_ent, px_st1, px_st2, px_mask, ↓px_tsw, ↓px_lsw, ct_, mls_0, mls_1, mls_2, mls_3, mls_4, mls_5, kd_0, kd_1, kd_2, kd_3, ln_0, ln_1, ln_2, ln_3, gf_0, gf_1, gf_2, gf_3, gf_4, gf_7, gf_21, gf_63, dy_0, dy_1, dy_2, dy_3, dy_7, dy_21, px_brT, px_brF, true_and, and_true, and_false, false_and, and_self, true_implies, false_implies, or_true, true_or, or_false, false_or, eq_self, ne_eq, not_false_eq_true, not_true_eq_false, if_true, if_false, List.mem_cons, List.not_mem_nil, List.length_cons, List.length_nil, Nat.reduceEqDiff, Nat.reduceAdd, Nat.reduceSub, Nat.reduceLeDiff, Nat.reduceLT, Int.reduceEq, Int.reduceLT, Int.reduceLE, Int.reduceNeg, Int.reduceAdd, Int.reduceSub, Int.reduceToNat, ↓reduceIte, one_ne_zero_, zero_ne_one_, px_in32L, cd_298, cd_170]
  repeat' (first | (with_reducible apply And.intro) | (with_reducible refine px_br_intro (fun _ => ?_) (fun _ => ?_)))
  all_goals (try (first | (unfold px_in32; omega) | omega))
  all_goals (try exact h0 (by omega))
  · rename_i c1 c2 c3 c4 c5 c6 c7
    exact hloop (by omega) (by omega) (by omega) (by omega) (fun _ => by omega)
  · rename_i c1 c2 c3 c4 c5 c6 c7
    have h1 := h1 (by omega) (by omega) (by omega) (by omega) (by omega) (by omega)
    unfold chgR at h1
    rw [if_pos c6, if_neg (by omega)] at h1
    exact h1
  · rename_i c1 c2 c3 c4 c5 c6
    exact hloop (by omega) (by omega) (by omega) (by omega) (fun q => absurd q c6)
end PS
