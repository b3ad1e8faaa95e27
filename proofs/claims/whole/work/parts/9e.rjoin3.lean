set_option maxRecDepth 100000 in
/-- X12_joinsAll -/
theorem cd_244 : px_at 244 0 = some (1, [], .aload_n 0, []) ∧ px_at 244 1 = some (4, [], .getfield 63, [11, 24, 2, 1, 149]) ∧ px_at 244 4 = some (5, [], .iconst 0, []) ∧ px_at 244 5 = some (6, [], .aload_n 0, []) ∧ px_at 244 6 = some (7, [], .iload_n 1, []) ∧ px_at 244 7 = some (8, [], .iload_n 2, []) ∧ px_at 244 8 = some (11, [], .invokevirtual 295, [239, 2, 11, 279]) ∧ px_at 244 11 = some (12, [], .iastore, []) ∧ px_at 244 12 = some (13, [], .aload_n 0, []) ∧ px_at 244 13 = some (16, [], .getfield 63, [11, 24, 2, 1, 149]) ∧ px_at 244 16 = some (17, [], .iconst 1, []) ∧ px_at 244 17 = some (18, [], .iload_n 1, []) ∧ px_at 244 18 = some (19, [], .iastore, []) ∧ px_at 244 19 = some (20, [], .aload_n 0, []) ∧ px_at 244 20 = some (23, [], .getfield 63, [11, 24, 2, 1, 149]) ∧ px_at 244 23 = some (24, [], .iconst 2, []) ∧ px_at 244 24 = some (25, [], .iload_n 2, []) ∧ px_at 244 25 = some (26, [], .iastore, []) ∧ px_at 244 26 = some (27, [], .iconst 0, []) ∧ px_at 244 27 = some (28, [], .istore_n 3, []) ∧ px_at 244 28 = some (29, [1, 0, 0, 1], .iload_n 3, []) ∧ px_at 244 29 = some (30, [], .iconst 3, []) ∧ px_at 244 30 = some (33, [], .if_icmp .ge 16, [46]) ∧ px_at 244 33 = some (34, [], .aload_n 0, []) ∧ px_at 244 34 = some (37, [], .getfield 60, [11, 23, 2, 1, 148]) ∧ px_at 244 37 = some (38, [], .iload_n 3, []) ∧ px_at 244 38 = some (39, [], .iconst 0, []) ∧ px_at 244 39 = some (40, [], .iastore, []) ∧ px_at 244 40 = some (43, [], .iinc 3 1, []) ∧ px_at 244 43 = some (46, [], .goto (-15), [28]) ∧ px_at 244 46 = some (47, [], .aload_n 0, []) ∧ px_at 244 47 = some (48, [], .iconst 0, []) ∧ px_at 244 48 = some (51, [], .putfield 301, [11, 26, 0, 0, 151]) ∧ px_at 244 51 = some (52, [], .aload_n 0, []) ∧ px_at 244 52 = some (53, [], .iconst 0, []) ∧ px_at 244 53 = some (56, [], .putfield 304, [11, 27, 0, 0, 152]) ∧ px_at 244 56 = some (57, [], .aload_n 0, []) ∧ px_at 244 57 = some (60, [], .invokevirtual 307, [241, 0, 11, 284]) ∧ px_at 244 60 = some (61, [], .istore_n 3, []) ∧ px_at 244 61 = some (62, [1, 0, 0, 1], .iload_n 3, []) ∧ px_at 244 62 = some (63, [], .iconst (-1), []) ∧ px_at 244 63 = some (66, [], .if_icmp .eq 16, [79]) ∧ px_at 244 66 = some (67, [], .aload_n 0, []) ∧ px_at 244 67 = some (68, [], .iload_n 3, []) ∧ px_at 244 68 = some (71, [], .invokevirtual 310, [243, 1, 11, 285]) ∧ px_at 244 71 = some (72, [], .aload_n 0, []) ∧ px_at 244 72 = some (75, [], .invokevirtual 307, [241, 0, 11, 284]) ∧ px_at 244 75 = some (76, [], .istore_n 3, []) ∧ px_at 244 76 = some (79, [], .goto (-15), [61]) ∧ px_at 244 79 = some (80, [], .return_, []) := ⟨rfl, rfl, rfl, rfl, rfl, rfl, rfl, rfl, rfl, rfl, rfl, rfl, rfl, rfl, rfl, rfl, rfl, rfl, rfl, rfl, rfl, rfl, rfl, rfl, rfl, rfl, rfl, rfl, rfl, rfl, rfl, rfl, rfl, rfl, rfl, rfl, rfl, rfl, rfl, rfl, rfl, rfl, rfl, rfl, rfl, rfl, rfl, rfl, rfl, rfl⟩
/-! the reference: join, whole -/
theorem inL_eo {Mc : px_mem} {pl : Int → Int → List Int} (hno : Mc 118 2 = 0) (s : Int) (p : List Int) : inL (Mc (eoF Mc s) 2) (poF pl s) p ↔ ∃ j, 0 ≤ j ∧ j < nK Mc s ∧ pl s j = p := by
  unfold inL eoF poF nK
  by_cases q : s < 0
  · rw [if_pos q, if_pos q, if_pos q, hno]
    exact ⟨fun ⟨j, j0, j1, _⟩ => by omega, fun ⟨j, j0, j1, _⟩ => by omega⟩
  · rw [if_neg q, if_neg q, if_neg q]
theorem inL_at {Mc : px_mem} {pl : Int → Int → List Int} {s : Int} (h : 0 ≤ s) (p : List Int) : inL (Mc (Mc 21 s) 2) (pl s) p ↔ ∃ j, 0 ≤ j ∧ j < nK Mc s ∧ pl s j = p := by
  unfold inL
  rw [nK_at h]
def jpw (J : List (List Int × Int)) : Prop := J.Pairwise (fun a b => enc a.1 < enc b.1)
theorem jst_pw {o x y : Int} {p : List Int} {s : jT} (h : jpw s.1) (hl : ∀ q ∈ s.1, enc q.1 < enc p) : jpw (jst o x y p s).1 := by
  by_cases c1 : isV o x y < 0
  · rw [jst_N c1]; exact h
  · by_cases c2 : ∃ q ∈ s.1, mt q.1 p
    · rw [jst_L c1 c2]; exact h
    · rw [jst_A c1 c2]
      unfold jpw at h ⊢
      rw [List.pairwise_append]
      exact ⟨h, List.pairwise_singleton _ _, fun a ha b hb => by rw [List.mem_singleton] at hb; rw [hb]; exact hl a ha⟩
/-- what a merging leaves alone -/
def frG (M' M : px_mem) : Prop := (∀ j, j ≠ 26 → j ≠ 27 → M' 127 j = M 127 j) ∧ ∀ b, b ≠ 127 → b ≠ 142 → b ≠ 143 → b ≠ 144 → b ≠ 145 → b ≠ 146 → M' b = M b
theorem frG_out {A B : px_mem} (h : frG A B) : out A B := ⟨fun b b0 => h.2 b (by omega) (by omega) (by omega) (by omega) (by omega) (by omega), h.2 130 (by decide) (by decide) (by decide) (by decide) (by decide) (by decide), h.1 3 (by decide) (by decide)⟩
theorem frG_128 {A B : px_mem} (h : frG A B) : A 128 = B 128 := h.2 128 (by decide) (by decide) (by decide) (by decide) (by decide) (by decide)
theorem frG_trans {A B C : px_mem} (h : frG A B) (h2 : frG B C) : frG A C := ⟨fun j a b => (h.1 j a b).trans (h2.1 j a b), fun b a0 a1 a2 a3 a4 a5 => (h.2 b a0 a1 a2 a3 a4 a5).trans (h2.2 b a0 a1 a2 a3 a4 a5)⟩
theorem frJ_G {A B : px_mem} (h : frJ A B) : frG A B := ⟨h.1, fun b a0 a1 a2 a3 _ a5 => h.2 b a0 a1 a2 a3 a5⟩
section PS
variable {M : px_mem} {Q : Option pv → px_mem → Prop}
set_option maxHeartbeats 4000000 in
set_option maxRecDepth 100000 in
theorem lp_ja2 {M0 Mc : px_mem} {so sa sb : Int} {pl : Int → Int → List Int} {nm : Int → List Int} (hT : TE Mc pl nm (M0 128)) (hno : Mc 118 2 = 0) (ho : sOk Mc so) (hsa : 0 ≤ sa ∧ sa < Mc 20 1) (hsb : 0 ≤ sb ∧ sb < Mc 20 1) (h : ∀ M' V, jnU Mc pl so sa sb V → rJ M' (jnF Mc pl so sa sb V).1 → M' 127 27 = (jnF Mc pl so sa sb V).2 → jpw (jnF Mc pl so sa sb V).1 → V.length ≤ 36 → frG M' M0 → Q none M') : ∀ (f : Nat) (M : px_mem) (V : List (List Int)) (r : Int), M 145 0 = so → M 145 1 = sa → M 145 2 = sb → mgI Mc pl (M 145) (M 144) V → 37 ≤ (f : Int) + (M 144 0 + M 144 1 + M 144 2) → rJ M (jnF Mc pl so sa sb V).1 → M 127 27 = (jnF Mc pl so sa sb V).2 → jpw (jnF Mc pl so sa sb V).1 → frG M M0 → ((r = -1 ∧ ∀ k, 0 ≤ k → k < 3 → nK Mc (M 145 k) ≤ M 144 k) ∨ ∃ k, 0 ≤ k ∧ k < 3 ∧ M 144 k < nK Mc (M 145 k) ∧ (∀ j, 0 ≤ j → j < 3 → M 144 j < nK Mc (M 145 j) → enc (pl (M 145 k) (M 144 k)) ≤ enc (pl (M 145 j) (M 144 j))) ∧ r = 1294 + 186 * M 145 k + 18 + 14 * M 144 k) → px_WP 244 0 0 (px_Q0 LAY Q) 61 [(2, 127), (9, 0), (9, 0), (0, r)] [] LAY M 0 0 := by
  have hrange : ∀ (M : px_mem), M 145 0 = so → M 145 1 = sa → M 145 2 = sb → ∀ k, 0 ≤ k → k < 3 → sOk Mc (M 145 k) := fun M e0 e1 e2 k k0 k1 => by
    rcases (by omega : k = 0 ∨ k = 1 ∨ k = 2) with q | q | q <;> subst q
    · rw [e0]; exact ho
    · rw [e1]; exact Or.inr hsa
    · rw [e2]; exact Or.inr hsb
  have hbd : ∀ (M : px_mem), (∀ k, 0 ≤ k → k < 3 → sOk Mc (M 145 k)) → ∀ V, mgI Mc pl (M 145) (M 144) V → ∀ k, 0 ≤ k → k < 3 → 0 ≤ M 144 k ∧ M 144 k ≤ 12 := fun M hs V hI k k0 k1 => by
    have := hI.1 k k0 k1
    have := nK_rng hT (hs k k0 k1)
    omega
  intro f
  induction f with
  | zero =>
    intro M V r e0 e1 e2 hI hf
    have hs := hrange M e0 e1 e2
    have b0 := hbd M hs V hI 0 (by decide) (by decide)
    have b1' := hbd M hs V hI 1 (by decide) (by decide)
    have b2 := hbd M hs V hI 2 (by decide) (by decide)
    omega
  | succ f ih =>
    intro M V r e0 e1 e2 hI hf hJ hc hpw hfr hr
    have hs := hrange M e0 e1 e2
    have ha := hbd M hs V hI
    have e128 := frG_128 hfr
    have hTM : TE Mc pl nm (M 128) := by rw [e128]; exact hT
    have hTn := TE_n hT
    have b0 := ha 0 (by decide) (by decide)
    have b1' := ha 1 (by decide) (by decide)
    have b2 := ha 2 (by decide) (by decide)
    have hVl := hI.2.2.2.2.2
    rcases hr with ⟨r1, r2⟩ | ⟨k, k0, k1, k2, k3, k4⟩
    · refine px_go_ok (inl := []) 60 ?_
      simp only [px_go, px_Q0_at, px_sx_0, px_sx_s, px_cl, px_step, ↓px_ll, px_lg, f4_, ↓px_r1, ↓px_r2, ↓px_r4, ↓px_r5, ↓px_p1, ↓px_p2, ↓px_p3, ↓px_pop, px_k_0, px_k_s, px_k3_0, px_stk_, px_cats, px_ent, px_st1, px_st2, px_mask, ↓px_tsw, ↓px_lsw, ct_, mls_0, mls_1, mls_2, mls_3, mls_4, mls_5, kd_0, kd_1, kd_2, kd_3, ln_0, ln_1, ln_2, ln_3, gf_0, gf_1, gf_2, gf_3, gf_4, gf_7, gf_21, gf_63, dy_0, dy_1, dy_2, dy_3, dy_7, dy_21, px_brT, px_brF, true_and, and_true, and_false, false_and, and_self, true_implies, false_implies, or_true, true_or, or_false, false_or, eq_self, ne_eq, not_false_eq_true, not_true_eq_false, if_true, if_false, List.mem_cons, List.not_mem_nil, List.length_cons, List.length_nil, Nat.reduceEqDiff, Nat.reduceAdd, Nat.reduceSub, Nat.reduceLeDiff, Nat.reduceLT, Int.reduceEq, Int.reduceLT, Int.reduceLE, Int.reduceNeg, Int.reduceAdd, Int.reduceSub, Int.reduceToNat, ↓reduceIte, one_ne_zero_, zero_ne_one_, px_in32L, cd_244]
      refine px_br_intro (fun _ => ?_) (fun c => absurd r1 c)
      refine h M V ⟨hI.2.1, fun p => ?_⟩ hJ hc hpw (by omega) hfr
      unfold uL
      rw [inL_eo hno, inL_at hsa.1, inL_at hsb.1]
      constructor
      · intro hp
        obtain ⟨k, j, k0, k1, j0, j1, j2⟩ := hI.2.2.1 p hp
        rcases (by omega : k = 0 ∨ k = 1 ∨ k = 2) with q | q | q <;> subst q
        · rw [e0] at j1 j2; exact Or.inl ⟨j, j0, j1, j2⟩
        · rw [e1] at j1 j2; exact Or.inr (Or.inl ⟨j, j0, j1, j2⟩)
        · rw [e2] at j1 j2; exact Or.inr (Or.inr ⟨j, j0, j1, j2⟩)
      · rintro (⟨j, j0, j1, j2⟩ | ⟨j, j0, j1, j2⟩ | ⟨j, j0, j1, j2⟩)
        · rw [← e0] at j1 j2
          rw [← j2]
          have := r2 0 (by decide) (by decide)
          exact (hI.2.2.2.1 0 j (by decide) (by decide) j0 j1).mp (by omega)
        · rw [← e1] at j1 j2
          rw [← j2]
          have := r2 1 (by decide) (by decide)
          exact (hI.2.2.2.1 1 j (by decide) (by decide) j0 j1).mp (by omega)
        · rw [← e2] at j1 j2
          rw [← j2]
          have := r2 2 (by decide) (by decide)
          exact (hI.2.2.2.1 2 j (by decide) (by decide) j0 j1).mp (by omega)
    · have hsk : 0 ≤ M 145 k ∧ M 145 k < Mc 20 1 := by
        rcases hs k k0 k1 with z | z
        · rw [z, nK_no (by decide)] at k2
          have := ha k k0 k1; omega
        · exact z
      have k2' := k2
      rw [nK_at hsk.1] at k2'
      have hak := ha k k0 k1
      have en := TE_ent hTM hsk.1 hsk.2 hak.1 k2'
      have hjr := jfo_rng (cAt Mc (eoF Mc so) (poF pl so)) (cAt Mc (Mc 21 sa) (pl sa)) (cAt Mc (Mc 21 sb) (pl sb)) V
      have hJn : ∀ q ∈ (jnF Mc pl so sa sb V).1, enc q.1 < enc (pl (M 145 k) (M 144 k)) ∧ q.1 ≠ [] := fun q hq => by
        have hm := (hjr.2.2.2 q hq).1
        refine ⟨hI.2.2.2.2.1 k k0 k1 k2 q.1 hm, ?_⟩
        obtain ⟨k', j, z0, z1, j0, j1, j2⟩ := hI.2.2.1 q.1 hm
        have hsk' : 0 ≤ M 145 k' ∧ M 145 k' < Mc 20 1 := by
          rcases hs k' z0 z1 with z | z
          · rw [z, nK_no (by decide)] at j1; omega
          · exact z
        rw [nK_at hsk'.1] at j1
        rw [← j2]
        exact isP_ne (TE_ent hTM hsk'.1 hsk'.2 j0 j1).2.2.1
      have hinj : ∀ k' j, 0 ≤ k' → k' < 3 → 0 ≤ j → j < nK Mc (M 145 k') → enc (pl (M 145 k') j) = enc (pl (M 145 k) (M 144 k)) → pl (M 145 k') j = pl (M 145 k) (M 144 k) := fun k' j z0 z1 j0 j1 e => by
        have hsk' : 0 ≤ M 145 k' ∧ M 145 k' < Mc 20 1 := by
          rcases hs k' z0 z1 with z | z
          · rw [z, nK_no (by decide)] at j1; omega
          · exact z
        rw [nK_at hsk'.1] at j1
        have en' := TE_ent hTM hsk'.1 hsk'.2 j0 j1
        exact enc_inj en'.2.1.1 en.2.1.1 en'.2.1.2 en.2.1.2 e
      generalize hPP : pl (M 145 k) (M 144 k) = P at *
      have hV : ∀ q ∈ V, enc q < enc P := by rw [← hPP]; exact hI.2.2.2.2.1 k k0 k1 k2
      have hc0 := mg_c (k := 0) hTM.2.1 hs hI hV k3 (by decide) (by decide)
      have hc1 := mg_c (k := 1) hTM.2.1 hs hI hV k3 (by decide) (by decide)
      have hc2 := mg_c (k := 2) hTM.2.1 hs hI hV k3 (by decide) (by decide)
      rw [e0, cAtK_eo hno] at hc0
      rw [e1, cAtK_eo hno] at hc1
      rw [e2, cAtK_eo hno] at hc2
      have ea : eoF Mc sa = Mc 21 sa ∧ poF pl sa = pl sa := ⟨if_neg (by omega), if_neg (by omega)⟩
      have eb : eoF Mc sb = Mc 21 sb ∧ poF pl sb = pl sb := ⟨if_neg (by omega), if_neg (by omega)⟩
      rw [ea.1, ea.2] at hc1
      rw [eb.1, eb.2] at hc2
      have hsum : ∀ a' : Int → Int, (∀ k, 0 ≤ k → k < 3 → a' k = M 144 k + b1 (tkN Mc pl (M 145 k) (M 144 k) P)) → mgI Mc pl (M 145) a' (V ++ [P]) ∧ M 144 0 + M 144 1 + M 144 2 + 1 ≤ a' 0 + a' 1 + a' 2 := fun a' ha' => mg_step hTM.2.1 hs hI k3 k0 k1 k2 hPP ha' hinj
      have hsum0 := (hsum (fun k => M 144 k + b1 (tkN Mc pl (M 145 k) (M 144 k) P)) (fun _ _ _ => rfl))
      have hb36 : ∀ k, 0 ≤ k → k < 3 → M 144 k + b1 (tkN Mc pl (M 145 k) (M 144 k) P) ≤ 12 := fun k k0 k1 => by
        have h1 := hsum0.1.1 k k0 k1
        have h2 := nK_rng hT (hs k k0 k1)
        dsimp only at h1
        omega
      have q0 := hb36 0 (by decide) (by decide)
      have q1 := hb36 1 (by decide) (by decide)
      have q2 := hb36 2 (by decide) (by decide)
      have hs2 := hsum0.2
      have hjl : (jnF Mc pl so sa sb V).1.length ≤ V.length := hjr.1
      have hj0 : 0 ≤ (jnF Mc pl so sa sb V).2 := hjr.2.1
      have hj2 : (jnF Mc pl so sa sb V).2 ≤ V.length := hjr.2.2.1
      refine px_go_ok (inl := []) 60 ?_
      simp only [px_go, px_Q0_at, px_sx_0, px_sx_s, px_cl, px_step, ↓px_ll, px_lg, f4_, ↓px_r1, ↓px_r2, ↓px_r4, ↓px_r5, ↓px_p1, ↓px_p2, ↓px_p3, ↓px_pop, px_k_0, px_k_s, px_k3_0, px_stk_, px_cats, px_ent, px_st1, px_st2, px_mask, ↓px_tsw, ↓px_lsw, ct_, mls_0, mls_1, mls_2, mls_3, mls_4, mls_5, kd_0, kd_1, kd_2, kd_3, ln_0, ln_1, ln_2, ln_3, gf_0, gf_1, gf_2, gf_3, gf_4, gf_7, gf_21, gf_63, dy_0, dy_1, dy_2, dy_3, dy_7, dy_21, px_brT, px_brF, true_and, and_true, and_false, false_and, and_self, true_implies, false_implies, or_true, true_or, or_false, false_or, eq_self, ne_eq, not_false_eq_true, not_true_eq_false, if_true, if_false, List.mem_cons, List.not_mem_nil, List.length_cons, List.length_nil, Nat.reduceEqDiff, Nat.reduceAdd, Nat.reduceSub, Nat.reduceLeDiff, Nat.reduceLT, Int.reduceEq, Int.reduceLT, Int.reduceLE, Int.reduceNeg, Int.reduceAdd, Int.reduceSub, Int.reduceToNat, ↓reduceIte, one_ne_zero_, zero_ne_one_, px_in32L, cd_244]
      refine px_br_intro (fun c => by omega) (fun _ => ?_)
      refine sp_joins (P := P) (J := (jnF Mc pl so sa sb V).1) (c := (jnF Mc pl so sa sb V).2) hTM hs ha hJ (by omega) (fun q hq => (hJn q hq).2) ⟨hc, by omega, by omega⟩ (by rw [k4]; exact ⟨en.1.1, by omega, en.1.2.1⟩) en.2.1 (isP_ne en.2.2.1) (fun M1 a1 a2 a3 a4 => ?_)
      have g145 : M1 145 = M 145 := a4.2 145 (by decide) (by decide) (by decide) (by decide) (by decide)
      have g128 : M1 128 = M 128 := a4.2 128 (by decide) (by decide) (by decide) (by decide) (by decide)
      have hst := hsum (M1 144) a3
      have hJF : jnF Mc pl so sa sb (V ++ [P]) = jst (tkC Mc pl (M 145 0) (M 144 0) P) (tkC Mc pl (M 145 1) (M 144 1) P) (tkC Mc pl (M 145 2) (M 144 2) P) P ((jnF Mc pl so sa sb V).1, (jnF Mc pl so sa sb V).2) := by
        unfold jnF
        rw [jfo_snoc, e0, e1, e2, hc0, hc1, hc2]
      rw [← hJF] at a1 a2
      have hpw2 : jpw (jnF Mc pl so sa sb (V ++ [P])).1 := by
        rw [hJF]
        exact jst_pw hpw (fun q hq => (hJn q hq).1)
      have hI1 : mgI Mc pl (M1 145) (M1 144) (V ++ [P]) := by rw [g145]; exact hst.1
      have hs1 : ∀ k, 0 ≤ k → k < 3 → sOk Mc (M1 145 k) := by rw [g145]; exact hs
      simp only [px_go, px_Q0_at, px_sx_0, px_sx_s, px_cl, px_step, ↓px_ll, px_lg, f4_, ↓px_r1, ↓px_r2, ↓px_r4, ↓px_r5, ↓px_p1, ↓px_p2, ↓px_p3, ↓px_pop, px_k_0, px_k_s, px_k3_0, px_stk_, px_cats, px_ent, px_st1, px_st2, px_mask, ↓px_tsw, ↓px_lsw, ct_, mls_0, mls_1, mls_2, mls_3, mls_4, mls_5, kd_0, kd_1, kd_2, kd_3, ln_0, ln_1, ln_2, ln_3, gf_0, gf_1, gf_2, gf_3, gf_4, gf_7, gf_21, gf_63, dy_0, dy_1, dy_2, dy_3, dy_7, dy_21, px_brT, px_brF, true_and, and_true, and_false, false_and, and_self, true_implies, false_implies, or_true, true_or, or_false, false_or, eq_self, ne_eq, not_false_eq_true, not_true_eq_false, if_true, if_false, List.mem_cons, List.not_mem_nil, List.length_cons, List.length_nil, Nat.reduceEqDiff, Nat.reduceAdd, Nat.reduceSub, Nat.reduceLeDiff, Nat.reduceLT, Int.reduceEq, Int.reduceLT, Int.reduceLE, Int.reduceNeg, Int.reduceAdd, Int.reduceSub, Int.reduceToNat, ↓reduceIte, one_ne_zero_, zero_ne_one_, px_in32L, cd_244]
      refine sp_nextEntry (by rw [g128]; exact hTM) hs1 (hbd M1 hs1 _ hI1) (fun w => ?_) (fun k' w0 w1 w2 w3 => ?_)
      · simp only [px_go, px_Q0_at, px_sx_0, px_sx_s, px_cl, px_step, ↓px_ll, px_lg, f4_, ↓px_r1, ↓px_r2, ↓px_r4, ↓px_r5, ↓px_p1, ↓px_p2, ↓px_p3, ↓px_pop, px_k_0, px_k_s, px_k3_0, px_stk_, px_cats, px_ent, px_st1, px_st2, px_mask, ↓px_tsw, ↓px_lsw, ct_, mls_0, mls_1, mls_2, mls_3, mls_4, mls_5, kd_0, kd_1, kd_2, kd_3, ln_0, ln_1, ln_2, ln_3, gf_0, gf_1, gf_2, gf_3, gf_4, gf_7, gf_21, gf_63, dy_0, dy_1, dy_2, dy_3, dy_7, dy_21, px_brT, px_brF, true_and, and_true, and_false, false_and, and_self, true_implies, false_implies, or_true, true_or, or_false, false_or, eq_self, ne_eq, not_false_eq_true, not_true_eq_false, if_true, if_false, List.mem_cons, List.not_mem_nil, List.length_cons, List.length_nil, Nat.reduceEqDiff, Nat.reduceAdd, Nat.reduceSub, Nat.reduceLeDiff, Nat.reduceLT, Int.reduceEq, Int.reduceLT, Int.reduceLE, Int.reduceNeg, Int.reduceAdd, Int.reduceSub, Int.reduceToNat, ↓reduceIte, one_ne_zero_, zero_ne_one_, px_in32L, cd_244]
        exact ih M1 (V ++ [P]) (-1) (by rw [g145]; exact e0) (by rw [g145]; exact e1) (by rw [g145]; exact e2) hI1 (by omega) a1 a2 hpw2 (frG_trans (frJ_G a4) hfr) (Or.inl ⟨rfl, w⟩)
      · simp only [px_go, px_Q0_at, px_sx_0, px_sx_s, px_cl, px_step, ↓px_ll, px_lg, f4_, ↓px_r1, ↓px_r2, ↓px_r4, ↓px_r5, ↓px_p1, ↓px_p2, ↓px_p3, ↓px_pop, px_k_0, px_k_s, px_k3_0, px_stk_, px_cats, px_ent, px_st1, px_st2, px_mask, ↓px_tsw, ↓px_lsw, ct_, mls_0, mls_1, mls_2, mls_3, mls_4, mls_5, kd_0, kd_1, kd_2, kd_3, ln_0, ln_1, ln_2, ln_3, gf_0, gf_1, gf_2, gf_3, gf_4, gf_7, gf_21, gf_63, dy_0, dy_1, dy_2, dy_3, dy_7, dy_21, px_brT, px_brF, true_and, and_true, and_false, false_and, and_self, true_implies, false_implies, or_true, true_or, or_false, false_or, eq_self, ne_eq, not_false_eq_true, not_true_eq_false, if_true, if_false, List.mem_cons, List.not_mem_nil, List.length_cons, List.length_nil, Nat.reduceEqDiff, Nat.reduceAdd, Nat.reduceSub, Nat.reduceLeDiff, Nat.reduceLT, Int.reduceEq, Int.reduceLT, Int.reduceLE, Int.reduceNeg, Int.reduceAdd, Int.reduceSub, Int.reduceToNat, ↓reduceIte, one_ne_zero_, zero_ne_one_, px_in32L, cd_244]
        exact ih M1 (V ++ [P]) _ (by rw [g145]; exact e0) (by rw [g145]; exact e1) (by rw [g145]; exact e2) hI1 (by omega) a1 a2 hpw2 (frG_trans (frJ_G a4) hfr) (Or.inr ⟨k', w0, w1, w2, w3, rfl⟩)
set_option maxHeartbeats 600000 in
set_option maxRecDepth 100000 in
theorem lp_ja1 {M0 : px_mem} (hx : ∀ M', (∀ j, 0 ≤ j → j < 3 → M' 144 j = 0) → (∀ b, b ≠ 144 → M' b = M0 b) → px_WP 244 0 0 (px_Q0 LAY Q) 28 [(2, 127), (9, 0), (9, 0), (0, 3)] [] LAY M' 0 0) (k : Int) (hk_k : k ≤ 3) : ∀ (M : px_mem), 0 ≤ k → (∀ j, 0 ≤ j → j < k → M 144 j = 0) → (∀ b, b ≠ 144 → M b = M0 b) → px_WP 244 0 0 (px_Q0 LAY Q) 28 [(2, 127), (9, 0), (9, 0), (0, k)] [] LAY M 0 0 := by
  refine up_ind (P := fun k => ∀ (M : px_mem), 0 ≤ k → (∀ j, 0 ≤ j → j < k → M 144 j = 0) → (∀ b, b ≠ 144 → M b = M0 b) → px_WP 244 0 0 (px_Q0 LAY Q) 28 [(2, 127), (9, 0), (9, 0), (0, k)] [] LAY M 0 0) (3) (fun k hk_k ih => ?_) k hk_k
  intro M k0 ha hfr
  by_cases hk3 : k = 3
  · subst hk3; exact hx M ha hfr
  refine px_go_ok (inl := []) 60 ?_
  simp only [px_go, px_Q0_at, px_sx_0, px_sx_s, px_cl, px_step, ↓px_ll, px_lg, f4_, ↓px_r1, ↓px_r2, ↓px_r4, ↓px_r5, ↓px_p1, ↓px_p2, ↓px_p3, ↓px_pop, px_k_0, px_k_s, px_k3_0, px_stk_, px_cats, px_ent, px_st1, px_st2, px_mask, ↓px_tsw, ↓px_lsw, ct_, mls_0, mls_1, mls_2, mls_3, mls_4, mls_5, kd_0, kd_1, kd_2, kd_3, ln_0, ln_1, ln_2, ln_3, gf_0, gf_1, gf_2, gf_3, gf_4, gf_7, gf_21, gf_63, dy_0, dy_1, dy_2, dy_3, dy_7, dy_21, px_brT, px_brF, true_and, and_true, and_false, false_and, and_self, true_implies, false_implies, or_true, true_or, or_false, false_or, eq_self, ne_eq, not_false_eq_true, not_true_eq_false, if_true, if_false, List.mem_cons, List.not_mem_nil, List.length_cons, List.length_nil, Nat.reduceEqDiff, Nat.reduceAdd, Nat.reduceSub, Nat.reduceLeDiff, Nat.reduceLT, Int.reduceEq, Int.reduceLT, Int.reduceLE, Int.reduceNeg, Int.reduceAdd, Int.reduceSub, Int.reduceToNat, ↓reduceIte, one_ne_zero_, zero_ne_one_, px_in32L, cd_244]
  repeat' (first | (with_reducible apply And.intro) | (with_reducible refine px_br_intro (fun _ => ?_) (fun _ => ?_)))
  all_goals (try (first | (unfold px_in32; omega) | omega))
  · rename_i c1
    refine ih (by omega) _ (by omega) (fun j j0 j1 => ?_) (fun b b0 => by rw [row_ne b0]; exact hfr b b0)
    rw [px_up_at]
    by_cases q : j = k
    · rw [if_pos ⟨rfl, q⟩]
    · rw [if_neg (fun z => q z.2)]; exact ha j j0 (by omega)
set_option maxHeartbeats 600000 in
set_option maxRecDepth 100000 in
theorem sp_joinsAll {Mc : px_mem} {a b sa sb : Int} {pl : Int → Int → List Int} {nm : Int → List Int} (hT : TE Mc pl nm (M 128)) (hac : acy Mc) (hno : Mc 118 2 = 0) (ea : slot Mc a = sa) (eb : slot Mc b = sb) (hsa : 0 ≤ sa ∧ sa < Mc 20 1) (hsb : 0 ≤ sb ∧ sb < Mc 20 1) (h : ∀ M' so V, comS Mc a b so → so < Mc 20 1 → jnU Mc pl so sa sb V → rJ M' (jnF Mc pl so sa sb V).1 → M' 127 27 = (jnF Mc pl so sa sb V).2 → jpw (jnF Mc pl so sa sb V).1 → (jnF Mc pl so sa sb V).1.length ≤ 36 → frG M' M → Q none M') : px_Ok 244 [(2, 127), (0, sa), (0, sb)] LAY M Q := by
  refine px_ok_go (inl := []) (ls0 := [(2, 127), (0, sa), (0, sb), (9, 0)]) 60 (by decide) (Nat.le_of_ble_eq_true rfl) rfl ?_
  simp only [px_go, px_Q0_at, px_sx_0, px_sx_s, px_cl, px_step, ↓px_ll, px_lg, f4_, ↓px_r1, ↓px_r2, ↓px_r4, ↓px_r5, ↓px_p1, ↓px_p2, ↓px_p3, ↓px_pop, px_k_0, px_k_s, px_k3_0, px_stk_, px_cats, px_ent, px_st1, px_st2, px_mask, ↓px_tsw, ↓px_lsw, ct_, mls_0, mls_1, mls_2, mls_3, mls_4, mls_5, kd_0, kd_1, kd_2, kd_3, ln_0, ln_1, ln_2, ln_3, gf_0, gf_1, gf_2, gf_3, gf_4, gf_7, gf_21, gf_63, dy_0, dy_1, dy_2, dy_3, dy_7, dy_21, px_brT, px_brF, true_and, and_true, and_false, false_and, and_self, true_implies, false_implies, or_true, true_or, or_false, false_or, eq_self, ne_eq, not_false_eq_true, not_true_eq_false, if_true, if_false, List.mem_cons, List.not_mem_nil, List.length_cons, List.length_nil, Nat.reduceEqDiff, Nat.reduceAdd, Nat.reduceSub, Nat.reduceLeDiff, Nat.reduceLT, Int.reduceEq, Int.reduceLT, Int.reduceLE, Int.reduceNeg, Int.reduceAdd, Int.reduceSub, Int.reduceToNat, ↓reduceIte, one_ne_zero_, zero_ne_one_, px_in32L, cd_244]
  repeat' (first | (with_reducible apply And.intro) | (with_reducible refine px_br_intro (fun _ => ?_) (fun _ => ?_)))
  all_goals (try (first | (unfold px_in32; omega) | omega))
  refine sp_rcommonOf hT hac ea eb hsa hsb (fun so hso => ?_)
  have ho : sOk Mc so := by
    obtain ⟨s, t, _, _, z | z⟩ := hso
    · exact Or.inl z.1
    · exact Or.inr ⟨z.1, z.2.1⟩
  have hTn := TE_n hT
  have ho2 : so < Mc 20 1 := by rcases ho with z | z <;> omega
  simp only [px_go, px_Q0_at, px_sx_0, px_sx_s, px_cl, px_step, ↓px_ll, px_lg, f4_, ↓px_r1, ↓px_r2, ↓px_r4, ↓px_r5, ↓px_p1, ↓px_p2, ↓px_p3, ↓px_pop, px_k_0, px_k_s, px_k3_0, px_stk_, px_cats, px_ent, px_st1, px_st2, px_mask, ↓px_tsw, ↓px_lsw, ct_, mls_0, mls_1, mls_2, mls_3, mls_4, mls_5, kd_0, kd_1, kd_2, kd_3, ln_0, ln_1, ln_2, ln_3, gf_0, gf_1, gf_2, gf_3, gf_4, gf_7, gf_21, gf_63, dy_0, dy_1, dy_2, dy_3, dy_7, dy_21, px_brT, px_brF, true_and, and_true, and_false, false_and, and_self, true_implies, false_implies, or_true, true_or, or_false, false_or, eq_self, ne_eq, not_false_eq_true, not_true_eq_false, if_true, if_false, List.mem_cons, List.not_mem_nil, List.length_cons, List.length_nil, Nat.reduceEqDiff, Nat.reduceAdd, Nat.reduceSub, Nat.reduceLeDiff, Nat.reduceLT, Int.reduceEq, Int.reduceLT, Int.reduceLE, Int.reduceNeg, Int.reduceAdd, Int.reduceSub, Int.reduceToNat, ↓reduceIte, one_ne_zero_, zero_ne_one_, px_in32L, cd_244]
  refine lp_ja1 (M0 := px_up (px_up (px_up M 145 0 so) 145 1 sa) 145 2 sb) (fun M1 a1 a2 => ?_) 0 (by decide) _ (Int.le_refl 0) (fun j j0 j1 => by omega) (fun _ _ => rfl)
  refine px_go_ok (inl := []) 60 ?_
  simp only [px_go, px_Q0_at, px_sx_0, px_sx_s, px_cl, px_step, ↓px_ll, px_lg, f4_, ↓px_r1, ↓px_r2, ↓px_r4, ↓px_r5, ↓px_p1, ↓px_p2, ↓px_p3, ↓px_pop, px_k_0, px_k_s, px_k3_0, px_stk_, px_cats, px_ent, px_st1, px_st2, px_mask, ↓px_tsw, ↓px_lsw, ct_, mls_0, mls_1, mls_2, mls_3, mls_4, mls_5, kd_0, kd_1, kd_2, kd_3, ln_0, ln_1, ln_2, ln_3, gf_0, gf_1, gf_2, gf_3, gf_4, gf_7, gf_21, gf_63, dy_0, dy_1, dy_2, dy_3, dy_7, dy_21, px_brT, px_brF, true_and, and_true, and_false, false_and, and_self, true_implies, false_implies, or_true, true_or, or_false, false_or, eq_self, ne_eq, not_false_eq_true, not_true_eq_false, if_true, if_false, List.mem_cons, List.not_mem_nil, List.length_cons, List.length_nil, Nat.reduceEqDiff, Nat.reduceAdd, Nat.reduceSub, Nat.reduceLeDiff, Nat.reduceLT, Int.reduceEq, Int.reduceLT, Int.reduceLE, Int.reduceNeg, Int.reduceAdd, Int.reduceSub, Int.reduceToNat, ↓reduceIte, one_ne_zero_, zero_ne_one_, px_in32L, cd_244]
  have g0 : M1 145 0 = so := by rw [a2 145 (by decide), px_up_at, if_neg (by decide), px_up_at, if_neg (by decide), px_up_at, if_pos ⟨rfl, rfl⟩]
  have g1 : M1 145 1 = sa := by rw [a2 145 (by decide), px_up_at, if_neg (by decide), px_up_at, if_pos ⟨rfl, rfl⟩]
  have g2 : M1 145 2 = sb := by rw [a2 145 (by decide), px_up_at, if_pos ⟨rfl, rfl⟩]
  generalize hM2 : px_up (px_up M1 127 26 0) 127 27 0 = M2
  have k145 : M2 145 = M1 145 := by rw [← hM2, row_ne (by decide), row_ne (by decide)]
  have k144 : M2 144 = M1 144 := by rw [← hM2, row_ne (by decide), row_ne (by decide)]
  have k128 : M2 128 = M 128 := by rw [← hM2, row_ne (by decide), row_ne (by decide), a2 128 (by decide), row_ne (by decide), row_ne (by decide), row_ne (by decide)]
  have hs : ∀ k, 0 ≤ k → k < 3 → sOk Mc (M2 145 k) := fun k k0 k1 => by
    rw [k145]
    rcases (by omega : k = 0 ∨ k = 1 ∨ k = 2) with q | q | q <;> subst q
    · rw [g0]; exact ho
    · rw [g1]; exact Or.inr hsa
    · rw [g2]; exact Or.inr hsb
  have h144 : ∀ j, 0 ≤ j → j < 3 → M2 144 j = 0 := fun j j0 j1 => by rw [k144]; exact a1 j j0 j1
  have hI : mgI Mc pl (M2 145) (M2 144) [] := ⟨fun k k0 k1 => by
    rw [h144 k k0 k1]
    exact ⟨Int.le_refl 0, (nK_rng hT (hs k k0 k1)).1⟩, List.Pairwise.nil, fun p hp => absurd hp List.not_mem_nil, fun k j k0 k1 j0 j1 => by
    rw [h144 k k0 k1]
    exact ⟨fun z => by omega, fun z => absurd z List.not_mem_nil⟩, fun k k0 k1 hk q hq => absurd hq List.not_mem_nil, by
    rw [h144 0 (by decide) (by decide), h144 1 (by decide) (by decide), h144 2 (by decide) (by decide)]
    exact Int.le_refl 0⟩
  have hfr : frG M2 M := ⟨fun j j0 j1 => by rw [← hM2, px_up_at, if_neg (fun z => j1 z.2), px_up_at, if_neg (fun z => j0 z.2), a2 127 (by decide), row_ne (by decide), row_ne (by decide), row_ne (by decide)], fun b b0 b1' b2 b3 b4 b5 => by rw [← hM2, row_ne b0, row_ne b0, a2 b b3, row_ne b4, row_ne b4, row_ne b4]⟩
  have hJ0 : rJ M2 (jnF Mc pl so sa sb []).1 := ⟨by rw [← hM2, px_up_at, if_neg (by decide), px_up_at, if_pos ⟨rfl, rfl⟩]; rfl, fun i x hx => by
    have hx : ([] : List (List Int × Int))[i]? = some x := hx
    simp at hx⟩
  have hc0 : M2 127 27 = (jnF Mc pl so sa sb []).2 := by rw [← hM2, px_up_at, if_pos ⟨rfl, rfl⟩]; rfl
  have hfin := fun r hr => lp_ja2 (M0 := M) (so := so) (sa := sa) (sb := sb) (Q := Q) hT hno ho hsa hsb (fun M' V z1 z2 z3 z4 z5 z6 => h M' so V hso ho2 z1 z2 z3 z4 (by
    have := (jfo_rng (cAt Mc (eoF Mc so) (poF pl so)) (cAt Mc (Mc 21 sa) (pl sa)) (cAt Mc (Mc 21 sb) (pl sb)) V).1
    have e : (jnF Mc pl so sa sb V).1.length ≤ V.length := this
    omega) z6) 37 M2 [] r (by rw [k145]; exact g0) (by rw [k145]; exact g1) (by rw [k145]; exact g2) hI (by
    rw [h144 0 (by decide) (by decide), h144 1 (by decide) (by decide), h144 2 (by decide) (by decide)]; decide) hJ0 hc0 List.Pairwise.nil hfr hr
  refine sp_nextEntry (by rw [k128]; exact hT) hs (fun k k0 k1 => by rw [h144 k k0 k1]; exact ⟨by decide, by decide⟩) (fun w => ?_) (fun k' w0 w1 w2 w3 => ?_)
  · simp only [px_go, px_Q0_at, px_sx_0, px_sx_s, px_cl, px_step, ↓px_ll, px_lg, f4_, ↓px_r1, ↓px_r2, ↓px_r4, ↓px_r5, ↓px_p1, ↓px_p2, ↓px_p3, ↓px_pop, px_k_0, px_k_s, px_k3_0, px_stk_, px_cats, px_ent, px_st1, px_st2, px_mask, ↓px_tsw, ↓px_lsw, ct_, mls_0, mls_1, mls_2, mls_3, mls_4, mls_5, kd_0, kd_1, kd_2, kd_3, ln_0, ln_1, ln_2, ln_3, gf_0, gf_1, gf_2, gf_3, gf_4, gf_7, gf_21, gf_63, dy_0, dy_1, dy_2, dy_3, dy_7, dy_21, px_brT, px_brF, true_and, and_true, and_false, false_and, and_self, true_implies, false_implies, or_true, true_or, or_false, false_or, eq_self, ne_eq, not_false_eq_true, not_true_eq_false, if_true, if_false, List.mem_cons, List.not_mem_nil, List.length_cons, List.length_nil, Nat.reduceEqDiff, Nat.reduceAdd, Nat.reduceSub, Nat.reduceLeDiff, Nat.reduceLT, Int.reduceEq, Int.reduceLT, Int.reduceLE, Int.reduceNeg, Int.reduceAdd, Int.reduceSub, Int.reduceToNat, ↓reduceIte, one_ne_zero_, zero_ne_one_, px_in32L, cd_244]
    exact hfin _ (Or.inl ⟨rfl, w⟩)
  · simp only [px_go, px_Q0_at, px_sx_0, px_sx_s, px_cl, px_step, ↓px_ll, px_lg, f4_, ↓px_r1, ↓px_r2, ↓px_r4, ↓px_r5, ↓px_p1, ↓px_p2, ↓px_p3, ↓px_pop, px_k_0, px_k_s, px_k3_0, px_stk_, px_cats, px_ent, px_st1, px_st2, px_mask, ↓px_tsw, ↓px_lsw, ct_, mls_0, mls_1, mls_2, mls_3, mls_4, mls_5, kd_0, kd_1, kd_2, kd_3, ln_0, ln_1, ln_2, ln_3, gf_0, gf_1, gf_2, gf_3, gf_4, gf_7, gf_21, gf_63, dy_0, dy_1, dy_2, dy_3, dy_7, dy_21, px_brT, px_brF, true_and, and_true, and_false, false_and, and_self, true_implies, false_implies, or_true, true_or, or_false, false_or, eq_self, ne_eq, not_false_eq_true, not_true_eq_false, if_true, if_false, List.mem_cons, List.not_mem_nil, List.length_cons, List.length_nil, Nat.reduceEqDiff, Nat.reduceAdd, Nat.reduceSub, Nat.reduceLeDiff, Nat.reduceLT, Int.reduceEq, Int.reduceLT, Int.reduceLE, Int.reduceNeg, Int.reduceAdd, Int.reduceSub, Int.reduceToNat, ↓reduceIte, one_ne_zero_, zero_ne_one_, px_in32L, cd_244]
    exact hfin _ (Or.inr ⟨k', w0, w1, w2, w3, rfl⟩)
end PS
