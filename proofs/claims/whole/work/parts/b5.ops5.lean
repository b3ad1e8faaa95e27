/-! both sides: rebuild, join, fetch -/
theorem slot_lt {M : px_mem} (hn : numI M) {num : Int} (h : 0 ≤ slot M num) : num < M 20 2 := by
  rcases slot_rng (M := M) num with z | z
  · omega
  · have := (hn.2.1 _ z.1 z.2.1).2.1
    rw [z.2.2.1] at this; exact this
theorem edI_sg {M : px_mem} {pl : Int → Int → List Int} {nm : Int → List Int} (hed : edA M pl nm) {s : Int} (s0 : 0 ≤ s) (s1 : s < M 20 1) : sgI (M (M 21 s) 2) (fun j => (pl s j, rdC M (M (M 21 s + 2) j))) := by
  have hi := hed.2 s s0 s1
  exact ⟨rbG_srt hed s0 s1, fun i j i0 i1 j0 j1 z => hi.2.2.2.1 i j i0 i1 j0 j1 z, fun i i0 i1 => (hi.2.2.1 i i0 i1).2⟩
theorem comS_uniq {M : px_mem} {a b so so' : Int} (h : comS M a b so) (h' : comS M a b so') : so = so' := by
  obtain ⟨s, t, hs, ht, hc⟩ := h
  obtain ⟨s', t', hs', ht', hc'⟩ := h'
  have es := ancC_uniq hs hs'
  have et := ancC_uniq ht ht'
  subst es; subst et
  rcases hc with z | z
  · rcases hc' with y | y
    · omega
    · exact absurd ⟨y.2.2.1, y.2.2.2.1⟩ (z.2 so' y.1 y.2.1)
  · rcases hc' with y | y
    · exact absurd ⟨z.2.2.1, z.2.2.2.1⟩ (y.2 so z.1 z.2.1)
    · rcases (by omega : so < so' ∨ so = so' ∨ so' < so) with q | q | q
      · exact absurd ⟨y.2.2.1, y.2.2.2.1⟩ (z.2.2.2.2 so' q y.2.1)
      · exact q
      · exact absurd ⟨z.2.2.1, z.2.2.2.1⟩ (y.2.2.2.2 so q z.2.1)
theorem jfo_nm1 (co cx cy : List Int → Int) : ∀ (U V : List (List Int)), V = U.reverse → (jfo co cx cy V).1.Pairwise (fun a b => ¬ mt a.1 b.1) := by
  intro U
  induction U with
  | nil => intro V h; subst h; exact List.Pairwise.nil
  | cons p U ih =>
    intro V h
    subst h
    rw [List.reverse_cons, jfo_snoc]
    have h1 := ih U.reverse rfl
    by_cases c1 : isV (co p) (cx p) (cy p) < 0
    · rw [jst_N c1]; exact h1
    · by_cases c2 : ∃ q ∈ (jfo co cx cy U.reverse).1, mt q.1 p
      · rw [jst_L c1 c2]; exact h1
      · rw [jst_A c1 c2, List.pairwise_append]
        refine ⟨h1, List.pairwise_singleton _ _, fun a ha b hb => ?_⟩
        rw [List.mem_singleton] at hb
        rw [hb]
        exact fun z => c2 ⟨a, ha, z⟩
theorem jfo_nm (co cx cy : List Int → Int) (V : List (List Int)) : (jfo co cx cy V).1.Pairwise (fun a b => ¬ mt a.1 b.1) := jfo_nm1 co cx cy V.reverse V (List.reverse_reverse V).symm
theorem gJ_sg {M : px_mem} {J : List (List Int × Int)} (hpw : jpw J) (hnm : J.Pairwise (fun a b => ¬ mt a.1 b.1)) (hP : ∀ q ∈ J, isP q.1) : sgI (J.length : Int) (gJ M J) := by
  have key := List.pairwise_iff_getElem.mp hnm
  refine ⟨gJ_srt hpw, fun i j i0 i1 j0 j1 z => ?_, fun i i0 i1 => ?_⟩
  · have hi : J[i.toNat]? = some (J[i.toNat]'(by omega)) := List.getElem?_eq_getElem (by omega)
    have hj : J[j.toNat]? = some (J[j.toNat]'(by omega)) := List.getElem?_eq_getElem (by omega)
    rw [gJ_at hi, gJ_at hj] at z
    rcases (by omega : i < j ∨ i = j ∨ j < i) with q | q | q
    · exact absurd z (key i.toNat j.toNat (by omega) (by omega) (by omega))
    · exact q
    · exact absurd (mt_sym z) (key j.toNat i.toNat (by omega) (by omega) (by omega))
  · have hi : J[i.toNat]? = some (J[i.toNat]'(by omega)) := List.getElem?_eq_getElem (by omega)
    rw [gJ_at hi]
    exact hP _ (List.getElem_mem _)
section PS
variable {M : px_mem}
theorem op_rebuild (a : Int) : opO 123 237 [(0, a)] := by
  intro M hR
  have hR2 := hR
  obtain ⟨pl, nm, N, g, hR3⟩ := hR
  have hR4 := hR3
  obtain ⟨hC, hT, hS, hP, hs⟩ := hR3
  have hed := hC.2.2.2.1
  have hnum := hC.2.2.2.2.2.1
  refine sp_rebuild hed hC.2.2.2.2.1 hC.2.1 (fun z => ⟨_, rfl, ?_⟩) (fun s e z1 z2 z3 z4 => ⟨_, rfl, ?_⟩) (fun M1 s e z1 z2 z3 z4 z5 z6 z7 z8 z9 z10 => ⟨_, rfl, ?_⟩)
  · exact sp_rrebuild hT hS (fun _ => ⟨rfl, hR2⟩) (fun M2 q1 => by exfalso; omega) (fun M2 q1 => by exfalso; omega)
  · subst z1; subst z3
    exact sp_rrebuild hT hS (fun _ => by exfalso; omega) (fun M2 q1 q2 q3 q4 => ⟨rfl, ⟨pl, nm, N, g, RRg_r q3 q4 hR4⟩⟩) (fun M2 q1 q2 q3 => absurd q3 z4)
  · subst z1; subst z4
    have g128 : M1 128 = M 128 := z10 128 (by decide) (by decide) (by decide) (by decide) (by decide)
    refine sp_rrebuild (Mc := M) (pl := pl) (nm := nm) (by rw [g128]; exact hT) (by rw [g128]; exact hS) (fun _ => by exfalso; omega) (fun M2 q1 q2 q3 q4 => absurd z5 q2) (fun M2 q1 q2 q3 q4 q5 q6 q7 q8 => ⟨rfl, ?_⟩)
    have o := q8.1
    have hlt := slot_lt hnum z2
    have hn0 := hnum.1.1
    have e20 : M2 20 = M 20 := by rw [o 20 (by decide), z10 20 (by decide) (by decide) (by decide) (by decide) (by decide)]
    have e1 : M2 1 = M 1 := by rw [o 1 (by decide), z10 1 (by decide) (by decide) (by decide) (by decide) (by decide)]
    have e2 : M2 2 = M 2 := by rw [o 2 (by decide), z10 2 (by decide) (by decide) (by decide) (by decide) (by decide)]
    have e3 : M2 3 = M 3 := by rw [o 3 (by decide), z10 3 (by decide) (by decide) (by decide) (by decide) (by decide)]
    have e130 : M2 130 = M 130 := by rw [q8.2.1, z10 130 (by decide) (by decide) (by decide) (by decide) (by decide)]
    have e127 : M2 127 3 = M 127 3 := by rw [q8.2.2, z10 127 (by decide) (by decide) (by decide) (by decide) (by decide)]
    have e44 : M2 4 4 = a := by rw [o 4 (by decide)]; exact z7
    have e45 : M2 4 5 = -2 := by rw [o 4 (by decide)]; exact z8
    refine RR_build hR4 (fun b b0 b1 _ => by rw [o b (by omega), z10 b (by omega) (by omega) (by omega) (by omega) (by omega)]) (stF_frame z6 (fun b b0 b1 => o b (by omega))) (edI_sg hed z2 z3) ?_ ?_ q4 (fun x x0 => by rw [q7 x (by omega) (by omega) (by omega) (by omega), g128]) (by rw [q7 5 (by decide) (by decide) (by decide) (by decide), g128]) ⟨by rw [e44]; exact hlt, by rw [e45]; omega⟩ ?_
    · have ht := hC.1
      unfold tpI at ht ⊢
      rw [e2, e3]; exact ht
    · unfold tpT at hP ⊢
      rw [e127, e130, e2, e3]; exact hP
    · unfold rsT at hs ⊢
      rw [q5, q6, e44, e45, e20, e1, q7 3 (by decide) (by decide) (by decide) (by decide), q7 4 (by decide) (by decide) (by decide) (by decide), g128]
      exact ⟨rfl, rfl, hs.2.2⟩
theorem op_join (a b : Int) : opO 124 245 [(0, a), (0, b)] := by
  intro M hR
  have hR2 := hR
  obtain ⟨pl, nm, N, g, hR3⟩ := hR
  have hR4 := hR3
  obtain ⟨hC, hT, hS, hP, hs⟩ := hR3
  have hed := hC.2.2.2.1
  have hnum := hC.2.2.2.2.2.1
  have hno := hC.2.2.2.2.2.2
  refine sp_join hed hnum hno hC.2.2.2.2.1 hC.2.1 (fun z => ⟨_, rfl, ?_⟩) (fun M1 so sa sb U z1 z2 z3 z4 z5 z6 z7 z8 z9 => ⟨_, rfl, ?_⟩) (fun M1 so sa sb U z1 z2 z3 z4 z5 z6 z7 z8 z10 z9 => ⟨_, rfl, ?_⟩) (fun M1 so sa sb U z1 z2 z3 z4 z5 z6 z7 z8 z10 z11 z12 z13 z14 z15 z16 z17 => ⟨_, rfl, ?_⟩)
  · exact sp_rjoin hT hnum hno (fun _ => ⟨rfl, hR2⟩) (fun M2 so V q1 q2 => by exfalso; omega) (fun M2 so V q1 q2 => by exfalso; omega) (fun M2 so V q1 q2 => by exfalso; omega)
  · subst z1; subst z2
    have hf : ∀ b, ¬ scr b → M1 b = M b := fun b b0 => z9 b (fun e => b0 (by rw [e]; unfold scr; decide)) (fun e => b0 (by rw [e]; unfold scr; decide)) (fun e => b0 (by rw [e]; unfold scr; decide))
    refine sp_rjoin (Mc := M) (op_of_fr hR4 hf) hnum hno (fun _ => by exfalso; omega) (fun M2 so' V q1 q2 q3 q4 q5 q6 q7 => ⟨rfl, RR_fin hR4 hf q6 q7⟩) (fun M2 so' V q1 q2 q3 q4 q5 => ?_) (fun M2 so' V q1 q2 q3 q4 q5 => ?_)
    · have es := comS_uniq q3 z5
      subst es
      have eV := isU_uniq q4 z7
      rw [eV] at q5; exact absurd q5 z8
    · have es := comS_uniq q3 z5
      subst es
      have eV := isU_uniq q4 z7
      rw [eV] at q5; exact absurd q5 z8
  · subst z1; subst z2
    have hf : ∀ b, ¬ scr b → M1 b = M b := fun b b0 => z9 b (fun e => b0 (by rw [e]; unfold scr; decide)) (fun e => b0 (by rw [e]; unfold scr; decide)) (fun e => b0 (by rw [e]; unfold scr; decide))
    refine sp_rjoin (Mc := M) (op_of_fr hR4 hf) hnum hno (fun _ => by exfalso; omega) (fun M2 so' V q1 q2 q3 q4 q5 => ?_) (fun M2 so' V q1 q2 q3 q4 q5 q6 q7 q8 => ⟨rfl, RR_fin hR4 hf q7 q8⟩) (fun M2 so' V q1 q2 q3 q4 q5 q6 => ?_)
    · have es := comS_uniq q3 z5
      subst es
      have eV := isU_uniq q4 z7
      rw [eV] at q5; exact absurd z8 q5
    · have es := comS_uniq q3 z5
      subst es
      have eV := isU_uniq q4 z7
      rw [eV] at q6; omega
  · subst z1; subst z2
    have g128 : M1 128 = M 128 := z17 128 (by decide) (by decide) (by decide) (by decide) (by decide) (by decide) (by decide)
    refine sp_rjoin (Mc := M) (pl := pl) (nm := nm) (by rw [g128]; exact hT) hnum hno (fun _ => by exfalso; omega) (fun M2 so' V q1 q2 q3 q4 q5 => ?_) (fun M2 so' V q1 q2 q3 q4 q5 q6 => ?_) (fun M2 so' V q1 q2 q3 q4 q5 q6 q7 q8 q9 q10 q11 q12 q13 => ?_)
    · have es := comS_uniq q3 z5
      subst es
      have eV := isU_uniq q4 z7
      rw [eV] at q5; exact absurd z8 q5
    · have es := comS_uniq q3 z5
      subst es
      have eV := isU_uniq q4 z7
      rw [eV] at q6; omega
    · have es := comS_uniq q3 z5
      subst es
      have eV := isU_uniq q4 z7
      subst eV
      refine ⟨rfl, ?_⟩
      have hjo := jn_ok hed hno z6 ⟨z3, by rcases slot_bd M a with y | y <;> omega⟩ ⟨z4, by rcases slot_bd M b with y | y <;> omega⟩ z7
      have o := q13.1
      have zz : ∀ x, x ≠ 1 → x ≠ 4 → x ≠ 5 → x ≠ 6 → x ≠ 7 → ¬ (8 ≤ x ∧ x < 20) → ¬ (115 ≤ x ∧ x ≤ 117) → x < 127 → M2 x = M x := fun x a1 a2 a3 a4 a5 a6 a7 a8 => by rw [o x a8, z17 x a1 a2 a3 a4 a5 a6 a7]
      have hn0 := hnum.1.1
      have e20 : M2 20 = M 20 := zz 20 (by decide) (by decide) (by decide) (by decide) (by decide) (by decide) (by decide) (by decide)
      have e2 : M2 2 = M 2 := zz 2 (by decide) (by decide) (by decide) (by decide) (by decide) (by decide) (by decide) (by decide)
      have e3 : M2 3 = M 3 := zz 3 (by decide) (by decide) (by decide) (by decide) (by decide) (by decide) (by decide) (by decide)
      have e130 : M2 130 = M 130 := by rw [q13.2.1, z17 130 (by decide) (by decide) (by decide) (by decide) (by decide) (by decide) (by decide)]
      have e127 : M2 127 3 = M 127 3 := by rw [q13.2.2, z17 127 (by decide) (by decide) (by decide) (by decide) (by decide) (by decide) (by decide)]
      have e44 : M2 4 4 = a := by rw [o 4 (by decide)]; exact z12
      have e45 : M2 4 5 = b := by rw [o 4 (by decide)]; exact z13
      have e110 : M2 1 10 = (jnF M pl so' (slot M a) (slot M b) V).2 := by rw [o 1 (by decide)]; exact z14
      refine RR_build hR4 (fun x x0 x1 x2 => zz x (by omega) (by omega) (by omega) (by omega) (by omega) (by omega) (fun e => x2 (by unfold scr; omega)) x1) (stF_frame z11 (fun b b0 b1 => o b (by omega))) (gJ_sg q8 (jfo_nm _ _ _ _) (fun q hq => (hjo q hq).1)) ?_ ?_ q7 (fun x x0 => by rw [q12 x (by omega) (by omega) (by omega) (by omega) (by omega), g128]) (by rw [q12 5 (by decide) (by decide) (by decide) (by decide) (by decide), g128]) ⟨by rw [e44]; exact slot_lt hnum z3, by rw [e45]; exact slot_lt hnum z4⟩ ?_
      · have ht := hC.1
        unfold tpI at ht ⊢
        rw [e2, e3]; exact ht
      · unfold tpT at hP ⊢
        rw [e127, e130, e2, e3]; exact hP
      · unfold rsT at hs ⊢
        rw [q9, q10, q11, e44, e45, e110, e20, q12 3 (by decide) (by decide) (by decide) (by decide) (by decide), g128]
        exact ⟨rfl, rfl, hs.2.2.1, rfl⟩
theorem op_fetch (a p : Int) : opO 146 272 [(0, a), (0, p)] := by
  intro M hR
  have hR2 := hR
  obtain ⟨pl, nm, N, g, hR3⟩ := hR
  have hR4 := hR3
  obtain ⟨hC, hT, hS, hP, hs⟩ := hR3
  have hed := hC.2.2.2.1
  have htb := tp_b hP hC.1
  have e3 := hP.1
  have hw : wdq M p ↔ wrd M p := by unfold wdq wrd; rw [e3]
  have f127 : px_up M 2 1 0 127 = M 127 := row_ne (by decide)
  have f128 : px_up M 2 1 0 128 = M 128 := row_ne (by decide)
  have f130 : px_up M 2 1 0 130 = M 130 := row_ne (by decide)
  have hw0 : wdq (px_up M 2 1 0) p ↔ wdq M p := by unfold wdq; rw [f127]
  have ha := hC.2.2.1
  have et : wrd M p → tw (M 130) 0 p = lst (M 3) p := fun z => tp_w0 hP (by unfold wrd at z; omega)
  refine sp_fetch hC.1 hed hC.2.2.2.2.1 hC.2.1 ha (fun z => ⟨_, rfl, ?_⟩) (fun z1 z2 => ⟨_, rfl, ?_⟩) (fun s e z1 z2 z3 z4 z5 => ⟨_, rfl, ?_⟩) (fun s e z1 z2 z3 z4 z5 z6 z7 => ⟨_, rfl, ?_⟩) (fun s e z1 z2 z3 z4 z5 z6 z7 z8 => ⟨_, rfl, ?_⟩) (fun M1 g1 s e z1 z2 z3 z9 z4 z5 z6 z7 z8 z10 z11 z12 z13 z14 => ⟨_, rfl, ?_⟩)
  · exact sp_rfetch htb hT hS ha (fun _ => ⟨rfl, hR2⟩) (fun M2 q1 => absurd (hw.mp q1) z) (fun M2 s q1 => absurd (hw.mp q1) z) (fun M2 s q1 => absurd (hw.mp q1) z) (fun M2 s q1 => absurd (hw.mp q1) z) (fun M2 g2 s q1 => absurd (hw.mp q1) z)
  · exact sp_rfetch (Mc := M) (pl := pl) (nm := nm) (by rw [f127]; exact htb) (by rw [f128]; exact hT) (by rw [f128]; exact hS) ha (fun y => absurd (hw0.mpr (hw.mpr z1)) y) (fun M2 q1 q2 q3 q4 => ⟨rfl, RR_t0 hR4 q3 q4⟩) (fun M2 s q1 q2 q3 => by exfalso; omega) (fun M2 s q1 q2 q3 => by exfalso; omega) (fun M2 s q1 q2 q3 => by exfalso; omega) (fun M2 g2 s q1 q2 q3 => by exfalso; omega)
  · subst z2; subst z4
    refine sp_rfetch (Mc := M) (pl := pl) (nm := nm) (by rw [f127]; exact htb) (by rw [f128]; exact hT) (by rw [f128]; exact hS) ha (fun y => absurd (hw0.mpr (hw.mpr z1)) y) (fun M2 q1 q2 => by exfalso; omega) (fun M2 s q1 q2 q3 q4 q5 q6 => ⟨rfl, RR_t0 hR4 q5 q6⟩) (fun M2 s q1 q2 q3 q4 q5 => ?_) (fun M2 s q1 q2 q3 q4 q5 => ?_) (fun M2 g2 s q1 q2 q3 q9 q4 q5 => ?_) <;>
      (subst q2; rw [f130, et z1] at q4 q5; exact absurd (z5 q4) q5)
  · subst z2; subst z4
    refine sp_rfetch (Mc := M) (pl := pl) (nm := nm) (by rw [f127]; exact htb) (by rw [f128]; exact hT) (by rw [f128]; exact hS) ha (fun y => absurd (hw0.mpr (hw.mpr z1)) y) (fun M2 q1 q2 => by exfalso; omega) (fun M2 s q1 q2 q3 q4 q5 q6 => ?_) (fun M2 s q1 q2 q3 q4 q5 q6 q7 q8 => ⟨rfl, RR_t0 hR4 q7 q8⟩) (fun M2 s q1 q2 q3 q4 q5 q6 => ?_) (fun M2 g2 s q1 q2 q3 q9 q4 q5 q6 => ?_)
    · subst q2; rw [f130, et z1] at q4; exact absurd (q4 z5) z6
    · subst q2; rw [f130, et z1] at q6; exact absurd q6 z7
    · subst q2; rw [f130, et z1] at q6; exact absurd q6 z7
  · subst z2; subst z4
    refine sp_rfetch (Mc := M) (pl := pl) (nm := nm) (by rw [f127]; exact htb) (by rw [f128]; exact hT) (by rw [f128]; exact hS) ha (fun y => absurd (hw0.mpr (hw.mpr z1)) y) (fun M2 q1 q2 => by exfalso; omega) (fun M2 s q1 q2 q3 q4 q5 q6 => ?_) (fun M2 s q1 q2 q3 q4 q5 q6 => ?_) (fun M2 s q1 q2 q3 q4 q5 q6 q7 q8 q9 => ⟨rfl, RR_t0 hR4 q8 q9⟩) (fun M2 g2 s q1 q2 q3 q9 q4 q5 q6 q7 q8 => ?_)
    · subst q2; rw [f130, et z1] at q4; exact absurd (q4 z5) z6
    · subst q2; rw [f130, et z1] at q6; exact absurd z7 q6
    · subst q2; rw [f130, et z1] at q7 q8
      rcases z8 with y | y
      · omega
      · exact absurd y q8
  · subst z2; subst z4
    have g127 : M1 127 = M 127 := z14.2.2.2 127 (by decide) (by decide) (by decide) (by decide) (by decide) (by decide)
    have g128 : M1 128 = M 128 := z14.2.2.2 128 (by decide) (by decide) (by decide) (by decide) (by decide) (by decide)
    have g130 : M1 130 = M 130 := z14.2.2.2 130 (by decide) (by decide) (by decide) (by decide) (by decide) (by decide)
    have hw1 : wdq M1 p := by unfold wdq; rw [g127, e3]; exact z1
    refine sp_rfetch (Mc := M) (pl := pl) (nm := nm) (by rw [g127]; exact htb) (by rw [g128]; exact hT) (by rw [g128]; exact hS) ha (fun y => absurd hw1 y) (fun M2 q1 q2 => by exfalso; omega) (fun M2 s q1 q2 q3 q4 q5 q6 => ?_) (fun M2 s q1 q2 q3 q4 q5 q6 => ?_) (fun M2 s q1 q2 q3 q4 q5 q6 q7 => ?_) (fun M2 g2 s q1 q2 q3 q9 q4 q5 q6 q7 q8 q10 q11 q12 q13 q14 => ?_)
    · subst q2; rw [g130, et z1] at q4; exact absurd (q4 z5) z6
    · subst q2; rw [g130, et z1] at q6; exact absurd z7 q6
    · subst q2; rw [g130, et z1] at q7
      rcases q7 with y | y
      · omega
      · exact absurd y z10
    · subst q2
      rw [g130, et z1] at q10 q11 q12
      obtain ⟨_, hsR⟩ := st_same z11 z12 q10 q11 (fun x => by rw [z13 x, q12 x])
      have hi := hed.2 _ z3 z9
      refine ⟨by rw [g130, et z1], RR_stg hR4 z14 z11 (sgI_of z12 (fun x y hx hy hm => ?_) (fun x hx => ?_)) hsR q13 q14⟩
      · rw [z13 x] at hx
        rw [z13 y] at hy
        have hcr : ∀ (w : fe) j, isM N g w → ¬ wi w.1 (lst (M 3) p) → 0 ≤ j → j < M (M 21 (slot M a)) 2 → wi (pl (slot M a) j) (lst (M 3) p) → mt w.1 (pl (slot M a) j) → False := fun w j hw9 w1 j0 j1 j2 hm => by
          obtain ⟨i, i0, i1, rfl⟩ := hw9
          exact z10 ⟨j, j0, j1, j2, i, i0, i1, w1, hm⟩
        rcases hx with hx | ⟨i, i0, i1, i2, rfl⟩
        · rcases hy with hy | ⟨j, j0, j1, j2, rfl⟩
          · rw [sgI_m ha hx.1 hy.1 hm]
          · exact (hcr x j hx.1 hx.2 j0 j1 j2 hm).elim
        · rcases hy with hy | ⟨j, j0, j1, j2, rfl⟩
          · exact (hcr y i hy.1 hy.2 i0 i1 i2 (mt_sym hm)).elim
          · have := hi.2.2.2.1 i j i0 i1 j0 j1 hm
            rw [this]
      · rw [z13 x] at hx
        rcases hx with hx | ⟨i, i0, i1, i2, rfl⟩
        · exact sgI_p ha hx.1
        · exact (hi.2.2.1 i i0 i1).2
end PS
