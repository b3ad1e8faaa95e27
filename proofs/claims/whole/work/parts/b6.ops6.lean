/-! both sides: seal, name, drop, thin -/
theorem stC_4 {M M' : px_mem} {N : Int} {g : Int → fe} (h : stC M N g) (h4 : M' 4 3 = M 4 3) (hf : ∀ b, 5 ≤ b → b < 20 → M' b = M b) : stC M' N g := by
  have e5 := hf 5 (by decide) (by decide)
  have e6 := hf 6 (by decide) (by decide)
  have e7 := hf 7 (by decide) (by decide)
  obtain ⟨a1, a2, a3, a4, a5⟩ := h
  refine ⟨by rw [h4]; exact a1, a2, a3, by unfold rwC at a4 ⊢; rw [e7]; exact a4, fun i i0 i1 => ?_⟩
  have hr := a4.1 i i0 (by omega)
  exact fC_frame (a5 i i0 i1) (by rw [e5]) (by rw [e6]) e7 (hf _ (by omega) (by omega))
theorem ed_ne {M : px_mem} (hw : edW M) {i s : Int} (i0 : 0 ≤ i) (i1 : i < 10) (s0 : 0 ≤ s) (s1 : s < 10) : (M 21 i = M 21 s → i = s) ∧ M 21 i + 1 ≠ M 21 s ∧ M 21 i + 2 ≠ M 21 s ∧ 22 ≤ M 21 s ∧ M 21 s < 52 := by
  have h1 := isE_m (hw.1 i i0 i1).1
  have h2 := hw.1 s s0 s1
  have h3 := isE_m h2.1
  exact ⟨fun z => hw.2.1 i s i0 i1 s0 s1 z, by omega, by omega, by omega, by omega⟩
/-- seal or name of one edition is new -/
theorem RR_ed {M M2 : px_mem} {pl : Int → Int → List Int} {nm nm' : Int → List Int} {N s : Int} {g : Int → fe} (h : RRg M pl nm N g) (hs : 0 ≤ s ∧ s < M 20 1) (hf : ∀ b, 1 ≤ b → b < 127 → ¬ scr b → b ≠ 2 → b ≠ M 21 s → M2 b = M b) (he : ∀ j, j ≠ 6 → j ≠ 7 → M2 (M 21 s) j = M (M 21 s) j) (h6 : M2 (M 21 s) 6 = 0 ∨ M2 (M 21 s) 6 = 1) (h7 : okp (nm' s) ∧ (∀ b ∈ nm' s, b ≠ 47) ∧ M2 (M 21 s) 7 = enc (nm' s)) (hnm : ∀ i, i ≠ s → nm' i = nm i) (htp : tpI M2) (hTT : tpT M2) (hF : ∀ x, ¬ (1294 + 186 * s + 3 ≤ x ∧ x < 1294 + 186 * s + 17) → M2 128 x = M 128 x) (hF3 : M2 128 (1294 + 186 * s + 3) = M2 (M 21 s) 6) (hFn : fp (M2 128) (1294 + 186 * s + 4) = nm' s ∧ pok (M2 128) (1294 + 186 * s + 4) 3154) : RR M2 := by
  obtain ⟨hC, hT, hS, hP, hrs⟩ := h
  have hed := hC.2.2.2.1
  have hw := hed.1
  have hn := hw.2.2
  have hne := fun i i0 i1 => ed_ne hw (i := i) (s := s) i0 i1 hs.1 (by omega)
  have hsb := (hne s hs.1 (by omega)).2.2.2
  have nscr : ∀ b, b < 55 → ¬ scr b := fun b b0 z => by unfold scr at z; omega
  have nscr2 : ∀ b, 56 ≤ b → b < 106 → ¬ scr b := fun b b0 b1 z => by unfold scr at z; omega
  have e20 : M2 20 = M 20 := hf 20 (by decide) (by decide) (nscr _ (by decide)) (by decide) (by omega)
  have e21 : M2 21 = M 21 := hf 21 (by decide) (by decide) (nscr _ (by decide)) (by decide) (by omega)
  have e62 : M2 62 = M 62 := hf 62 (by decide) (by decide) (nscr2 _ (by decide) (by decide)) (by decide) (by omega)
  have e4 : M2 4 = M 4 := hf 4 (by decide) (by decide) (nscr _ (by decide)) (by decide) (by omega)
  have e1 : M2 1 = M 1 := hf 1 (by decide) (by decide) (nscr _ (by decide)) (by decide) (by omega)
  have e118 : M2 118 = M 118 := hf 118 (by decide) (by decide) (by unfold scr; decide) (by decide) (by omega)
  have hr1 : ∀ i, 0 ≤ i → i < M 20 1 → M2 (M 21 i + 1) = M (M 21 i + 1) ∧ M2 (M 21 i + 2) = M (M 21 i + 2) := fun i i0 i1 => by
    have hi := hne i i0 (by omega)
    have hb := (hw.1 i i0 (by omega))
    have hm := isE_m hb.1
    exact ⟨hf _ (by omega) (by omega) (nscr _ (by omega)) (by omega) hi.2.1, hf _ (by omega) (by omega) (nscr _ (by omega)) (by omega) hi.2.2.1⟩
  have hr0 : ∀ i, 0 ≤ i → i < M 20 1 → (∀ j, j ≠ 6 → j ≠ 7 → M2 (M 21 i) j = M (M 21 i) j) ∧ (i ≠ s → M2 (M 21 i) = M (M 21 i)) := fun i i0 i1 => by
    have hi := hne i i0 (by omega)
    have hb := (hw.1 i i0 (by omega))
    have hm := isE_m hb.1
    have h9 : i ≠ s → M2 (M 21 i) = M (M 21 i) := fun z => hf _ (by omega) (by omega) (nscr _ (by omega)) (by omega) (fun y => z (hi.1 y))
    refine ⟨fun j j6 j7 => ?_, h9⟩
    by_cases q : i = s
    · rw [q]; exact he j j6 j7
    · rw [h9 q]
  have hedA : edA M2 pl nm' := by
    refine ⟨?_, fun i i0 i1 => ?_⟩
    · have hw := hw
      unfold edW at hw ⊢
      rw [e20, e21]; exact hw
    · rw [e20] at i1
      have hi := hed.2 i i0 i1
      have r1 := hr1 i i0 i1
      have r0 := hr0 i i0 i1
      rw [e21]
      by_cases q : i = s
      · subst q
        obtain ⟨b1', b2, b3, b4, b5, b6, b7, b8⟩ := hi
        have r2 := r0.1 2 (by decide) (by decide)
        refine ⟨?_, ?_, ?_, ?_, h6, h7.1, h7.2.1, h7.2.2⟩
        · unfold lsC at b1' ⊢
          rw [r2, r1.1, r1.2]; exact b1'
        · unfold sE at b2 ⊢
          rw [r2, r1.1]; exact b2
        · rw [r2, r1.2, e62]; exact b3
        · rw [r2]; exact b4
      · rw [hnm i q]
        unfold edI lsC sE at hi ⊢
        rw [r0.2 q, r1.1, r1.2, e62]
        exact hi
  have hci : ci M2 := ci_congr (fun b b0 b1 b2 => hf b (by omega) (by omega) (by unfold scr; omega) (by omega) (by omega)) hC.2.2.2.2.1
  have hnum : numI M2 := by
    obtain ⟨n1, n2, n3, n4, n5⟩ := hC.2.2.2.2.2.1
    refine ⟨by rw [e20]; exact n1, fun i i0 i1 => ?_, fun i j i0 i1 j1 => ?_, by rw [e4, e20]; exact n4, by rw [e4, e20]; exact n5⟩
    · rw [e20] at i1
      have r0 := (hr0 i i0 i1).1
      rw [e20, e21, r0 3 (by decide) (by decide), r0 4 (by decide) (by decide), r0 5 (by decide) (by decide)]
      exact n2 i i0 i1
    · rw [e20] at j1
      rw [e21, (hr0 i i0 (by omega)).1 3 (by decide) (by decide), (hr0 j (by omega) j1).1 3 (by decide) (by decide)]
      exact n3 i j i0 i1 j1
  refine ⟨pl, nm', N, g, ⟨htp, stF_frame hC.2.1 (fun b b0 b1 => hf b (by omega) (by omega) (nscr _ (by omega)) (by omega) (by omega)), hC.2.2.1, hedA, hci, hnum, by rw [e118]; exact hC.2.2.2.2.2.2⟩, ⟨?_, hedA, ?_, fun i i0 i1 => ?_⟩, ?_, hTT, ?_⟩
  · exact tieC_frame (tieC_same hT.1 (fun b b0 b1 b2 => hf b (by omega) (by omega) (by unfold scr; omega) (by omega) (by omega))) (fun x x0 x1 => hF x (by omega))
  · rw [hF 5 (by omega), e20]; exact hT.2.2.1
  · rw [e20] at i1
    have h1 := hT.2.2.2 i i0 i1
    have h12 := (TE_e hT i0 i1).2.2.2.2.2
    have r0 := (hr0 i i0 i1).1
    have r1 := hr1 i i0 i1
    rw [e21]
    refine ⟨?_, ?_, fun j j0 j1 => ?_⟩
    · have a0 : rE (M2 128) i 0 = rE (M 128) i 0 := hF _ (by omega)
      have a1 : rE (M2 128) i 1 = rE (M 128) i 1 := hF _ (by omega)
      have a2 : rE (M2 128) i 2 = rE (M 128) i 2 := hF _ (by omega)
      have a17 : rE (M2 128) i 17 = rE (M 128) i 17 := hF _ (by omega)
      rw [a0, a1, a2, a17, r0 3 (by decide) (by decide), r0 4 (by decide) (by decide), r0 5 (by decide) (by decide), r0 2 (by decide) (by decide)]
      refine ⟨h1.1.1, h1.1.2.1, h1.1.2.2.1, ?_, h1.1.2.2.2.2⟩
      by_cases q : i = s
      · subst q; exact hF3
      · have a3 : rE (M2 128) i 3 = rE (M 128) i 3 := hF _ (by omega)
        rw [a3, (hr0 i i0 i1).2 q]; exact h1.1.2.2.2.1
    · by_cases q : i = s
      · subst q; exact hFn
      · rw [hnm i q]
        refine ⟨?_, pok_congr (fun x x0 _ => hF _ (by omega)) h1.2.1.2 ⟨h1.2.1.2.1, h1.2.1.2.2.2.2.1⟩⟩
        rw [fp_congr (fun x x0 _ => hF _ (by omega)) h1.2.1.2.2.2.1]; exact h1.2.1.1
    · rw [r0 2 (by decide) (by decide)] at j1
      have h2 := h1.2.2 j j0 j1
      have hG : ∀ x, 1294 + 186 * i + 18 ≤ x → x < 1294 + 186 * i + 186 → M2 128 x = M 128 x := fun x x0 x1 => hF x (by rcases (by omega : i = s ∨ i + 1 ≤ s ∨ s + 1 ≤ i) with z | z | z <;> omega)
      refine ⟨?_, pok_congr (fun x x0 _ => hG _ (by omega) (by omega)) h2.2.1 ⟨h2.2.1.1, h2.2.1.2.2.2.1⟩, ?_⟩
      · rw [← h2.1]; exact fp_congr (fun x x0 _ => hG _ (by omega) (by omega)) h2.2.1.2.2.1
      · have a : rcf (M2 128) i j = rcf (M 128) i j := hG _ (by omega) (by omega)
        rw [a, r1.2]; exact h2.2.2
  · exact sR_frame hS (hF 0 (by omega)) (fun x x0 x1 => hF x (by omega))
  · unfold rsT at hrs ⊢
    rw [hF 1 (by omega), hF 2 (by omega), hF 3 (by omega), hF 4 (by omega), e4, e20, e1]
    exact hrs
section PS
variable {M : px_mem}
theorem op_seal (a b : Int) (hb : b = 0 ∨ b = 1) : opO 128 276 [(0, a), (0, b)] := by
  intro M hR
  have hR2 := hR
  obtain ⟨pl, nm, N, g, hR3⟩ := hR
  have hR4 := hR3
  obtain ⟨hC, hT, hS, hP, hs⟩ := hR3
  have hed := hC.2.2.2.1
  refine sp_seal hed hb (fun z => ⟨_, rfl, ?_⟩) (fun z1 z2 => ⟨_, rfl, ?_⟩) (fun z1 z2 z3 => ⟨_, rfl, ?_⟩)
  · exact sp_rseal hT hb (fun _ => ⟨rfl, hR2⟩) (fun q1 => by exfalso; omega) (fun q1 => by exfalso; omega)
  · exact sp_rseal hT hb (fun _ => by exfalso; omega) (fun q1 q2 => ⟨rfl, hR2⟩) (fun q1 q2 q3 => absurd z2 q3)
  · have hn := hed.1.2.2
    have hsb := (ed_ne hed.1 z1 (show slot M a < 10 by omega) z1 (show slot M a < 10 by omega)).2.2.2
    have f128 : px_up M (M 21 (slot M a)) 6 b 128 = M 128 := row_ne (by omega)
    refine sp_rseal (Mc := M) (pl := pl) (nm := nm) (by rw [f128]; exact hT) hb (fun _ => by exfalso; omega) (fun q1 q2 => absurd q2 z3) (fun q1 q2 q3 => ⟨rfl, ?_⟩)
    have r : ∀ x, x ≠ 128 → x ≠ M 21 (slot M a) → px_up (px_up M (M 21 (slot M a)) 6 b) 128 (1294 + 186 * slot M a + 3) b x = M x := fun x x0 x1 => by rw [row_ne x0, row_ne x1]
    have re : px_up (px_up M (M 21 (slot M a)) 6 b) 128 (1294 + 186 * slot M a + 3) b (M 21 (slot M a)) = px_up M (M 21 (slot M a)) 6 b (M 21 (slot M a)) := row_ne (by omega)
    have hi := hed.2 _ z1 z2
    have hnn := (hT.2.2.2 _ z1 z2).2.1
    have rF : ∀ x, x ≠ 1294 + 186 * slot M a + 3 → px_up (px_up M (M 21 (slot M a)) 6 b) 128 (1294 + 186 * slot M a + 3) b 128 x = M 128 x := fun x x0 => by rw [px_up_at, if_neg (fun z => x0 z.2), f128]
    refine RR_ed (nm' := nm) hR4 ⟨z1, z2⟩ (fun x x0 x1 _ _ x2 => r x (by omega) x2) (fun j j6 _ => by rw [re, px_up_at, if_neg (fun z => j6 z.2)]) (by rw [re, px_up_at, if_pos ⟨rfl, rfl⟩]; exact hb) ⟨hi.2.2.2.2.2.1, hi.2.2.2.2.2.2.1, by rw [re, px_up_at, if_neg (fun z => absurd z.2 (by decide))]; exact hi.2.2.2.2.2.2.2⟩ (fun _ _ => rfl) ?_ ?_ (fun x x0 => rF x (by omega)) ?_ ⟨?_, ?_⟩
    · have ht := hC.1
      unfold tpI at ht ⊢
      rw [r 2 (by decide) (by omega), r 3 (by decide) (by omega)]; exact ht
    · unfold tpT at hP ⊢
      rw [r 127 (by decide) (by omega), r 130 (by decide) (by omega), r 2 (by decide) (by omega), r 3 (by decide) (by omega)]; exact hP
    · rw [re, px_up_at, if_pos ⟨rfl, rfl⟩, px_up_at, if_pos ⟨rfl, rfl⟩]
    · rw [fp_congr (fun x x0 _ => rF _ (by omega)) hnn.2.2.2.1]; exact hnn.1
    · exact pok_congr (fun x x0 _ => rF _ (by omega)) hnn.2 ⟨hnn.2.1, hnn.2.2.2.2.1⟩
theorem ltr_nm {l : List Int} (h : l ≠ []) : ltr l ↔ (isP l ∧ ∀ b ∈ l, b ≠ 47) := by
  constructor
  · intro z
    refine ⟨ltr_pth l 1 (fun x hx => ?_) (fun y => absurd y h), fun b hb => by have := z b hb; omega⟩
    have := z x hx
    have s0 := sg_0 x
    have s1 := sg_1 x
    omega
  · rintro ⟨z1, z2⟩ b hb
    have := isP_okl z1 b hb
    have := z2 b hb
    have s0 := sg_0 b
    omega
theorem op_name (a q : Int) : opO 129 279 [(0, a), (0, q)] := by
  intro M hR
  have hR2 := hR
  obtain ⟨pl, nm, N, g, hR3⟩ := hR
  have hR4 := hR3
  obtain ⟨hC, hT, hS, hP, hs⟩ := hR3
  have hed := hC.2.2.2.1
  have htb := tp_b hP hC.1
  have e3 := hP.1
  have hw : (0 ≤ q ∧ q ≤ 12 ∧ q ≤ M 127 3) ↔ (0 ≤ q ∧ q ≤ 12 ∧ q ≤ M 2 1) := by rw [e3]
  have f127 : px_up M 2 1 0 127 = M 127 := row_ne (by decide)
  have f128 : px_up M 2 1 0 128 = M 128 := row_ne (by decide)
  have f130 : px_up M 2 1 0 130 = M 130 := row_ne (by decide)
  have et : (0 ≤ q ∧ q ≤ 12 ∧ q ≤ M 2 1) → tw (M 130) 0 q = lst (M 3) q := fun z => tp_w0 hP z.2.2
  have eb : (0 ≤ q ∧ q ≤ 12 ∧ q ≤ M 2 1) → bearer M (nmV (lst (M 3) q)) = brN M nm (lst (M 3) q) := fun z => br_tie hed (by rw [lst_lenN]; omega)
  have hl : (0 ≤ q ∧ q ≤ 12 ∧ q ≤ M 2 1) → (ltr (lst (M 3) q) ↔ ¬ (0 < q ∧ nmV (lst (M 3) q) = 0)) := fun z => by
    by_cases q0 : q = 0
    · rw [q0]
      exact ⟨fun _ y => by omega, fun _ b hb => absurd hb List.not_mem_nil⟩
    · have hne : lst (M 3) q ≠ [] := fun y => by
        have := lst_len (f := M 3) (n := q) z.1
        rw [y] at this; simp at this; omega
      rw [ltr_nm hne]
      constructor
      · intro y w
        rw [nmV_t y] at w
        exact hne ((enc_0 (isP_okl y.1) (by rw [lst_lenN]; omega)).mp w.2)
      · intro y
        exact Classical.byContradiction (fun w => y ⟨by omega, nmV_f w⟩)
  refine sp_name hC.1 hed (fun z => ⟨_, rfl, ?_⟩) (fun z1 z2 => ⟨_, rfl, ?_⟩) (fun z1 z2 z3 z4 => ⟨_, rfl, ?_⟩) (fun z1 z2 z3 z4 z5 => ⟨_, rfl, ?_⟩) (fun z1 z2 z6 z3 z4 => ⟨_, rfl, ?_⟩)
  · exact sp_rname htb hT (fun _ => ⟨rfl, hR2⟩) (fun M2 q1 => absurd (hw.mp q1) z) (fun M2 q1 => absurd (hw.mp q1) z) (fun M2 q1 => absurd (hw.mp q1) z) (fun M2 q1 => absurd (hw.mp q1) z)
  · exact sp_rname (Mc := M) (pl := pl) (nm := nm) (by rw [f127]; exact htb) (by rw [f128]; exact hT) (fun y => by exfalso; rw [f127] at y; omega) (fun M2 q1 q2 q3 q4 => ⟨rfl, RR_t0 hR4 q3 q4⟩) (fun M2 q1 q2 => by exfalso; omega) (fun M2 q1 q2 => by exfalso; omega) (fun M2 q1 q2 => by exfalso; omega)
  · refine sp_rname (Mc := M) (pl := pl) (nm := nm) (by rw [f127]; exact htb) (by rw [f128]; exact hT) (fun y => by exfalso; rw [f127] at y; omega) (fun M2 q1 q2 => by exfalso; omega) (fun M2 q1 q2 q3 q4 q5 => ⟨rfl, RR_t0 hR4 q4 q5⟩) (fun M2 q1 q2 q3 => ?_) (fun M2 q1 q2 q9 q3 => ?_) <;>
      (rw [f130, et z1] at q3; exact absurd ⟨z3, z4⟩ ((hl z1).mp q3))
  · refine sp_rname (Mc := M) (pl := pl) (nm := nm) (by rw [f127]; exact htb) (by rw [f128]; exact hT) (fun y => by exfalso; rw [f127] at y; omega) (fun M2 q1 q2 => by exfalso; omega) (fun M2 q1 q2 q3 q4 q5 => ?_) (fun M2 q1 q2 q3 q4 q5 q6 q7 => ⟨rfl, RR_t0 hR4 q6 q7⟩) (fun M2 q1 q2 q9 q3 q4 => ?_)
    · rw [f130, et z1] at q3; exact absurd ((hl z1).mpr z3) q3
    · rw [f130, et z1, ← eb z1] at q4; exfalso; omega
  · have hn := hed.1.2.2
    have hsb := (ed_ne hed.1 z2 (show slot M a < 10 by omega) z2 (show slot M a < 10 by omega)).2.2.2
    have g127 : px_up (px_up M 2 1 0) (M 21 (slot M a)) 7 (nmV (lst (M 3) q)) 127 = M 127 := by rw [row_ne (by omega), f127]
    have g128 : px_up (px_up M 2 1 0) (M 21 (slot M a)) 7 (nmV (lst (M 3) q)) 128 = M 128 := by rw [row_ne (by omega), f128]
    have g130 : px_up (px_up M 2 1 0) (M 21 (slot M a)) 7 (nmV (lst (M 3) q)) 130 = M 130 := by rw [row_ne (by omega), f130]
    refine sp_rname (Mc := M) (pl := pl) (nm := nm) (by rw [g127]; exact htb) (by rw [g128]; exact hT) (fun y => by exfalso; rw [g127] at y; omega) (fun M2 q1 q2 => by exfalso; omega) (fun M2 q1 q2 q3 q4 q5 => ?_) (fun M2 q1 q2 q3 q4 q5 q6 q7 => ?_) (fun M2 q1 q2 q9 q3 q4 q5 q6 q7 q8 => ⟨rfl, ?_⟩)
    · rw [g130, et z1] at q3; exact absurd ((hl z1).mpr z3) q3
    · rw [g130, et z1, ← eb z1] at q4 q5; exfalso; omega
    · rw [g130, et z1] at q5
      have o := q8.1
      have r : ∀ x, x < 127 → x ≠ 2 → x ≠ M 21 (slot M a) → M2 x = M x := fun x x0 x1 x2 => by rw [o x x0, row_ne x2, row_ne x1]
      have re : M2 (M 21 (slot M a)) = px_up M (M 21 (slot M a)) 7 (nmV (lst (M 3) q)) (M 21 (slot M a)) := by
        rw [o _ (by omega)]
        funext j
        rw [px_up_at, px_up_at]
        by_cases y : j = 7
        · rw [if_pos ⟨rfl, y⟩, px_up_at, if_pos ⟨rfl, y⟩]
        · rw [if_neg (fun z => y z.2), if_neg (fun z => by omega), px_up_at, if_neg (fun z => y z.2)]
      have hi := hed.2 _ z2 z6
      have r2 : M2 2 1 = 0 := by rw [o 2 (by decide), row_ne (by omega), px_up_at, if_pos ⟨rfl, rfl⟩]
      have hokl : okp (lst (M 3) q) ∧ (∀ b ∈ lst (M 3) q, b ≠ 47) ∧ nmV (lst (M 3) q) = enc (lst (M 3) q) := by
        have hlt := (hl z1).mpr z3
        have hlen : (lst (M 3) q).length ≤ 12 := by rw [lst_lenN]; omega
        by_cases q0 : lst (M 3) q = []
        · rw [q0]
          have e0 : enc [] = 0 := (enc_0 okl_nil (by decide)).mpr rfl
          refine ⟨⟨okl_nil, by decide⟩, fun b hb => absurd hb List.not_mem_nil, ?_⟩
          rw [e0]
          exact nmV_f (fun y => isP_ne y.1 rfl)
        · have h1 := (ltr_nm q0).mp hlt
          exact ⟨⟨isP_okl h1.1, hlen⟩, h1.2, nmV_t h1⟩
      refine RR_ed (nm' := fun i => if i = slot M a then lst (M 3) q else nm i) hR4 ⟨z2, z6⟩ (fun x x0 x1 _ x3 x2 => r x x1 x3 x2) (fun j _ j7 => by rw [re, px_up_at, if_neg (fun z => j7 z.2)]) (by rw [re, px_up_at, if_neg (fun z => absurd z.2 (by decide))]; exact hi.2.2.2.2.1) ?_ (fun i i0 => if_neg i0) ?_ ⟨by rw [q8.2.2, r2], fun j j0 j1 => by omega⟩ (fun x x0 => by rw [q7 x (by omega), g128]) ?_ ?_
      · rw [if_pos rfl, re, px_up_at, if_pos ⟨rfl, rfl⟩]; exact hokl
      · have ht := hC.1
        unfold tpI at ht ⊢
        rw [r2, r 3 (by decide) (by decide) (by omega)]
        exact ⟨Int.le_refl 0, by decide, ht.2.2⟩
      · rw [q7 _ (by omega), g128, re, px_up_at, if_neg (fun z => absurd z.2 (by decide))]
        exact (TE_e hT z2 z6).2.2.2.1
      · rw [if_pos rfl]; exact ⟨q5, q6⟩
end PS
