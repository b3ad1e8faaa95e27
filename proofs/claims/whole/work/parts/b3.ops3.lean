/-! both sides: feed, write, remove -/
def eqD (M' M : px_mem) : Prop := ∀ b, 20 ≤ b → b < 127 → ¬ scr b → M' b = M b
theorem eqD_ed {M M' : px_mem} (hf : eqD M' M) (hw : edW M) : M' 20 = M 20 ∧ M' 21 = M 21 ∧ M' 62 = M 62 ∧ ∀ i, 0 ≤ i → i < 10 → M' (M 21 i) = M (M 21 i) ∧ M' (M 21 i + 1) = M (M 21 i + 1) ∧ M' (M 21 i + 2) = M (M 21 i + 2) := by
  refine ⟨hf 20 (by decide) (by decide) (by unfold scr; decide), hf 21 (by decide) (by decide) (by unfold scr; decide), hf 62 (by decide) (by decide) (by unfold scr; decide), fun i i0 i1 => ?_⟩
  have h := hw.1 i i0 i1
  have hm := isE_m h.1
  exact ⟨hf _ (by omega) (by omega) (by unfold scr; omega), hf _ (by omega) (by omega) (by unfold scr; omega), hf _ (by omega) (by omega) (by unfold scr; omega)⟩
theorem edA_eqD {M M' : px_mem} {pl : Int → Int → List Int} {nm : Int → List Int} (hf : eqD M' M) (h : edA M pl nm) : edA M' pl nm := by
  obtain ⟨e20, e21, e62, ee⟩ := eqD_ed hf h.1
  refine ⟨?_, fun i i0 i1 => ?_⟩
  · have hw := h.1
    unfold edW at hw ⊢
    rw [e20, e21]; exact hw
  · rw [e20] at i1
    have hi := h.2 i i0 i1
    have := h.1.2.2
    have e := ee i i0 (by omega)
    rw [e21]
    unfold edI lsC sE at hi ⊢
    rw [e.1, e.2.1, e.2.2, e62]
    exact hi
theorem ci_eqD {M M' : px_mem} (hf : eqD M' M) (h : ci M) : ci M' := ci_congr (fun b b0 b1 b2 => hf b (by omega) (by omega) (by unfold scr; omega)) h
theorem numI_eqD {M M' : px_mem} (hf : eqD M' M) (hw : edW M) (h : numI M) (n4 : M' 4 4 < M 20 2 ∧ M' 4 5 < M 20 2) : numI M' := by
  obtain ⟨e20, e21, _, ee⟩ := eqD_ed hf hw
  have hb := hw.2.2
  obtain ⟨h1, h2, h3, h4, h5⟩ := h
  refine ⟨by rw [e20]; exact h1, fun i i0 i1 => ?_, fun i j i0 i1 j1 => ?_, by rw [e20]; exact n4.1, by rw [e20]; exact n4.2⟩
  · rw [e20] at i1
    rw [e20, e21, (ee i i0 (by omega)).1]
    exact h2 i i0 i1
  · rw [e20] at j1
    rw [e21, (ee i i0 (by omega)).1, (ee j (by omega) (by omega)).1]
    exact h3 i j i0 i1 j1
theorem TE_eqD {M M' : px_mem} {pl : Int → Int → List Int} {nm : Int → List Int} {F : Int → Int} (hf : eqD M' M) (h : TE M pl nm F) : TE M' pl nm F := by
  obtain ⟨h1, h2, h3⟩ := h
  obtain ⟨e20, e21, _, ee⟩ := eqD_ed hf h2.1
  have hb := h2.1.2.2
  refine ⟨tieC_same h1 (fun b b0 b1 b2 => hf b (by omega) (by omega) (by unfold scr; omega)), edA_eqD hf h2, by rw [e20]; exact h3.1, fun i i0 i1 => ?_⟩
  rw [e20] at i1
  have e := ee i i0 (by omega)
  rw [e21, e.1, e.2.2]
  exact h3.2 i i0 i1
/-- stage and tape are new, all else is as it was -/
theorem RR_build {M M2 : px_mem} {pl : Int → Int → List Int} {nm : Int → List Int} {N N' : Int} {g g' : Int → fe} (h : RRg M pl nm N g) (hD : eqD M2 M) (hst : stC M2 N' g') (hsg : sgI N' g') (htp : tpI M2) (hTT : tpT M2) (hsR : sR (M2 128) N' g') (hF : ∀ x, 654 ≤ x → M2 128 x = M 128 x) (h5 : M2 128 5 = M 128 5) (n4 : M2 4 4 < M 20 2 ∧ M2 4 5 < M 20 2) (hrs : rsT M2) : RR M2 := by
  obtain ⟨hC, hT, hS, hP, hs⟩ := h
  obtain ⟨h1, h2, h3, h4, h5', h6, h7⟩ := hC
  have e118 : M2 118 = M 118 := hD 118 (by decide) (by decide) (by unfold scr; decide)
  exact ⟨pl, nm, N', g', ⟨htp, hst, hsg, edA_eqD hD h4, ci_eqD hD h5', numI_eqD hD h4.1 h6 n4, by rw [e118]; exact h7⟩, TE_frame (TE_eqD hD hT) h5 hF, hsR, hTT, hrs⟩
theorem RR_stg {M M1 M2 : px_mem} {pl : Int → Int → List Int} {nm : Int → List Int} {N N' : Int} {g g' : Int → fe} (h : RRg M pl nm N g) (hW : frW M1 M) (hst : stC M1 N' g') (hsg : sgI N' g') (hsR : sR (M2 128) N' g') (hf : frf (M2 128) (M1 128)) (ho : out0 M2 M1) : RR M2 := by
  have hC := h.1
  have hs := h.2.2.2.2
  have hn := hC.2.2.2.2.2.1
  obtain ⟨w1, w2, w3, w4⟩ := hW
  have o := ho.1
  have e128 : M1 128 = M 128 := w4 128 (by decide) (by decide) (by decide) (by decide) (by decide) (by decide)
  have e3 : M2 3 = M 3 := by rw [o 3 (by decide), w4 3 (by decide) (by decide) (by decide) (by decide) (by decide) (by decide)]
  have e20 : M2 20 = M 20 := by rw [o 20 (by decide), w4 20 (by decide) (by decide) (by decide) (by decide) (by decide) (by decide)]
  have e1 : M2 1 = M 1 := by rw [o 1 (by decide), w4 1 (by decide) (by decide) (by decide) (by decide) (by decide) (by decide)]
  have e21 : M2 2 1 = 0 := by rw [o 2 (by decide)]; exact w3
  have e44 : M2 4 4 = M 4 4 := by rw [o 4 (by decide)]; exact w1 4 (by decide)
  have e45 : M2 4 5 = M 4 5 := by rw [o 4 (by decide)]; exact w1 5 (by decide)
  refine RR_build h (fun b b0 b1 _ => by rw [o b (by omega), w4 b (by omega) (by omega) (by omega) (by omega) (by omega) (by omega)]) (stF_frame hst (fun b b0 b1 => o b (by omega))) hsg ?_ ⟨by rw [ho.2.2, e21], fun j j0 j1 => by omega⟩ hsR (fun x x0 => by rw [hf x (by omega) (by omega), e128]) (by rw [hf 5 (by decide) (by decide), e128]) ⟨by rw [e44]; exact hn.2.2.2.1, by rw [e45]; exact hn.2.2.2.2⟩ ?_
  · have ht := hC.1
    unfold tpI at ht ⊢
    rw [e3, e21]
    exact ⟨Int.le_refl 0, by decide, ht.2.2⟩
  · unfold rsT at hs ⊢
    rw [e44, e45, e20, e1, hf 1 (by decide) (by decide), hf 2 (by decide) (by decide), hf 3 (by decide) (by decide), hf 4 (by decide) (by decide), e128]
    exact hs
theorem frW_t0 (M : px_mem) : frW (px_up M 2 1 0) M := ⟨fun j _ => by rw [row_ne (by decide)], fun j j0 => by rw [px_up_at, if_neg (fun z => j0 z.2)], by rw [px_up_at, if_pos ⟨rfl, rfl⟩], fun b b0 _ _ _ _ _ => row_ne b0⟩
/-- refused: only the tape is emptied -/
theorem RR_t0 {M M2 : px_mem} {pl : Int → Int → List Int} {nm : Int → List Int} {N : Int} {g : Int → fe} (h : RRg M pl nm N g) (h8 : M2 128 = px_up M 2 1 0 128) (ho : out0 M2 (px_up M 2 1 0)) : RR M2 := by
  have e : M2 128 = M 128 := by rw [h8, row_ne (by decide)]
  refine RR_stg h (frW_t0 M) (stF_frame h.1.2.1 (fun b b0 b1 => row_ne (by omega))) h.1.2.2.1 (by rw [e]; exact h.2.2.1) (fun x _ _ => by rw [h8]) ho
theorem sgI_of {N : Int} {g : Int → fe} (h : srt N g) (hm : ∀ x y, isM N g x → isM N g y → mt x.1 y.1 → x.1 = y.1) (hp : ∀ x, isM N g x → isP x.1) : sgI N g :=
  ⟨h, fun i j i0 i1 j0 j1 z => srt_ne h i0 i1 j0 j1 (by rw [hm _ _ ⟨i, i0, i1, rfl⟩ ⟨j, j0, j1, rfl⟩ z]), fun i i0 i1 => hp _ ⟨i, i0, i1, rfl⟩⟩
theorem sgI_m {N : Int} {g : Int → fe} (h : sgI N g) {x y : fe} (hx : isM N g x) (hy : isM N g y) (hm : mt x.1 y.1) : x = y := by
  obtain ⟨i, i0, i1, rfl⟩ := hx
  obtain ⟨j, j0, j1, rfl⟩ := hy
  rw [h.2.1 i j i0 i1 j0 j1 hm]
theorem sgI_p {N : Int} {g : Int → fe} (h : sgI N g) {x : fe} (hx : isM N g x) : isP x.1 := by
  obtain ⟨i, i0, i1, rfl⟩ := hx
  exact h.2.2 i i0 i1
theorem mt_sym {p q : List Int} (h : mt p q) : mt q p := h.elim Or.inr Or.inl
/-- the stages of both sides, with the same files -/
theorem st_same {M1 : px_mem} {F : Int → Int} {n m : Int} {g h : Int → fe} (hst : stC M1 n g) (hg : srt n g) (hs : sR F m h) (hh : srt m h) (hm : ∀ x, isM n g x ↔ isM m h x) : n = m ∧ sR F n g := by
  obtain ⟨e1, e2⟩ := srt_uniq hst.2.1 hs.2.1 hg hh hm
  subst e1
  exact ⟨rfl, sR_congr hs e2⟩
section PS
variable {M : px_mem}
theorem op_feed (a b c d e : Int) (ha : px_in32 a ∧ px_in32 b ∧ px_in32 c ∧ px_in32 d ∧ px_in32 e) : opO 113 178 [(0, a), (0, b), (0, c), (0, d), (0, e)] := by
  intro M hR
  have hR2 := hR
  obtain ⟨pl, nm, N, g, hR3⟩ := hR
  have hR4 := hR3
  obtain ⟨hC, hT, hS, hP, hs⟩ := hR3
  have htb := tp_b hP hC.1
  have e3 := hP.1
  refine sp_feed hC.1 (fun z => ⟨_, rfl, ?_⟩) (fun M1 z1 z2 z3 z4 => ⟨_, rfl, ?_⟩)
  · exact sp_rfeed htb (fun _ => ⟨rfl, hR2⟩) (fun M2 q1 q2 q3 q4 q5 => by exfalso; omega)
  · have f127 : M1 127 = M 127 := z4 127 (by decide) (by decide)
    have f130 : M1 130 = M 130 := z4 130 (by decide) (by decide)
    refine sp_rfeed (by rw [f127]; exact htb) (fun q => by exfalso; rw [f127] at q; omega) (fun M2 q1 q2 q3 q4 q5 => ⟨by rw [f127, e3], ?_⟩)
    rw [f127] at q1 q2 q3
    have o : ∀ b, b < 127 → M2 b = M1 b := fun b b0 => q5 b (by omega) (by omega)
    have f128 : M2 128 = M 128 := by rw [q5 128 (by decide) (by decide), z4 128 (by decide) (by decide)]
    have hn := hC.2.2.2.2.2.1
    have e4 : M2 4 = M 4 := by rw [o 4 (by decide), z4 4 (by decide) (by decide)]
    have e1 : M2 1 = M 1 := by rw [o 1 (by decide), z4 1 (by decide) (by decide)]
    have e20 : M2 20 = M 20 := by rw [o 20 (by decide), z4 20 (by decide) (by decide)]
    have e2 : M2 2 1 = M 2 1 + 20 := by rw [o 2 (by decide)]; exact z2
    have ht := hC.1
    refine RR_build hR4 (fun b b0 b1 _ => by rw [o b (by omega), z4 b (by omega) (by omega)]) (stF_frame hC.2.1 (fun b b0 b1 => by rw [o b (by omega), z4 b (by omega) (by omega)])) hC.2.2.1 ?_ ?_ (by rw [f128]; exact hS) (fun x _ => by rw [f128]) (by rw [f128]) ⟨by rw [e4]; exact hn.2.2.2.1, by rw [e4]; exact hn.2.2.2.2⟩ ?_
    · refine ⟨by have := ht.1; omega, by omega, fun k k0 k1 => ?_⟩
      rw [o 3 (by decide), z3 k]
      by_cases w : M 2 1 ≤ k ∧ k < M 2 1 + 20
      · rw [if_pos w]; unfold byt5; exact byt_rng _ _
      · rw [if_neg w]; exact ht.2.2 k k0 k1
    · refine ⟨by omega, fun j j0 j1 => ?_⟩
      rw [q3 j, o 3 (by decide), z3 j, e3, f130]
      by_cases w : M 2 1 ≤ j ∧ j < M 2 1 + 20
      · rw [if_pos w, if_pos w]
        unfold tb5 byt5
        refine (tb_byt ?_ (by omega) (by omega)).2
        split
        · exact ha.1
        · split
          · exact ha.2.1
          · split
            · exact ha.2.2.1
            · split
              · exact ha.2.2.2.1
              · exact ha.2.2.2.2
      · rw [if_neg w, if_neg w]
        exact hP.2 j j0 (by omega)
    · unfold rsT at hs ⊢
      rw [e4, e1, e20, f128]; exact hs
theorem op_write (p n : Int) : opO 114 223 [(0, p), (0, n)] := by
  intro M hR
  have hR2 := hR
  obtain ⟨pl, nm, N, g, hR3⟩ := hR
  have hR4 := hR3
  obtain ⟨hC, hT, hS, hP, hs⟩ := hR3
  have htb := tp_b hP hC.1
  have e3 := hP.1
  have hw : wrq M p n ↔ (1 ≤ p ∧ p ≤ 12 ∧ 0 ≤ n ∧ n ≤ 40 ∧ p + n ≤ M 2 1) := by unfold wrq; rw [e3]
  have f127 : px_up M 2 1 0 127 = M 127 := row_ne (by decide)
  have f128 : px_up M 2 1 0 128 = M 128 := row_ne (by decide)
  have f130 : px_up M 2 1 0 130 = M 130 := row_ne (by decide)
  have hw0 : wrq (px_up M 2 1 0) p n ↔ wrq M p n := by unfold wrq; rw [f127]
  have ha := hC.2.2.1
  refine sp_write hC.1 hC.2.1 ha (fun z => ⟨_, rfl, ?_⟩) (fun z1 z2 => ⟨_, rfl, ?_⟩) (fun z1 z2 z3 z4 => ⟨_, rfl, ?_⟩) (fun z1 z2 z3 z4 z5 => ⟨_, rfl, ?_⟩) (fun M1 N1 g1 z1 z2 z3 z4 z5 z6 z7 => ⟨_, rfl, ?_⟩)
  · exact sp_rwrite htb hS ha (fun _ => ⟨rfl, hR2⟩) (fun M2 q1 => absurd (hw.mp q1) z) (fun M2 q1 => absurd (hw.mp q1) z) (fun M2 q1 => absurd (hw.mp q1) z) (fun M2 N2 g2 q1 => absurd (hw.mp q1) z)
  · have et := tp_w0 (n := p) hP (by omega)
    refine sp_rwrite (by rw [f127]; exact htb) (by rw [f128]; exact hS) ha (fun q => absurd (hw0.mpr (hw.mpr z1)) q) (fun M2 q1 q2 q3 q4 => ⟨rfl, RR_t0 hR4 q3 q4⟩) (fun M2 q1 q2 => ?_) (fun M2 q1 q2 => ?_) (fun M2 N2 g2 q1 q2 => ?_) <;>
      (rw [f130, et] at q2; exact absurd q2 z2)
  · have et := tp_w0 (n := p) hP (by omega)
    refine sp_rwrite (by rw [f127]; exact htb) (by rw [f128]; exact hS) ha (fun q => absurd (hw0.mpr (hw.mpr z1)) q) (fun M2 q1 q2 q3 q4 => ?_) (fun M2 q1 q2 q3 q4 q5 q6 => ⟨rfl, RR_t0 hR4 q5 q6⟩) (fun M2 q1 q2 q3 q4 => ?_) (fun M2 N2 g2 q1 q2 q3 => ?_)
    · rw [f130, et] at q2; exact absurd z2 q2
    · rw [f130, et] at q4; exact absurd z4 q4
    · rw [f130, et] at q3
      rcases q3 with ⟨i, i0, i1, i2⟩ | y
      · exact absurd i2 (z3 i i0 i1)
      · exact absurd z4 y.1
  · have et := tp_w0 (n := p) hP (by omega)
    refine sp_rwrite (by rw [f127]; exact htb) (by rw [f128]; exact hS) ha (fun q => absurd (hw0.mpr (hw.mpr z1)) q) (fun M2 q1 q2 q3 q4 => ?_) (fun M2 q1 q2 q3 q4 q5 q6 => ?_) (fun M2 q1 q2 q3 q4 q5 q6 q7 => ⟨rfl, RR_t0 hR4 q6 q7⟩) (fun M2 N2 g2 q1 q2 q3 => ?_)
    · rw [f130, et] at q2; exact absurd z2 q2
    · rw [f130, et] at q4; exact absurd q4 z4
    · rw [f130, et] at q3
      rcases q3 with ⟨i, i0, i1, i2⟩ | y
      · exact absurd i2 (z3 i i0 i1)
      · have := y.2; omega
  · have et := tp_w0 (n := p) hP (by omega)
    have et2 : tw (M 130) p n = lst (fun k => M 3 (p + k)) n := tp_w hP (by omega) (by omega)
    have g127 : M1 127 = M 127 := z7.2.2.2 127 (by decide) (by decide) (by decide) (by decide) (by decide) (by decide)
    have g128 : M1 128 = M 128 := z7.2.2.2 128 (by decide) (by decide) (by decide) (by decide) (by decide) (by decide)
    have g130 : M1 130 = M 130 := z7.2.2.2 130 (by decide) (by decide) (by decide) (by decide) (by decide) (by decide)
    have hw1 : wrq M1 p n := by unfold wrq; rw [g127, e3]; exact z1
    refine sp_rwrite (by rw [g127]; exact htb) (by rw [g128]; exact hS) ha (fun q => absurd hw1 q) (fun M2 q1 q2 q3 q4 => ?_) (fun M2 q1 q2 q3 q4 q5 q6 => ?_) (fun M2 q1 q2 q3 q4 q5 q6 q7 => ?_) (fun M2 N2 g2 q1 q2 q3 q4 q5 q6 q7 q8 => ?_)
    · rw [g130, et] at q2; exact absurd z2 q2
    · rw [g130, et] at q3 q4
      rcases z3 with ⟨i, i0, i1, i2⟩ | y
      · exact absurd i2 (q3 i i0 i1)
      · exact absurd q4 y.1
    · rw [g130, et] at q3 q4
      rcases z3 with ⟨i, i0, i1, i2⟩ | y
      · exact absurd i2 (q3 i i0 i1)
      · have := y.2; omega
    · rw [g130, et, et2] at q6
      obtain ⟨en, hsR⟩ := st_same z4 z5 q4 q5 (fun x => by rw [z6 x, q6 x])
      subst en
      refine ⟨rfl, RR_stg hR4 z7 z4 (sgI_of z5 (fun x y hx hy hm => ?_) (fun x hx => ?_)) hsR q7 q8⟩
      · rw [z6 x] at hx
        rw [z6 y] at hy
        have hno : ∀ w : fe, isM N g w → w.1 ≠ lst (M 3) p → mt w.1 (lst (M 3) p) → False := fun w hw9 hne hmm => by
          rcases z3 with ⟨i, i0, i1, i2⟩ | y
          · have := sgI_m ha hw9 ⟨i, i0, i1, rfl⟩ (by rw [i2]; exact hmm)
            rw [this] at hne; exact hne i2
          · obtain ⟨i, i0, i1, rfl⟩ := hw9
            exact y.1 ⟨i, i0, i1, wi_nil (isP_ne (ha.2.2 i i0 i1)), hmm⟩
        rcases hx with hx | hx
        · rcases hy with hy | hy
          · rw [hx, hy]
          · rw [hx] at hm
            exact (hno y hy.1 hy.2 (mt_sym hm)).elim
        · rcases hy with hy | hy
          · rw [hy] at hm
            exact (hno x hx.1 hx.2 hm).elim
          · rw [sgI_m ha hx.1 hy.1 hm]
      · rw [z6 x] at hx
        rcases hx with hx | hx
        · rw [hx]; exact z2
        · exact sgI_p ha hx.1
theorem op_remove (p : Int) : opO 115 226 [(0, p)] := by
  intro M hR
  have hR2 := hR
  obtain ⟨pl, nm, N, g, hR3⟩ := hR
  have hR4 := hR3
  obtain ⟨hC, hT, hS, hP, hs⟩ := hR3
  have htb := tp_b hP hC.1
  have e3 := hP.1
  have hw : wdq M p ↔ (1 ≤ p ∧ p ≤ 12 ∧ p ≤ M 2 1) := by unfold wdq; rw [e3]
  have f127 : px_up M 2 1 0 127 = M 127 := row_ne (by decide)
  have f128 : px_up M 2 1 0 128 = M 128 := row_ne (by decide)
  have f130 : px_up M 2 1 0 130 = M 130 := row_ne (by decide)
  have hw0 : wdq (px_up M 2 1 0) p ↔ wdq M p := by unfold wdq; rw [f127]
  have ha := hC.2.2.1
  refine sp_remove hC.1 hC.2.1 ha (fun z => ⟨_, rfl, ?_⟩) (fun z1 z2 => ⟨_, rfl, ?_⟩) (fun M1 N1 g1 z1 z2 z4 z5 z6 z8 z7 => ⟨_, rfl, ?_⟩)
  · exact sp_rremove htb hS ha (fun _ => ⟨rfl, hR2⟩) (fun M2 q1 => absurd (hw.mp q1) z) (fun M2 N2 g2 q1 => absurd (hw.mp q1) z)
  · have et := tp_w0 (n := p) hP (by omega)
    refine sp_rremove (by rw [f127]; exact htb) (by rw [f128]; exact hS) ha (fun q => absurd (hw0.mpr (hw.mpr z1)) q) (fun M2 q1 q2 q3 q4 => ⟨rfl, RR_t0 hR4 q3 q4⟩) (fun M2 N2 g2 q1 q2 => ?_)
    rw [f130, et] at q2; exact absurd q2 z2
  · have et := tp_w0 (n := p) hP (by omega)
    have g127 : M1 127 = M 127 := z7.2.2.2 127 (by decide) (by decide) (by decide) (by decide) (by decide) (by decide)
    have g128 : M1 128 = M 128 := z7.2.2.2 128 (by decide) (by decide) (by decide) (by decide) (by decide) (by decide)
    have g130 : M1 130 = M 130 := z7.2.2.2 130 (by decide) (by decide) (by decide) (by decide) (by decide) (by decide)
    have hw1 : wdq M1 p := by unfold wdq; rw [g127, e3]; exact z1
    refine sp_rremove (by rw [g127]; exact htb) (by rw [g128]; exact hS) ha (fun q => absurd hw1 q) (fun M2 q1 q2 q3 q4 => ?_) (fun M2 N2 g2 q1 q2 q4 q5 q6 q9 q7 q8 => ?_)
    · rw [g130, et] at q2; exact absurd z2 q2
    · rw [g130, et] at q6
      obtain ⟨en, hsR⟩ := st_same z4 z5 q4 q5 (fun x => by rw [z6 x, q6 x])
      subst en
      refine ⟨rfl, RR_stg hR4 z7 z4 (sgI_of z5 (fun x y hx hy hm => ?_) (fun x hx => ?_)) hsR q7 q8⟩
      · rw [z6 x] at hx
        rw [z6 y] at hy
        rw [sgI_m ha hx.1 hy.1 hm]
      · rw [z6 x] at hx
        exact sgI_p ha hx.1
end PS
