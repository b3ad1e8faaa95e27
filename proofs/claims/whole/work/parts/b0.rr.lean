/-! both sides at once -/
/-- rows that say nothing of the state -/
def scr (b : Int) : Prop := b = 55 ∨ (106 ≤ b ∧ b ≤ 117) ∨ (121 ≤ b ∧ b ≤ 126)
def CI (M : px_mem) (pl : Int → Int → List Int) (nm : Int → List Int) (N : Int) (g : Int → fe) : Prop := tpI M ∧ stC M N g ∧ sgI N g ∧ edA M pl nm ∧ ci M ∧ numI M ∧ M 118 2 = 0
def eqC (M' M : px_mem) : Prop := ∀ b, 1 ≤ b → b < 127 → ¬ scr b → M' b = M b
theorem eqC_ed {M M' : px_mem} (hf : eqC M' M) (hw : edW M) : M' 20 = M 20 ∧ M' 21 = M 21 ∧ ∀ i, 0 ≤ i → i < 10 → M' (M 21 i) = M (M 21 i) ∧ M' (M 21 i + 1) = M (M 21 i + 1) ∧ M' (M 21 i + 2) = M (M 21 i + 2) := by
  refine ⟨hf 20 (by decide) (by decide) (by unfold scr; decide), hf 21 (by decide) (by decide) (by unfold scr; decide), fun i i0 i1 => ?_⟩
  have h := hw.1 i i0 i1
  have hm := isE_m h.1
  exact ⟨hf _ (by omega) (by omega) (by unfold scr; omega), hf _ (by omega) (by omega) (by unfold scr; omega), hf _ (by omega) (by omega) (by unfold scr; omega)⟩
theorem edA_eq {M M' : px_mem} {pl : Int → Int → List Int} {nm : Int → List Int} (hf : eqC M' M) (h : edA M pl nm) : edA M' pl nm := by
  obtain ⟨e20, e21, ee⟩ := eqC_ed hf h.1
  have e62 : M' 62 = M 62 := hf 62 (by decide) (by decide) (by unfold scr; decide)
  refine ⟨?_, fun i i0 i1 => ?_⟩
  · have hw := h.1
    unfold edW at hw ⊢
    rw [e20, e21]; exact hw
  · rw [e20] at i1
    have hi := h.2 i i0 i1
    have := h.1.2.2
    have e := ee i i0 (by omega)
    rw [e21]
    unfold edI lsC sE at hi ⊢
    rw [e.1, e.2.1, e.2.2, e62]
    exact hi
theorem numI_eq {M M' : px_mem} (hf : eqC M' M) (hw : edW M) (h : numI M) : numI M' := by
  obtain ⟨e20, e21, ee⟩ := eqC_ed hf hw
  have e4 : M' 4 = M 4 := hf 4 (by decide) (by decide) (by unfold scr; decide)
  have hb := hw.2.2
  obtain ⟨h1, h2, h3, h4, h5⟩ := h
  refine ⟨by rw [e20]; exact h1, fun i i0 i1 => ?_, fun i j i0 i1 j1 => ?_, by rw [e4, e20]; exact h4, by rw [e4, e20]; exact h5⟩
  · rw [e20] at i1
    rw [e20, e21, (ee i i0 (by omega)).1]
    exact h2 i i0 i1
  · rw [e20] at j1
    rw [e21, (ee i i0 (by omega)).1, (ee j (by omega) (by omega)).1]
    exact h3 i j i0 i1 j1
theorem ci_eq {M M' : px_mem} (hf : eqC M' M) (h : ci M) : ci M' := ci_congr (fun b b0 b1 b2 => hf b (by omega) (by omega) (by unfold scr; omega)) h
theorem CI_eq {M M' : px_mem} {pl : Int → Int → List Int} {nm : Int → List Int} {N : Int} {g : Int → fe} (hf : eqC M' M) (h : CI M pl nm N g) : CI M' pl nm N g := by
  obtain ⟨h1, h2, h3, h4, h5, h6, h7⟩ := h
  have e2 : M' 2 = M 2 := hf 2 (by decide) (by decide) (by unfold scr; decide)
  have e3 : M' 3 = M 3 := hf 3 (by decide) (by decide) (by unfold scr; decide)
  have e118 : M' 118 = M 118 := hf 118 (by decide) (by decide) (by unfold scr; decide)
  refine ⟨?_, stF_frame h2 (fun b b0 b1 => hf b (by omega) (by omega) (by unfold scr; omega)), h3, edA_eq hf h4, ci_eq hf h5, numI_eq hf h4.1 h6, by rw [e118]; exact h7⟩
  unfold tpI at h1 ⊢
  rw [e2, e3]; exact h1
theorem TE_eq {M M' : px_mem} {pl : Int → Int → List Int} {nm : Int → List Int} {F : Int → Int} (hf : eqC M' M) (h : TE M pl nm F) : TE M' pl nm F := by
  obtain ⟨h1, h2, h3⟩ := h
  obtain ⟨e20, e21, ee⟩ := eqC_ed hf h2.1
  have hb := h2.1.2.2
  refine ⟨tieC_same h1 (fun b b0 b1 b2 => hf b (by omega) (by omega) (by unfold scr; omega)), edA_eq hf h2, by rw [e20]; exact h3.1, fun i i0 i1 => ?_⟩
  rw [e20] at i1
  have e := ee i i0 (by omega)
  rw [e21, e.1, e.2.2]
  exact h3.2 i i0 i1
/-- the tapes of both sides -/
def tpT (M : px_mem) : Prop := M 127 3 = M 2 1 ∧ ∀ j, 0 ≤ j → j < M 2 1 → M 130 j % 256 = M 3 j
/-- what the reference keeps besides -/
def rsT (M : px_mem) : Prop := M 128 1 = M 4 4 ∧ M 128 2 = M 4 5 ∧ M 128 3 = M 20 2 ∧ M 128 4 = M 1 10
/-- both sides hold the same -/
def RRg (M : px_mem) (pl : Int → Int → List Int) (nm : Int → List Int) (N : Int) (g : Int → fe) : Prop := CI M pl nm N g ∧ TE M pl nm (M 128) ∧ sR (M 128) N g ∧ tpT M ∧ rsT M
def RR (M : px_mem) : Prop := ∃ pl nm N g, RRg M pl nm N g
theorem RRg_eq {M M' : px_mem} {pl : Int → Int → List Int} {nm : Int → List Int} {N : Int} {g : Int → fe} (hf : eqC M' M) (h8 : M' 128 = M 128) (h130 : M' 130 = M 130) (h3 : M' 127 3 = M 127 3) (h : RRg M pl nm N g) : RRg M' pl nm N g := by
  obtain ⟨a, b, c, d, e⟩ := h
  have e1 : M' 1 = M 1 := hf 1 (by decide) (by decide) (by unfold scr; decide)
  have e2 : M' 2 = M 2 := hf 2 (by decide) (by decide) (by unfold scr; decide)
  have e3 : M' 3 = M 3 := hf 3 (by decide) (by decide) (by unfold scr; decide)
  have e4 : M' 4 = M 4 := hf 4 (by decide) (by decide) (by unfold scr; decide)
  have e20 : M' 20 = M 20 := hf 20 (by decide) (by decide) (by unfold scr; decide)
  refine ⟨CI_eq hf a, by rw [h8]; exact TE_eq hf b, by rw [h8]; exact c, ?_, ?_⟩
  · unfold tpT at d ⊢
    rw [h3, h130, e2, e3]; exact d
  · unfold rsT at e ⊢
    rw [h8, e1, e4, e20]; exact e
/-- the class has changed what says nothing -/
theorem RRg_c {M M' : px_mem} {pl : Int → Int → List Int} {nm : Int → List Int} {N : Int} {g : Int → fe} (hf : ∀ b, ¬ scr b → M' b = M b) (h : RRg M pl nm N g) : RRg M' pl nm N g :=
  RRg_eq (fun b _ _ b2 => hf b b2) (hf 128 (by unfold scr; decide)) (hf 130 (by unfold scr; decide)) (by rw [hf 127 (by unfold scr; decide)]) h
theorem out_eqC {M M' : px_mem} (h : out M' M) : eqC M' M := fun b _ b1 _ => h.1 b b1
/-- the reference has changed what says nothing -/
theorem RRg_r {M M' : px_mem} {pl : Int → Int → List Int} {nm : Int → List Int} {N : Int} {g : Int → fe} (h8 : M' 128 = M 128) (ho : out M' M) (h : RRg M pl nm N g) : RRg M' pl nm N g :=
  RRg_eq (out_eqC ho) h8 ho.2.1 ho.2.2 h
/-- both answer the same, and hold the same then -/
def opO (z1 z2 : Nat) (as : List pv) : Prop := ∀ M, RR M → px_Ok z1 ((2, 1) :: as) LAY M (fun r M1 => ∃ v, r = some (0, v) ∧ px_Ok z2 ((2, 127) :: as) LAY M1 (fun r2 M2 => r2 = some (0, v) ∧ RR M2))
theorem RRg_rls {M : px_mem} {pl : Int → Int → List Int} {nm : Int → List Int} {N : Int} {g : Int → fe} (h : RRg M pl nm N g) : lsA M := edA_lsA h.1.2.2.2.1
theorem tp_w {M : px_mem} (h : tpT M) {s n : Int} (s0 : 0 ≤ s) (h1 : s + n ≤ M 2 1) : tw (M 130) s n = lst (fun k => M 3 (s + k)) n := by
  unfold tw
  exact lst_congr (fun k k0 k1 => h.2 _ (by omega) (by omega))
theorem tp_w0 {M : px_mem} (h : tpT M) {n : Int} (h1 : n ≤ M 2 1) : tw (M 130) 0 n = lst (M 3) n := by
  rw [tp_w h (Int.le_refl 0) (by omega), lst0]
theorem tp_b {M : px_mem} (h : tpT M) (ht : tpI M) : 0 ≤ M 127 3 ∧ M 127 3 ≤ 160 := by
  have := h.1
  have := ht.1
  have := ht.2.1
  omega
section PS
variable {M : px_mem}
theorem op_row (p : Int) : opO 138 252 [(0, p)] := by
  intro M hR
  have hR2 := hR
  obtain ⟨pl, nm, N, g, hC, hT, hS, hP, hs⟩ := hR
  refine sp_row ⟨_, rfl, ?_⟩
  refine sp_rrow hT.1 ⟨rfl, hR2⟩
theorem op_owner (p : Int) : opO 139 253 [(0, p)] := by
  intro M hR
  have hR2 := hR
  obtain ⟨pl, nm, N, g, hC, hT, hS, hP, hs⟩ := hR
  refine sp_owner ⟨_, rfl, ?_⟩
  refine sp_rowner hT.1 ⟨rfl, hR2⟩
theorem op_came (a i : Int) : opO 153 291 [(0, a), (0, i)] := by
  intro M hR
  have hR2 := hR
  obtain ⟨pl, nm, N, g, hC, hT, hS, hP, hs⟩ := hR
  have hac := numI_acy hC.2.2.2.2.2.1
  refine sp_came hC.2.2.2.1 (fun w => ⟨_, rfl, ?_⟩) (fun w1 w2 w3 => ⟨_, rfl, ?_⟩)
  · exact sp_rcame hT hac (fun _ => ⟨rfl, hR2⟩) (fun w1 _ w3 => absurd w (fun z => z.elim (fun y => by omega) (fun y => y w3)))
  · exact sp_rcame hT hac (fun z => absurd z (fun z => z.elim (fun y => by omega) (fun y => y w3))) (fun _ _ _ => ⟨rfl, hR2⟩)
end PS
