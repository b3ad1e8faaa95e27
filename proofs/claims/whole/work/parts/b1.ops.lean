/-! both sides: what is told -/
theorem RR_fin {M M1 M2 : px_mem} {pl : Int → Int → List Int} {nm : Int → List Int} {N : Int} {g : Int → fe} (h : RRg M pl nm N g) (hf : ∀ b, ¬ scr b → M1 b = M b) (h8 : M2 128 = M1 128) (ho : out M2 M1) : RR M2 := ⟨pl, nm, N, g, RRg_r h8 ho (RRg_c hf h)⟩
theorem com_tie {M : px_mem} {a b r so : Int} (h : comC M a b r) (h' : comS M a b so) : r = if so = -1 then -2 else M (M 21 so) 3 := by
  obtain ⟨s, t, hs, ht, hc⟩ := h
  obtain ⟨s', t', hs', ht', hc'⟩ := h'
  have es := ancC_uniq hs hs'
  have et := ancC_uniq ht ht'
  subst es; subst et
  rcases hc with ⟨r1, r2⟩ | ⟨i, i0, i1, i2, i3, i4, i5⟩
  · rcases hc' with z | z
    · rw [if_pos z.1]; exact r1
    · exact absurd ⟨z.2.2.1, z.2.2.2.1⟩ (r2 so z.1 z.2.1)
  · rcases hc' with z | z
    · exact absurd ⟨i2, i3⟩ (z.2 i i0 i1)
    · have e : i = so := by
        rcases (by omega : i < so ∨ i = so ∨ so < i) with q | q | q
        · exact absurd ⟨z.2.2.1, z.2.2.2.1⟩ (i5 so q z.2.1)
        · exact q
        · exact absurd ⟨i2, i3⟩ (z.2.2.2.2 i q i1)
      rw [if_neg (by omega), ← e]; exact i4
theorem tou_lt {M : px_mem} (hl : lsA M) {k i j : Int} (h : touAt M k i j) : k < tcN M (i + 1) ∧ tcN M i ≤ k ∧ ∀ n, i < n → n ≤ M 20 1 → tcN M (i + 1) ≤ tcN M n := by
  obtain ⟨i0, i1, j0, j1, hz, hk⟩ := h
  have e1 := tcN_s (M := M) i0
  have hm : tcJ M i (j + 1) ≤ tcJ M i (nfC M i) := sm_mono (f := fun j => b1 (M 105 (cfC M i j) = 0)) (n := nfC M i) (fun _ _ _ => (b1_rng _).1) (by omega) (by omega)
  have e2 : tcJ M i (j + 1) = tcJ M i j + 1 := by
    have h1 : tcJ M i (j + 1) = tcJ M i j + b1 (M 105 (cfC M i j) = 0) := sm_s j0 _
    rw [h1, b1_t hz]
  have h0 : 0 ≤ tcJ M i j := sm_0le (fun _ _ _ => (b1_rng _).1)
  refine ⟨by omega, by omega, fun n n0 n1 => ?_⟩
  exact sm_mono (f := fun i => sm (nfC M i) (fun j => b1 (M 105 (cfC M i j) = 0))) (n := n) (fun _ _ _ => sm_0le (fun _ _ _ => (b1_rng _).1)) (by omega) (by omega)
theorem tou_uniq {M : px_mem} (hl : lsA M) {k i j i' j' : Int} (h : touAt M k i j) (h' : touAt M k i' j') : i = i' ∧ j = j' := by
  have a := tou_lt hl h
  have a' := tou_lt hl h'
  have e : i = i' := by
    rcases (by omega : i < i' ∨ i = i' ∨ i' < i) with q | q | q
    · have := a.2.2 i' q (by have := h'.2.1; omega); omega
    · exact q
    · have := a'.2.2 i q (by have := h.2.1; omega); omega
  subst e
  refine ⟨rfl, ?_⟩
  obtain ⟨i0, i1, j0, j1, hz, hk⟩ := h
  obtain ⟨_, _, j0', j1', hz', hk'⟩ := h'
  have st : ∀ j, 0 ≤ j → M 105 (cfC M i j) = 0 → tcJ M i (j + 1) = tcJ M i j + 1 := fun j j0 hz => by
    have h1 : tcJ M i (j + 1) = tcJ M i j + b1 (M 105 (cfC M i j) = 0) := sm_s j0 _
    rw [h1, b1_t hz]
  have mo : ∀ a b, 0 ≤ a → a ≤ b → tcJ M i a ≤ tcJ M i b := fun a b a0 ab => sm_mono (f := fun j => b1 (M 105 (cfC M i j) = 0)) (n := b) (fun _ _ _ => (b1_rng _).1) a0 ab
  rcases (by omega : j < j' ∨ j = j' ∨ j' < j) with q | q | q
  · have := st j j0 hz
    have := mo (j + 1) j' (by omega) (by omega)
    omega
  · exact q
  · have := st j' j0' hz'
    have := mo (j' + 1) j (by omega) (by omega)
    omega
section PS
variable {M : px_mem}
theorem op_edition (i : Int) : opO 157 289 [(0, i)] := by
  intro M hR
  have hR2 := hR
  obtain ⟨pl, nm, N, g, hC, hT, hS, hP, hs⟩ := hR
  exact sp_edition hC.2.2.2.1.1 ⟨_, rfl, sp_redition hT ⟨rfl, hR2⟩⟩
theorem op_common (a b : Int) : opO 165 240 [(0, a), (0, b)] := by
  intro M hR
  have hR2 := hR
  obtain ⟨pl, nm, N, g, hC, hT, hS, hP, hs⟩ := hR
  have hnum := hC.2.2.2.2.2.1
  have hac := numI_acy hnum
  refine sp_common hC.2.2.2.1 hnum (fun w => ⟨_, rfl, ?_⟩) (fun r w1 w2 w3 => ⟨_, rfl, ?_⟩)
  · exact sp_rcommon hT hac (fun _ => ⟨rfl, hR2⟩) (fun so q1 q2 _ => by exfalso; omega)
  · exact sp_rcommon hT hac (fun z => by exfalso; omega) (fun so q1 q2 q3 => ⟨by rw [com_tie w3 q3], hR2⟩)
theorem op_told (a i : Int) : opO 168 303 [(0, a), (0, i)] := by
  intro M hR
  have hR2 := hR
  obtain ⟨pl, nm, N, g, hR3⟩ := hR
  have hR4 := hR3
  obtain ⟨hC, hT, hS, hP, hs⟩ := hR3
  refine sp_told hC.2.2.2.1 hC.2.2.2.2.1 (fun w => ⟨_, rfl, ?_⟩) (fun M1 w1 w2 w3 w4 => ⟨_, rfl, ?_⟩)
  · exact sp_rtold hT (fun _ => ⟨rfl, hR2⟩) (fun M2 q1 q2 q3 _ _ => by exfalso; omega)
  · have hf : ∀ b, ¬ scr b → M1 b = M b := fun b b0 => w4 b (fun e => b0 (by rw [e]; unfold scr; decide))
    refine sp_rtold (Mc := M) (pl := pl) (nm := nm) (by rw [w4 128 (by decide)]; exact hT) (fun z => by exfalso; omega) (fun M2 _ _ _ q4 q5 => ⟨rfl, RR_fin hR4 hf q4 q5⟩)
theorem op_change (a b k w : Int) : opO 164 298 [(0, a), (0, b), (0, k), (0, w)] := by
  intro M hR
  have hR2 := hR
  obtain ⟨pl, nm, N, g, hR3⟩ := hR
  have hR4 := hR3
  obtain ⟨hC, hT, hS, hP, hs⟩ := hR3
  refine sp_change hC.2.2.2.1 (fun z => ⟨_, rfl, ?_⟩) (fun M1 U w1 w2 w3 w4 w5 w6 w7 w8 => ⟨_, rfl, ?_⟩)
  · exact sp_rchange (U := []) hT (fun _ _ _ _ _ _ => by exfalso; omega) (fun _ => ⟨rfl, hR2⟩) (fun _ _ _ _ _ _ => by exfalso; omega)
  · have hf : ∀ b, ¬ scr b → M1 b = M b := fun b b0 => w8 b (fun e => b0 (by rw [e]; unfold scr; decide)) (fun e => b0 (by rw [e]; unfold scr; decide)) (fun e => b0 (by rw [e]; unfold scr; decide)) (fun e => b0 (by rw [e]; unfold scr; decide))
    have e128 : M1 128 = M 128 := hf 128 (by unfold scr; decide)
    exact sp_rchange (Mc := M) (pl := pl) (nm := nm) (U := U) (by rw [e128]; exact hT) (fun _ _ _ _ _ _ => w7) (fun _ => by exfalso; omega) (fun _ _ _ _ _ _ => ⟨rfl, ⟨pl, nm, N, g, RRg_c hf hR4⟩⟩)
theorem op_touched (k w : Int) : opO 166 283 [(0, k), (0, w)] := by
  intro M hR
  have hR2 := hR
  obtain ⟨pl, nm, N, g, hR3⟩ := hR
  have hR4 := hR3
  obtain ⟨hC, hT, hS, hP, hs⟩ := hR3
  have hl := edA_lsA hC.2.2.2.1
  have hfin : ∀ M2, frd M2 M → RR M2 := fun M2 f => ⟨pl, nm, N, g, RRg_r (frd_128 f) (frd_out f) hR4⟩
  refine sp_touched hC.2.2.2.1.1 hl (fun z => ⟨_, rfl, ?_⟩) (fun i j z1 z2 => ⟨_, rfl, ?_⟩) (fun z1 z2 => ⟨_, rfl, ?_⟩)
  · exact sp_rtouched hT (fun _ => ⟨rfl, hR2⟩) (fun M2 i j q1 q2 q3 => absurd q1 z) (fun M2 q1 q2 q3 => absurd q1 z)
  · refine sp_rtouched hT (fun z => absurd z1 z) (fun M2 i' j' q1 q2 q3 => ⟨?_, hfin M2 q2⟩) (fun M2 q1 q2 q3 => ?_)
    · obtain ⟨e1, e2⟩ := tou_uniq hl z2 q3
      subst e1; subst e2; rfl
    · exfalso
      have h1 := tou_lt hl z2
      have h2 := h1.2.2 (M 20 1) z2.2.1 (Int.le_refl _)
      omega
  · refine sp_rtouched hT (fun z => absurd z1 z) (fun M2 i' j' q1 q2 q3 => ?_) (fun M2 q1 q2 q3 => ⟨rfl, hfin M2 q2⟩)
    exfalso
    have h1 := tou_lt hl q3
    have h2 := h1.2.2 (M 20 1) q3.2.1 (Int.le_refl _)
    omega
theorem op_file (a i w : Int) : opO 160 293 [(0, a), (0, i), (0, w)] := by
  intro M hR
  have hR2 := hR
  obtain ⟨pl, nm, N, g, hR3⟩ := hR
  have hR4 := hR3
  obtain ⟨hC, hT, hS, hP, hs⟩ := hR3
  refine sp_file hC.2.2.2.1 hC.2.1 hC.2.2.2.2.1 (fun z => ⟨_, rfl, ?_⟩) (fun z1 z2 z3 => ⟨_, rfl, ?_⟩) (fun z1 z2 z3 z4 z5 => ⟨_, rfl, ?_⟩)
  · exact sp_rfile hT hS (fun _ => ⟨rfl, hR2⟩) (fun M2 q1 q2 q3 q4 q5 => by exfalso; omega) (fun q1 q2 q3 q4 q5 => by exfalso; omega)
  · exact sp_rfile hT hS (fun z => by exfalso; omega) (fun M2 q1 q2 q3 q4 q5 => ⟨rfl, ⟨pl, nm, N, g, RRg_r q4 q5 hR4⟩⟩) (fun q1 q2 q3 q4 q5 => by exfalso; omega)
  · exact sp_rfile hT hS (fun z => by exfalso; omega) (fun M2 q1 q2 q3 q4 q5 => by exfalso; omega) (fun q1 q2 q3 q4 q5 => ⟨rfl, hR2⟩)
theorem op_at (a i b k : Int) (hb : b = 0 ∨ b = 1) : opO 162 294 [(0, a), (0, i), (0, b), (0, k)] := by
  intro M hR
  have hR2 := hR
  obtain ⟨pl, nm, N, g, hR3⟩ := hR
  have hR4 := hR3
  obtain ⟨hC, hT, hS, hP, hs⟩ := hR3
  refine sp_at hC.2.2.2.1 hC.2.1 hC.2.2.2.2.1 (fun z => ⟨_, rfl, ?_⟩) (fun z1 z2 z3 => ⟨_, rfl, ?_⟩) (fun z1 z2 z3 z4 z5 => ⟨_, rfl, ?_⟩)
  · exact sp_rat hT hS hb (fun M2 _ q4 q5 => ⟨rfl, ⟨pl, nm, N, g, RRg_r q4 q5 hR4⟩⟩) (fun M2 q1 q2 q3 q4 q5 => by exfalso; omega) (fun M2 q1 q2 q3 q4 q5 q6 q7 => by exfalso; omega)
  · exact sp_rat hT hS hb (fun M2 z q4 q5 => by exfalso; omega) (fun M2 q1 q2 q3 q4 q5 => ⟨rfl, ⟨pl, nm, N, g, RRg_r q4 q5 hR4⟩⟩) (fun M2 q1 q2 q3 q4 q5 q6 q7 => by exfalso; omega)
  · exact sp_rat hT hS hb (fun M2 z q4 q5 => by exfalso; omega) (fun M2 q1 q2 q3 q4 q5 => by exfalso; omega) (fun M2 q1 q2 q3 q4 q5 q6 q7 => ⟨rfl, ⟨pl, nm, N, g, RRg_r q6 q7 hR4⟩⟩)
theorem op_since (p k : Int) : opO 151 305 [(0, p), (0, k)] := by
  intro M hR
  have hR2 := hR
  obtain ⟨pl, nm, N, g, hR3⟩ := hR
  have hR4 := hR3
  obtain ⟨hC, hT, hS, hP, hs⟩ := hR3
  have htb := tp_b hP hC.1
  have e3 := hP.1
  have hw : wdq M p ↔ wrd M p := by unfold wdq wrd; rw [e3]
  refine sp_since hC.1 hC.2.2.2.1 (fun z => ⟨_, rfl, ?_⟩) (fun z1 z2 z3 => ⟨_, rfl, ?_⟩) (fun z1 z2 z3 => ⟨_, rfl, ?_⟩)
  · refine sp_rsince htb hT (fun _ => ⟨rfl, hR2⟩) (fun M2 q1 q2 q3 q4 q5 => ?_) (fun M2 q1 q2 q3 q4 q5 => ?_)
    · exact absurd z (fun y => y.elim (fun y => y (hw.mp q1)) (fun y => by omega))
    · exact absurd z (fun y => y.elim (fun y => y (hw.mp q1)) (fun y => by omega))
  · have et := tp_w0 hP z1.2.2
    refine sp_rsince htb hT (fun y => absurd y (fun y => y.elim (fun y => y (hw.mpr z1)) (fun y => by omega))) (fun M2 q1 q2 q3 q4 q5 => ⟨rfl, ⟨pl, nm, N, g, RRg_r q4 q5 hR4⟩⟩) (fun M2 q1 q2 q3 q4 q5 => ?_)
    rw [et] at q3
    exact absurd q3 z3
  · have et := tp_w0 hP z1.2.2
    refine sp_rsince htb hT (fun y => absurd y (fun y => y.elim (fun y => y (hw.mpr z1)) (fun y => by omega))) (fun M2 q1 q2 q3 q4 q5 => ?_) (fun M2 q1 q2 q3 q4 q5 => ⟨by rw [et], ⟨pl, nm, N, g, RRg_r q4 q5 hR4⟩⟩)
    rw [et] at q3
    exact absurd z3 q3
theorem op_weigh (a p : Int) : opO 150 273 [(0, a), (0, p)] := by
  intro M hR
  have hR2 := hR
  obtain ⟨pl, nm, N, g, hR3⟩ := hR
  have hR4 := hR3
  obtain ⟨hC, hT, hS, hP, hs⟩ := hR3
  have htb := tp_b hP hC.1
  have e3 := hP.1
  have hw : wdq M p ↔ wrd M p := by unfold wdq wrd; rw [e3]
  refine sp_weigh hC.1 hC.2.2.2.1 hC.2.2.2.2.1 (fun z => ⟨_, rfl, ?_⟩) (fun z1 z2 z3 => ⟨_, rfl, ?_⟩) (fun z1 z2 z3 z4 z5 => ⟨_, rfl, ?_⟩)
  · refine sp_rweigh htb hT (fun _ => ⟨rfl, hR2⟩) (fun M2 q1 q2 q3 q4 q5 => ?_) (fun M2 q1 q2 q3 q4 q5 q6 q7 => ?_)
    · exact absurd z (fun y => y.elim (fun y => by omega) (fun y => y (hw.mp q2)))
    · exact absurd z (fun y => y.elim (fun y => by omega) (fun y => y (hw.mp q3)))
  · have et := tp_w0 hP z2.2.2
    refine sp_rweigh htb hT (fun y => absurd y (fun y => y.elim (fun y => by omega) (fun y => y (hw.mpr z2)))) (fun M2 q1 q2 q3 q4 q5 => ⟨rfl, ⟨pl, nm, N, g, RRg_r q4 q5 hR4⟩⟩) (fun M2 q1 q2 q3 q4 q5 q6 q7 => ?_)
    rw [et] at q4 q5
    exact absurd (z3 q4) q5
  · have et := tp_w0 hP z3.2.2
    refine sp_rweigh htb hT (fun y => absurd y (fun y => y.elim (fun y => by omega) (fun y => y (hw.mpr z3)))) (fun M2 q1 q2 q3 q4 q5 => ?_) (fun M2 q1 q2 q3 q4 q5 q6 q7 => ⟨by rw [et], ⟨pl, nm, N, g, RRg_r q6 q7 hR4⟩⟩)
    rw [et] at q3
    exact absurd (q3 z4) z5
theorem op_like (a q k : Int) : opO 149 275 [(0, a), (0, q), (0, k)] := by
  intro M hR
  have hR2 := hR
  obtain ⟨pl, nm, N, g, hR3⟩ := hR
  have hR4 := hR3
  obtain ⟨hC, hT, hS, hP, hs⟩ := hR3
  have htb := tp_b hP hC.1
  have e3 := hP.1
  have hw : wdq M q ↔ wrd M q := by unfold wdq wrd; rw [e3]
  refine sp_like hC.1 hC.2.2.2.1 (fun z => ⟨_, rfl, ?_⟩) (fun z1 z2 z3 z4 => ⟨_, rfl, ?_⟩) (fun z1 z2 z3 z4 z5 => ⟨_, rfl, ?_⟩)
  · refine sp_rlike htb hT (fun _ => ⟨rfl, hR2⟩) (fun M2 q1 q2 q3 q4 q5 q6 => ?_) (fun M2 q1 q2 q3 q4 q5 q6 q7 => ?_)
    · exact absurd z (fun y => y.elim (fun y => by omega) (fun y => y.elim (fun y => y (hw.mp q2)) (fun y => by omega)))
    · exact absurd z (fun y => y.elim (fun y => by omega) (fun y => y.elim (fun y => y (hw.mp q3)) (fun y => by omega)))
  · have et := tp_w0 hP z2.2.2
    refine sp_rlike htb hT (fun y => absurd y (fun y => y.elim (fun y => by omega) (fun y => y.elim (fun y => y (hw.mpr z2)) (fun y => by omega)))) (fun M2 q1 q2 q3 q4 q5 q6 => ⟨rfl, ⟨pl, nm, N, g, RRg_r q5 q6 hR4⟩⟩) (fun M2 q1 q2 q3 q4 q5 q6 q7 => ?_)
    rw [et] at q5
    exact absurd q5 z4
  · have et := tp_w0 hP z3.2.2
    refine sp_rlike htb hT (fun y => absurd y (fun y => y.elim (fun y => by omega) (fun y => y.elim (fun y => y (hw.mpr z3)) (fun y => by omega)))) (fun M2 q1 q2 q3 q4 q5 q6 => ?_) (fun M2 q1 q2 q3 q4 q5 q6 q7 => ⟨?_, ⟨pl, nm, N, g, RRg_r q6 q7 hR4⟩⟩)
    · rw [et] at q4
      exact absurd z5 q4
    · have e : ftR (pl (slot M a)) (tw (M 130) 0 q) = ftP M q (pl (slot M a)) := by
        funext i
        rw [et]
        unfold ftR ftP
        have hq1 := z3.1
        rw [lst_lenN]
        have e2 := ftK_congr (s := pl (slot M a) i) (p := nth (lst (M 3) q)) (p' := M 3) q.toNat (fun j j0 j1 => nth_lst j0 (by omega))
        rw [e2]
      rw [e]
end PS
