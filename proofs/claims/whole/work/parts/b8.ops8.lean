/-! both sides: mend, commit -/
/-- only the tape is emptied -/
theorem RR_tp {M2 : px_mem} (v1 v2 : Int) (h : RR (px_up (px_up M2 2 1 v1) 127 3 v2)) (h0 : M2 2 1 = 0) (h3 : M2 127 3 = 0) : RR M2 := by
  obtain ⟨pl, nm, N, g, hR⟩ := h
  have r : ∀ b, b ≠ 127 → b ≠ 2 → px_up (px_up M2 2 1 v1) 127 3 v2 b = M2 b := fun b b0 b1 => by rw [row_ne b0, row_ne b1]
  refine RR_t0 hR ?_ ⟨fun b b0 => ?_, ?_, h3⟩
  · rw [row_ne (by decide), r 128 (by decide) (by decide)]
  · by_cases q : b = 2
    · subst q
      funext j
      rw [px_up_at]
      by_cases y : j = 1
      · rw [if_pos ⟨rfl, y⟩, y]; exact h0
      · rw [if_neg (fun z => y z.2), row_ne (by decide), px_up_at, if_neg (fun z => y z.2)]
    · rw [row_ne q, r b (by omega) q]
  · rw [row_ne (by decide), r 130 (by decide) (by decide)]
theorem csame_ci {M M' : px_mem} (h : csame M M') (hci : ci M) : ci M' := by
  obtain ⟨s1, s2, s3, s4⟩ := h
  obtain ⟨i1, i2, i3, i4, i5⟩ := hci
  refine ⟨fun c c0 c1 c2 => ?_, fun k k0 k1 => ?_, ⟨fun c c0 c1 c2 x x0 x1 => ?_, fun x x0 x1 => ?_⟩, fun c c0 c1 => ?_, fun c c0 c1 c2 => ?_⟩
  · rw [s1 c c0 c1] at c2
    have e : ∀ p, 1 ≤ p → p ≤ 5 → cC M' c p = cC M c p := fun p p0 p1 => (s2 c c0 c1 c2).1 (56 + p) (by omega) (by omega)
    have hk := i1 c c0 c1 c2
    unfold cok at hk ⊢
    rw [e 1 (by decide) (by decide), e 2 (by decide) (by decide), e 3 (by decide) (by decide), e 4 (by decide) (by decide), e 5 (by decide) (by decide), s1 c c0 c1]
    obtain ⟨k1, k2, k3, k4, k5, k6, k7, k8, k9, k10⟩ := hk
    exact ⟨k1, k2, k3, k4, k5, k6, k7, k8, k9, k10.imp id (fun z => ⟨z.1, z.2.1, by rw [s1 _ z.1 z.2.1]; exact z.2.2.1, by rw [s1 _ z.1 z.2.1]; exact z.2.2.2⟩)⟩
  · rw [(s3 k k0 k1).1]; exact i2 k k0 k1
  · rw [s1 c c0 c1] at c2
    have hk := cokC (i1 c c0 c1 c2)
    have f := (s2 c c0 c1 c2).1
    rw [f 59 (by decide) (by decide)] at x0 x1
    rw [f 60 (by decide) (by decide)] at x1
    rw [(s3 x (by omega) (by omega)).2]
    exact i3.1 c c0 c1 c2 x x0 x1
  · rw [(s3 x x0 x1).2]
    refine (i3.2 x x0 x1).imp id (fun z => ?_)
    have f := (s2 _ z.1 z.2.1 z.2.2.1).1
    rw [s1 _ z.1 z.2.1, f 59 (by decide) (by decide), f 60 (by decide) (by decide)]
    exact z
  · rw [s1 c c0 c1]; exact i4 c c0 c1
  · rw [s1 c c0 c1] at c2
    have s := s2 c c0 c1 c2
    refine gd_move (s := fun _ => 0) i1 c0 c1 c2 (i5 c c0 c1 c2) (fun d d0 d1 d2 => ?_) (fun d d0 d1 d2 x x0 x1 => ?_) s.2.1 s.2.2.1 s.2.2.2
    · have f := (s2 d d0 d1 d2).1
      exact ⟨f 57 (by decide) (by decide), f 58 (by decide) (by decide), f 60 (by decide) (by decide), f 61 (by decide) (by decide), by rw [f 59 (by decide) (by decide), Int.add_zero]⟩
    · have hk := cokC (i1 d d0 d1 d2)
      rw [Int.add_zero]
      exact (s3 x (by omega) (by omega)).1
theorem csame_tie {M M' : px_mem} {F : Int → Int} (h : csame M M') (hT : tieC M F) : tieC M' F := by
  have hc := csame_ci h hT.1
  obtain ⟨s1, s2, s3, s4⟩ := h
  obtain ⟨t1, t2, t3, t4⟩ := hT
  refine ⟨hc, fun c c0 c1 => by rw [s1 c c0 c1]; exact t2 c c0 c1, fun c p c0 c1 c2 p0 p1 => ?_, fun k k0 k1 => by rw [(s3 k k0 k1).1]; exact t4 k k0 k1⟩
  rw [s1 c c0 c1] at c2
  rw [t3 c p c0 c1 c2 p0 p1]
  exact ((s2 c c0 c1 c2).1 (56 + p) (by omega) (by omega)).symm
theorem ktr_used {g : Int → fe} {M : px_mem} : ∀ (k : Nat) (M' : px_mem), ktr g M k M' → ∀ j, 0 ≤ j → j < (k : Int) → 0 ≤ M' 126 j ∧ M' 126 j < 40 ∧ 0 ≤ M' 62 (M' 126 j) := by
  intro k
  induction k with
  | zero => intro M' _ j j0 j1; omega
  | succ k ih =>
    intro M' h j j0 j1
    obtain ⟨M2, c, h1, h2⟩ := h
    obtain ⟨e1, e2, c0, c1, h3⟩ := h2
    have hmono : ∀ x, 0 ≤ M2 62 x → 0 ≤ M' 62 x := fun x hx => by
      rcases h3 with z | z
      · rw [z.2 62 (by decide)]; exact hx
      · obtain ⟨bb, l, p, P, a1, a2, a3, a4, a5, a6, a7, a8, a9, a10⟩ := z.2
        obtain ⟨b1', b2, b3, b4, b5, b6, b7, b8⟩ := a8
        rw [b6 x]
        by_cases e : x = c
        · rw [if_pos e]
          by_cases q : bb < 0
          · rw [if_pos q]; exact Int.le_refl 0
          · rw [if_neg q]
            rcases a4 with y | y
            · omega
            · have := y.2.2.1.1; omega
        · rw [if_neg e]; exact hx
    by_cases q : j = (k : Int)
    · rw [q, e1]
      refine ⟨c0, c1, ?_⟩
      rcases h3 with z | z
      · rcases fnd_spec 40 (isFb M2 (g (k : Int)).2) with y | y
        · omega
        · have hf := y.2.2.1
          rw [z.1] at hf
          exact hmono c hf.1
      · obtain ⟨bb, l, p, P, a1, a2, a3, a4, a5, a6, a7, a8, a9, a10⟩ := z.2
        obtain ⟨b1', b2, b3, b4, b5, b6, b7, b8⟩ := a8
        rw [b6 c, if_pos rfl]
        by_cases q : bb < 0
        · rw [if_pos q]; exact Int.le_refl 0
        · rw [if_neg q]
          rcases a4 with y | y
          · omega
          · have := y.2.2.1.1; omega
    · rw [e2 j q]
      have hi := ih M2 h1 j j0 (by omega)
      exact ⟨hi.1, hi.2.1, hmono _ hi.2.2⟩
section PS
variable {M : px_mem}
theorem op_mend (c n : Int) : opO 134 256 [(0, c), (0, n)] := by
  intro M hR
  have hR2 := hR
  obtain ⟨pl, nm, N, g, hR3⟩ := hR
  have hR4 := hR3
  obtain ⟨hC, hT, hS, hP, hs⟩ := hR3
  have htb := tp_b hP hC.1
  have e3 := hP.1
  have hw : (0 ≤ n ∧ n ≤ 40 ∧ n ≤ M 127 3) ↔ (0 ≤ n ∧ n ≤ 40 ∧ n ≤ M 2 1) := by rw [e3]
  have f127 : px_up M 2 1 0 127 = M 127 := row_ne (by decide)
  have f128 : px_up M 2 1 0 128 = M 128 := row_ne (by decide)
  have et : (0 ≤ n ∧ n ≤ 40 ∧ n ≤ M 2 1) → tw (M 130) 0 n = lst (M 3) n := fun z => tp_w0 hP z.2.2
  refine sp_mend hC.1 hC.2.2.2.2.1 (fun z => ⟨_, rfl, ?_⟩) (fun z1 z2 => ⟨_, rfl, ?_⟩) (fun M1 z1 z2 z3 z4 => ⟨_, rfl, ?_⟩) (fun M1 r z1 z2 z3 z4 z5 => ⟨_, rfl, ?_⟩)
  · exact sp_rmend hT.1 htb (fun _ => ⟨rfl, hR2⟩) (fun M2 q1 => absurd (hw.mp q1) z) (fun M2 q1 => absurd (hw.mp q1) z) (fun M2 r q1 => absurd (hw.mp q1) z)
  · exact sp_rmend (Mc := M) (by rw [f128]; exact hT.1) (by rw [f127]; exact htb) (fun y => by exfalso; rw [f127] at y; omega) (fun M2 q1 q2 q3 q4 => ⟨rfl, RR_t0 hR4 q3 q4⟩) (fun M2 q1 q2 => absurd q2 z2) (fun M2 r q1 q2 => absurd q2 z2)
  · obtain ⟨P, p1, p2, p3, p4⟩ := z4
    have g127 : px_up M1 2 1 0 127 = M 127 := by rw [row_ne (by decide), p3 127 (by decide) (by decide)]
    have g128 : px_up M1 2 1 0 128 = M 128 := by rw [row_ne (by decide), p3 128 (by decide) (by decide)]
    have g130 : px_up M1 2 1 0 130 = M 130 := by rw [row_ne (by decide), p3 130 (by decide) (by decide)]
    refine sp_rmend (Mc := M) (by rw [g128]; exact hT.1) (by rw [g127]; exact htb) (fun y => by exfalso; rw [g127] at y; omega) (fun M2 q1 q2 q3 q4 => absurd z2 q2) (fun M2 q1 q2 q3 q4 q5 q6 => ⟨rfl, ?_⟩) (fun M2 r q1 q2 q3 => ?_)
    · rw [g130, et z1] at q4
      have hTC := q4 M1 ⟨P, p1, p2, p3, p4⟩
      have o := q6.1
      have e21 : M2 2 1 = 0 := by rw [o 2 (by decide), px_up_at, if_pos ⟨rfl, rfl⟩]
      refine RR_tp (M 2 1) (M 127 3) ?_ e21 q6.2.2
      have r : ∀ b, b ≠ 127 → b ≠ 2 → px_up (px_up M2 2 1 (M 2 1)) 127 3 (M 127 3) b = M2 b := fun b b0 b1 => by rw [row_ne b0, row_ne b1]
      refine RR_ct hR4 (M1 := M1) (fun b b0 b1 => p3 b (by omega) (by omega)) (fun d _ _ z => by rw [p3 62 (by decide) (by decide)]; exact z) (p3 118 (by decide) (by decide)) (by rw [p3 127 (by decide) (by decide)]) (p3 130 (by decide) (by decide)) (by rw [r 128 (by decide) (by decide)]; exact hTC) (fun x _ _ x0 => by rw [r 128 (by decide) (by decide), q5 x (by omega), g128]) ⟨fun b b0 => ?_, by rw [r 130 (by decide) (by decide), q6.2.1, row_ne (by decide)], by rw [px_up_at, if_pos ⟨rfl, rfl⟩, p3 127 (by decide) (by decide)]⟩
      by_cases q : b = 2
      · subst q
        rw [row_ne (by decide)]
        funext j
        rw [px_up_at, o 2 (by decide), px_up_at]
        by_cases y : j = 1
        · rw [if_pos ⟨rfl, y⟩, y, p3 2 (by decide) (by decide)]
        · rw [if_neg (fun z => y z.2), if_neg (fun z => y z.2)]
      · rw [r b (by omega) q, o b b0, row_ne q]
    · rw [g130, et z1] at q3; exact absurd z3 q3
  · have hf : ∀ b, ¬ scr b → M1 b = M b := fun b b0 => z5 b (fun e => b0 (by rw [e]; unfold scr; decide)) (fun e => b0 (by rw [e]; unfold scr; decide))
    have hR5 := RRg_c hf hR4
    have g127 : px_up M1 2 1 0 127 = M 127 := by rw [row_ne (by decide), z5 127 (by decide) (by decide)]
    have g128 : px_up M1 2 1 0 128 = M 128 := by rw [row_ne (by decide), z5 128 (by decide) (by decide)]
    have g130 : px_up M1 2 1 0 130 = M 130 := by rw [row_ne (by decide), z5 130 (by decide) (by decide)]
    refine sp_rmend (Mc := M) (by rw [g128]; exact hT.1) (by rw [g127]; exact htb) (fun y => by exfalso; rw [g127] at y; omega) (fun M2 q1 q2 q3 q4 => absurd z2 q2) (fun M2 q1 q2 q3 => ?_) (fun M2 r' q1 q2 q3 q4 q5 q6 => ⟨?_, RR_t0 hR5 q5 q6⟩)
    · rw [g130, et z1] at q3; exact absurd q3 z3
    · rw [g130, et z1] at q4; rw [q4, z4]
theorem op_commit : opO 120 235 [] := by
  intro M hR
  have hR2 := hR
  obtain ⟨pl, nm, N, g, hR3⟩ := hR
  have hR4 := hR3
  obtain ⟨hC, hT, hS, hP, hs⟩ := hR3
  have hed := hC.2.2.2.1
  have hci := hC.2.2.2.2.1
  have hnum := hC.2.2.2.2.2.1
  have hw := hed.1
  have hn := hw.2.2
  have hst := hC.2.1
  have hsg := hC.2.2.1
  refine sp_commit hed hci hst hnum.1 (fun z => ⟨_, rfl, ?_⟩) (fun z1 z2 => ⟨_, rfl, ?_⟩) (fun M1 Mr Mk k z1 z2 z3 z4 z5 z6 z7 z8 => ⟨_, rfl, ?_⟩) (fun M1 Mr Mk e z1 z2 z3 z4 z5 z6 z7 z8 z9 z10 z11 z12 z13 z14 z15 z16 z17 z18 z19 z20 z21 => ⟨_, rfl, ?_⟩)
  · exact sp_rcommit0 hT hnum hS hs.1 hs.2.1 hs.2.2.1 (fun M2 q1 q2 q3 => ⟨rfl, ⟨pl, nm, N, g, RRg_r q2 q3 hR4⟩⟩) (fun M2 q1 => absurd z q1) (fun M2 q1 => absurd z q1)
  · exact sp_rcommit0 hT hnum hS hs.1 hs.2.1 hs.2.2.1 (fun M2 q1 => absurd q1 z1) (fun M2 q1 q2 q3 q4 => ⟨rfl, ⟨pl, nm, N, g, RRg_r q3 q4 hR4⟩⟩) (fun M2 q1 q2 q3 => by exfalso; omega)
  · obtain ⟨Ms, m0, mk, mch⟩ := ktr_chain k Mk z6
    have s4 := z8.2.2.2
    have rM : ∀ b, (b ≤ 52) ∨ b = 118 ∨ 127 ≤ b → M1 b = M b := fun b hb => s4 b (by omega) (by omega) (by omega) (by omega) (by omega) (by omega) (by omega)
    have e128 := rM 128 (by decide)
    have hTr : tieC (Ms 0) (M1 128) := by
      rw [m0, e128]
      exact tieC_same hT.1 (fun b b0 b1 b2 => z4 b b2 (by omega))
    refine sp_rcommit (Mc := M) (pl := pl) (nm := nm) (by rw [e128]; exact hT) hnum (by rw [e128]; exact hS) (by rw [e128]; exact hs.1) (by rw [e128]; exact hs.2.1) (by rw [e128]; exact hs.2.2.1) hTr mch (by omega) (Or.inr ⟨z5, by rw [mk]; exact z7⟩) z1 z2 z3 (fun M2 q1 q2 q3 => ⟨rfl, ?_⟩) (fun M2 q1 => by exfalso; omega)
    have hTC : tieC M1 (M2 128) := by
      have h1 : tieC M1 (M 128) := csame_tie z8 hT.1
      exact tieC_frame h1 (fun x x0 x1 => by rw [q2 x (by omega) (by omega), e128])
    exact RR_ct hR4 (M1 := M1) (fun b b0 b1 => rM b (by omega)) (fun c c0 c1 z => by rw [z8.1 c c0 c1]; exact z) (rM 118 (by decide)) (by rw [rM 127 (by decide)]) (rM 130 (by decide)) hTC (fun x x0 x1 _ => by rw [q2 x x0 x1, e128]) q3
  · obtain ⟨Ms, m0, mk, mch⟩ := ktr_chain N.toNat Mk z5
    have hN0 := hst.2.1
    have hN12 := hst.2.2.1
    have hNt : ((N.toNat : Nat) : Int) = N := Int.toNat_of_nonneg hN0
    have hus := ktr_used N.toNat Mk z5
    rw [hNt] at hus
    have heE := hw.1 (M 20 1) hn.1 (by omega)
    rw [← z8] at heE
    have hem := isE_m heE.1
    have k4 := z7.2.2.2
    have rk : ∀ b, b ≠ 4 → b ≠ 20 → b ≠ e → b ≠ e + 1 → b ≠ e + 2 → (b ≤ 52 ∨ b = 118 ∨ 127 ≤ b) → M1 b = M b := fun b a0 a1 a2 a3 a4 hb => by rw [z21 b a0 a1 a2 a3 a4, k4 b (by omega) (by omega) (by omega) (by omega) (by omega), z4 b (by omega) (by omega)]
    have e128 := rk 128 (by decide) (by decide) (by omega) (by omega) (by omega) (by decide)
    have e127 := rk 127 (by decide) (by decide) (by omega) (by omega) (by omega) (by decide)
    have e130 := rk 130 (by decide) (by decide) (by omega) (by omega) (by omega) (by decide)
    have e118 := rk 118 (by decide) (by decide) (by omega) (by omega) (by omega) (by decide)
    have e21 := rk 21 (by decide) (by decide) (by omega) (by omega) (by omega) (by decide)
    have e1 := rk 1 (by decide) (by decide) (by omega) (by omega) (by omega) (by decide)
    have e2 := rk 2 (by decide) (by decide) (by omega) (by omega) (by omega) (by decide)
    have e3 := rk 3 (by decide) (by decide) (by omega) (by omega) (by omega) (by decide)
    have hTr : tieC (Ms 0) (M1 128) := by
      rw [m0, e128]
      exact tieC_same hT.1 (fun b b0 b1 b2 => z4 b b2 (by omega))
    refine sp_rcommit (Mc := M) (pl := pl) (nm := nm) (by rw [e128]; exact hT) hnum (by rw [e128]; exact hS) (by rw [e128]; exact hs.1) (by rw [e128]; exact hs.2.1) (by rw [e128]; exact hs.2.2.1) hTr mch (by omega) (Or.inl hNt) z1 z2 z3 (fun M2 q1 => by exfalso; omega) (fun M2 q1 q2 q3 q4 q5 q6 q7 q8 q9 q10 q11 q12 q13 q14 q15 q16 q17 => ⟨rfl, ?_⟩)
    rw [mk] at q2 q16
    rw [e128] at q3 q9
    have o := q17.1
    have hne : ∀ i, 0 ≤ i → i < M 20 1 → M 21 i ≠ e := fun i i0 i1 y => by
      rw [z8] at y
      have := hw.2.1 i (M 20 1) i0 (by omega) hn.1 (by omega) y
      omega
    have hr : ∀ i, 0 ≤ i → i < M 20 1 → M1 (M 21 i) = M (M 21 i) ∧ M1 (M 21 i + 1) = M (M 21 i + 1) ∧ M1 (M 21 i + 2) = M (M 21 i + 2) := fun i i0 i1 => by
      have hb := hw.1 i i0 (by omega)
      have hm := isE_m hb.1
      have h9 := hne i i0 i1
      exact ⟨rk _ (by omega) (by omega) h9 (by omega) (by omega) (by omega), rk _ (by omega) (by omega) (by omega) (by omega) (by omega) (by omega), rk _ (by omega) (by omega) (by omega) (by omega) (by omega) (by omega)⟩
    have hci1 : ci M1 := ci_congr (fun b b0 b1 b2 => z21 b (by omega) (by omega) (by omega) (by omega) (by omega)) z6
    have f62 : M1 62 = Mk 62 := z21 62 (by decide) (by decide) (by omega) (by omega) (by omega)
    have hused : ∀ c, 0 ≤ c → c < 40 → 0 ≤ M 62 c → 0 ≤ M1 62 c := fun c c0 c1 c2 => by
      have h62 : Mr 62 = M 62 := z4 62 (by decide) (by decide)
      rw [f62, (z7.1 c c0 c1 (by rw [h62]; exact c2)).1, h62]; exact c2
    obtain ⟨pl', hpln, hplo⟩ : ∃ pl' : Int → Int → List Int, pl' (M 20 1) = (fun j => (g j).1) ∧ ∀ i, i ≠ M 20 1 → pl' i = pl i := ⟨(fun i => if i = M 20 1 then (fun j => (g j).1) else pl i), if_pos rfl, fun i q => if_neg q⟩
    obtain ⟨nm', hnmn, hnmo⟩ : ∃ nm' : Int → List Int, nm' (M 20 1) = [] ∧ ∀ i, i ≠ M 20 1 → nm' i = nm i := ⟨(fun i => if i = M 20 1 then [] else nm i), if_pos rfl, fun i q => if_neg q⟩
    have hedA : edA M1 pl' nm' := by
      refine ⟨?_, fun i i0 i1 => ?_⟩
      · have hw := hw
        unfold edW at hw ⊢
        rw [e21, z16]
        exact ⟨hw.1, hw.2.1, by omega, by omega⟩
      · rw [z16] at i1
        rw [e21]
        by_cases q : i = M 20 1
        · subst q
          rw [← z8, hpln, hnmn]
          have hf := hst.2.2.2.2
          refine ⟨⟨by rw [z10]; exact hN0, by rw [z10]; exact hN12, fun j j0 j1 => ?_⟩, fun x y x0 xy y1 => ?_, fun j j0 j1 => ?_, fun x y x0 x1 y0 y1 => ?_, Or.inl z14, ⟨okl_nil, by decide⟩, fun b hb => absurd hb List.not_mem_nil, ?_⟩
          · rw [z10] at j1
            have h1 := z9 j j0 j1
            have h2 := hus j j0 j1
            rw [h1.1, h1.2]
            exact ⟨(hf j j0 j1).1, (hf j j0 j1).2.1, h2.1, h2.2.1⟩
          · rw [z10] at y1
            rw [(z9 x x0 (by omega)).1, (z9 y (by omega) y1).1, (hf x x0 (by omega)).2.1, (hf y (by omega) y1).2.1]
            exact hsg.1 x y x0 xy y1
          · rw [z10] at j1
            rw [(z9 j j0 j1).2, f62]
            exact ⟨(hus j j0 j1).2.2, hsg.2.2 j j0 j1⟩
          · rw [z10] at x1 y1
            exact hsg.2.1 x y x0 x1 y0 y1
          · rw [z15]; exact ((enc_0 okl_nil (by decide)).mpr rfl).symm
        · rw [hplo i q, hnmo i q]
          have hi := hed.2 i i0 (by omega)
          have r := hr i i0 (by omega)
          unfold edI lsC sE at hi ⊢
          rw [r.1, r.2.1, r.2.2]
          exact ⟨hi.1, hi.2.1, fun j j0 j1 => ⟨hused _ (hi.1.2.2 j j0 j1).2.2.1 (hi.1.2.2 j j0 j1).2.2.2 (hi.2.2.1 j j0 j1).1, (hi.2.2.1 j j0 j1).2⟩, hi.2.2.2⟩
    have hnum1 : numI M1 := by
      obtain ⟨n1, n2, n3, n4, n5⟩ := hnum
      refine ⟨by rw [z17]; omega, fun i i0 i1 => ?_, fun i j i0 i1 j1 => ?_, by rw [z18, z17]; omega, by rw [z19, z17]; omega⟩
      · rw [z16] at i1
        rw [e21, z17]
        by_cases q : i = M 20 1
        · subst q
          rw [← z8, z11, z12, z13]
          omega
        · have h1 := n2 i i0 (by omega)
          rw [(hr i i0 (by omega)).1]
          omega
      · rw [z16] at j1
        rw [e21, (hr i i0 (by omega)).1]
        by_cases q : j = M 20 1
        · subst q
          rw [← z8, z11]
          exact (n2 i i0 (by omega)).2.1
        · rw [(hr j (by omega) (by omega)).1]
          exact n3 i j i0 i1 (by omega)
    have hCI : CI M1 pl' nm' N g := by
      refine ⟨?_, stC_4 hst (z20 3 (by decide) (by decide)) (fun b b0 b1 => rk b (by omega) (by omega) (by omega) (by omega) (by omega) (by omega)), hsg, hedA, hci1, hnum1, by rw [e118]; exact hC.2.2.2.2.2.2⟩
      have ht := hC.1
      unfold tpI at ht ⊢
      rw [e2, e3]; exact ht
    have hTE : TE M1 pl' nm' (M2 128) := by
      refine ⟨tieC_same q2 (fun b b0 b1 b2 => z21 b (by omega) (by omega) (by omega) (by omega) (by omega)), hedA, by rw [q8, z16], fun i i0 i1 => ?_⟩
      rw [z16] at i1
      rw [e21]
      by_cases q : i = M 20 1
      · subst q
        rw [← z8, hpln, hnmn, z11, z12, z13, z14, z10]
        have h4 : M2 128 (1294 + 186 * M 20 1 + 4) = 0 := q15 4 (by decide) (by decide)
        refine ⟨⟨q10, q11, q12, q13, q14⟩, ⟨?_, ⟨by omega, by omega, by omega, by omega, fun k k0 k1 => by omega⟩⟩, fun j j0 j1 => ?_⟩
        · unfold fp
          rw [h4]; rfl
        · have h1 := q16 j j0 j1
          rw [(z9 j j0 j1).2]
          exact h1
      · rw [hplo i q, hnmo i q]
        have h1 := hT.2.2.2 i i0 (by omega)
        have h12 := (TE_e hT i0 (show i < M 20 1 by omega)).2.2.2.2.2
        have r := hr i i0 (by omega)
        rw [r.1, r.2.2]
        have hG : ∀ x, 1294 ≤ x → x < 1294 + 186 * M 20 1 → M2 128 x = M 128 x := fun x x0 x1 => q9 x x0 (by omega)
        refine ⟨?_, ⟨?_, pok_congr (fun x x0 x1 => hG _ (by omega) (by omega)) h1.2.1.2 ⟨h1.2.1.2.1, h1.2.1.2.2.2.2.1⟩⟩, fun j j0 j1 => ?_⟩
        · have a : ∀ p, 0 ≤ p → p < 18 → rE (M2 128) i p = rE (M 128) i p := fun p p0 p1 => hG _ (by omega) (by omega)
          rw [a 0 (by decide) (by decide), a 1 (by decide) (by decide), a 2 (by decide) (by decide), a 3 (by decide) (by decide), a 17 (by decide) (by decide)]
          exact h1.1
        · rw [fp_congr (fun x x0 x1 => hG _ (by omega) (by omega)) h1.2.1.2.2.2.1]; exact h1.2.1.1
        · have h2 := h1.2.2 j j0 j1
          refine ⟨?_, pok_congr (fun x x0 x1 => hG _ (by omega) (by omega)) h2.2.1 ⟨h2.2.1.1, h2.2.1.2.2.2.1⟩, ?_⟩
          · rw [← h2.1]; exact fp_congr (fun x x0 x1 => hG _ (by omega) (by omega)) h2.2.1.2.2.1
          · have a : rcf (M2 128) i j = rcf (M 128) i j := hG _ (by omega) (by omega)
            rw [a]; exact h2.2.2
    have hq : eqC M2 M1 := out_eqC q17
    refine ⟨_, _, N, g, CI_eq hq hCI, TE_eq hq hTE, sR_frame hS (by rw [q4]; exact hS.1.symm) (fun x x0 x1 => q3 x (by omega) x1 (by omega)), ?_, ?_⟩
    · unfold tpT at hP ⊢
      rw [q17.2.2, q17.2.1, o 2 (by decide), o 3 (by decide), e127, e130, e2, e3]
      exact hP
    · unfold rsT at hs ⊢
      rw [q5, q6, q7, q3 4 (by decide) (by decide) (by decide), o 4 (by decide), o 20 (by decide), o 1 (by decide), z18, z19, z17, e1]
      exact ⟨rfl, rfl, rfl, hs.2.2.2⟩
end PS
