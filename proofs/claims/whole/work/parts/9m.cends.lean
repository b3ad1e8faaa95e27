/-! the rounds of a cure end -/
theorem mdW_67 {M M1 M' : px_mem} {c : Int} {D : List Int} (h : eq67 M M1) (c0 : 0 ≤ c) (c1 : c < 40) (hb : 0 ≤ M 61 c → M 61 c < 40) (hw : mdW M1 M' c D) : mdW M M' c D := by
  obtain ⟨P, p1, p2, p3, p4⟩ := hw
  have e61 := h 61 (by decide) (by decide)
  refine ⟨P, ?_, fun x => ?_, fun b b0 b1' => ?_, p4⟩
  · rw [h 60 (by decide) (by decide), e61] at p1
    rw [p1]
    by_cases q : M 61 c < 0
    · rw [if_pos q, if_pos q]
    · rw [if_neg q, if_neg q, eq67_rdC h (by omega) (hb (by omega))]
  · rw [p2 x, h 59 (by decide) (by decide), h 60 (by decide) (by decide), h 53 (by decide) (by decide)]
  · rw [p3 b b0 b1', h b (by omega) (by omega)]
theorem rd_other {M M' : px_mem} {c0 : Int} {D : List Int} (hci : ci M) (hc0 : 0 ≤ c0 ∧ c0 < 40 ∧ 0 ≤ M 62 c0) (hw : mdW M M' c0 D) : ∀ (f : Nat) (c : Int), 0 ≤ c → c < 40 → 0 ≤ M 62 c → c ≠ c0 → M 62 c ≤ M 62 c0 → rd (cC M') (M' 53) f c = rd (cC M) (M 53) f c := by
  obtain ⟨P, p1, p2, p3, p4⟩ := hw
  intro f
  induction f with
  | zero => intro c _ _ _ _ _; rfl
  | succ f ih =>
    intro c a0 a1 a2 a3 a4
    have hk := hci.1 c a0 a1 a2
    unfold cok at hk
    have hrow : ∀ x, cC M c 3 ≤ x → x < cC M c 3 + cC M c 4 → M' 53 x = M 53 x := fun x x0 x1 => by
      rw [p2 x, if_neg]
      rintro ⟨z0, z1⟩
      have h1 := hci.2.2.1.1 c a0 a1 a2 x x0 x1
      have h2 := hci.2.2.1.1 c0 hc0.1 hc0.2.1 hc0.2.2 x z0 z1
      omega
    have e := fun c => cC_congr (M := M) (M' := M') (fun b b0 b1' => p3 b (by omega) (by omega)) c
    rw [rd_s, rd_s, e c 5 (by decide) (by decide), e c 4 (by decide) (by decide), e c 3 (by decide) (by decide), e c 1 (by decide) (by decide)]
    by_cases q : cC M c 5 < 0
    · rw [if_pos q, if_pos q]
      congr 1
      exact lst_congr (fun k k0 k1 => hrow _ (by omega) (by omega))
    · have hb : 0 ≤ cC M c 5 ∧ cC M c 5 < 40 ∧ 0 ≤ M 62 (cC M c 5) ∧ M 62 c = M 62 (cC M c 5) + 1 := by omega
      rw [if_neg q, if_neg q, ih _ hb.1 hb.2.1 hb.2.2.1 (by intro z; rw [z] at hb; omega) (by omega), e _ 1 (by decide) (by decide)]
      cases rd (cC M) (M 53) f (cC M c 5) with
      | none => rfl
      | some l => exact dp_congr (fun k k0 k1 => hrow k k0 k1) (fun _ _ _ => rfl)
theorem gd_same {M M' : px_mem} {c : Int} (h : gd M c) (h' : gd M' c) (e : rd (cC M') (M' 53) 5 c = rd (cC M) (M 53) 5 c) (hm : M' 58 c = M 58 c) (hk : 0 ≤ M 57 c ∧ 0 ≤ M' 57 c) : (M' 105 c ≠ 0 ↔ M 105 c ≠ 0) ∧ (M 105 c ≠ 0 → rdC M' c = rdC M c) := by
  unfold gd at h h'
  rw [e] at h'
  cases er : rd (cC M) (M 53) 5 c with
  | none =>
    have a := (h.2 er).2
    have b := (h'.2 er).2
    exact ⟨⟨fun z => absurd b z, fun z => absurd a z⟩, fun z => absurd a z⟩
  | some l =>
    obtain ⟨a1, a2, a3, a4⟩ := h.1 l er
    obtain ⟨b1', b2, b3, b4⟩ := h'.1 l er
    rw [mkl_lst hk.1, a2] at a4
    rw [mkl_lst hk.2, b2, hm] at b4
    have e1 : rdC M c = l := a2
    have e2 : rdC M' c = l := b2
    exact ⟨by omega, fun _ => by rw [e1, e2]⟩
theorem mdW_other {M M' : px_mem} {c0 c : Int} {D : List Int} (hci : ci M) (hc0 : 0 ≤ c0 ∧ c0 < 40 ∧ 0 ≤ M 62 c0) (hw : mdW M M' c0 D) (a0 : 0 ≤ c) (a1 : c < 40) (a2 : 0 ≤ M 62 c) (a3 : c ≠ c0) (a4 : M 62 c ≤ M 62 c0) : (M' 105 c ≠ 0 ↔ M 105 c ≠ 0) ∧ (M 105 c ≠ 0 → rdC M' c = rdC M c) := by
  have hk := cokC (hci.1 c a0 a1 a2)
  obtain ⟨P, p1, p2, p3, p4⟩ := hw
  have e62 := p3 62 (by decide) (by decide)
  exact gd_same (hci.2.2.2.2 c a0 a1 a2) (p4.2.2.2.2 c a0 a1 (by rw [e62]; exact a2)) (rd_other hci hc0 ⟨P, p1, p2, p3, p4⟩ 5 c a0 a1 a2 a3 a4) (by rw [p3 58 (by decide) (by decide)]) ⟨hk.2.1, by rw [p3 57 (by decide) (by decide)]; exact hk.2.1⟩
theorem mdW_whole {M M' : px_mem} {c : Int} {D : List Int} (hci : ci M) (hc : 0 ≤ c ∧ c < 40 ∧ 0 ≤ M 62 c) (hD : D.length ≤ 40) (hok : mdOk M c D) (hw : mdW M M' c D) : M' 105 c ≠ 0 := by
  have hw0 := hw
  obtain ⟨P, p1, p2, p3, p4⟩ := hw
  have hk := hci.1 c hc.1 hc.2.1 hc.2.2
  have hkc := cokC hk
  have e62 := p3 62 (by decide) (by decide)
  have e57 := p3 57 (by decide) (by decide)
  have e58 := p3 58 (by decide) (by decide)
  have hcw := p4.1
  have hrd : rd (cC M') (M' 53) 5 c = some D := by
    rw [rd_eq hcw hc.1 hc.2.1 (by rw [e62]; exact hc.2.2)]
    have e := fun c => cC_congr (M := M) (M' := M') (fun b b0 b1' => p3 b (by omega) (by omega)) c
    rw [e c 5 (by decide) (by decide), e c 4 (by decide) (by decide), e c 3 (by decide) (by decide), e c 1 (by decide) (by decide)]
    have hrow : ∀ t, 0 ≤ t → t < M 60 c → M' 53 (M 59 c + t) = P t := fun t t0 t1 => by
      rw [p2, if_pos (by omega), show M 59 c + t - M 59 c = t by omega]
    by_cases q : M 61 c < 0
    · have q' : cC M c 5 < 0 := q
      rw [if_pos q']
      rw [if_pos q] at p1
      congr 1
      rw [← p1]
      have e4 : M 60 c = M 57 c := by omega
      show lst (fun k => M' 53 (M 59 c + k)) (M 57 c) = lst P (M 60 c)
      rw [← e4]
      exact lst_congr (fun k k0 k1 => hrow k k0 k1)
    · have q' : ¬ cC M c 5 < 0 := q
      rw [if_neg q']
      rw [if_neg q] at p1
      have hbb : 0 ≤ M 61 c ∧ M 61 c < 40 ∧ 0 ≤ M 62 (M 61 c) ∧ M 62 c = M 62 (M 61 c) + 1 := by omega
      have hb2 := hok.2
      have hb3 : M 105 (M 61 c) ≠ 0 ∧ ((pcl D (rdC M (M 61 c))).length : Int) = M 60 c := by
        rcases hb2 with z | z
        · omega
        · exact z
      have hro := rd_other hci hc hw0 5 (M 61 c) hbb.1 hbb.2.1 hbb.2.2.1 (by intro z; rw [z] at hbb; omega) (by omega)
      have hgb := hci.2.2.2.2 _ hbb.1 hbb.2.1 hbb.2.2.1
      have hkb := cokC (hci.1 _ hbb.1 hbb.2.1 hbb.2.2.1)
      have hsome : rd (cC M) (M 53) 5 (M 61 c) = some (rdC M (M 61 c)) := by
        unfold gd at hgb
        cases er : rd (cC M) (M 53) 5 (M 61 c) with
        | none => exact absurd (hgb.2 er).2 hb3.1
        | some l => rw [← (hgb.1 l er).2.1]; rfl
      rw [hsome] at hro
      show (match rd (cC M') (M' 53) 5 (M 61 c) with
        | none => none
        | some l => dp (M' 53) (nth l) (cC M' (M 61 c) 1) (M 59 c + M 60 c) (M 57 c) 401 (M 59 c) []) = some D
      rw [hro]
      have hl1 : ((rdC M (M 61 c)).length : Int) = M 57 (M 61 c) := lst_len hkb.2.1
      have e1 : cC M' (M 61 c) 1 = ((rdC M (M 61 c)).length : Int) := by rw [e _ 1 (by decide) (by decide), hl1]; rfl
      show dp (M' 53) (nth (rdC M (M 61 c))) (cC M' (M 61 c) 1) (M 59 c + M 60 c) (M 57 c) 401 (M 59 c) [] = some D
      rw [e1, ← hok.1.1, ← hb3.2]
      refine dp_pcl hD (by omega) (fun t t0 t1 => ?_) (fun k k0 k1 => rfl)
      rw [hrow t t0 (by omega)]
      have hP2 : lst P (M 60 c) = lst (nth (pcl D (rdC M (M 61 c)))) (M 60 c) := by rw [p1, ← hb3.2, lst_nth]
      exact lst_at hP2 t0 (by omega)
  have hg := p4.2.2.2.2 c hc.1 hc.2.1 (by rw [e62]; exact hc.2.2)
  unfold gd at hg
  obtain ⟨g1, g2, g3, g4⟩ := hg.1 D hrd
  rw [mkl_lst (by rw [e57]; exact hkc.2.1), g2, e58] at g4
  have := g4.mpr hok.1.2
  omega
/-- nothing more comes of it -/
def fxd (N : Int) (g : Int → fe) (M : px_mem) (c : Int) : Prop := M 105 c ≠ 0 ∨ ∀ i, 0 ≤ i → i < N → ¬ mdOk M c (g i).2
def Stl (N : Int) (g : Int → fe) (M : px_mem) (r : Int) : Prop := ∀ c, 0 ≤ c → c < 40 → 0 ≤ M 62 c → M 62 c < r → fxd N g M c
theorem fxd_67 {N : Int} {g : Int → fe} {M M' : px_mem} {c : Int} (h : eq67 M M') (hci : ci M) (c0 : 0 ≤ c) (c1 : c < 40) (c2 : 0 ≤ M 62 c) (hf : fxd N g M c) : fxd N g M' c := by
  unfold fxd at hf ⊢
  rw [h 105 (by decide) (by decide)]
  exact hf.imp id (fun z i i0 i1 y => z i i0 i1 ((eq67_mdOk h hci c0 c1 c2 _).mp y))
theorem fxd_other {N : Int} {g : Int → fe} {M M' : px_mem} {c c0 : Int} {D : List Int} (hci : ci M) (hc0 : 0 ≤ c0 ∧ c0 < 40 ∧ 0 ≤ M 62 c0) (hw : mdW M M' c0 D) (a0 : 0 ≤ c) (a1 : c < 40) (a2 : 0 ≤ M 62 c) (a3 : c ≠ c0) (a4 : M 62 c ≤ M 62 c0) (hf : fxd N g M c) : fxd N g M' c := by
  have h1 := mdW_other hci hc0 hw a0 a1 a2 a3 a4
  rcases hf with z | z
  · exact Or.inl (h1.1.mpr z)
  · right
    intro i i0 i1 y
    refine z i i0 i1 ?_
    have hk := hci.1 c a0 a1 a2
    unfold cok at hk
    have hw2 := hw
    obtain ⟨P, p1, p2, p3, p4⟩ := hw
    unfold mdOk mdFit at y ⊢
    rw [p3 57 (by decide) (by decide), p3 58 (by decide) (by decide), p3 60 (by decide) (by decide), p3 61 (by decide) (by decide)] at y
    refine ⟨y.1, y.2.imp id (fun w => ?_)⟩
    by_cases q : M 61 c < 0
    · have hb := fun b0 => mdW_other hci hc0 hw2 (c := M 61 c) b0
      exact absurd w.2 (fun w2 => by
        have h60 : (0 : Int) ≤ 0 := Int.le_refl 0
        exact absurd y.2 (fun _ => (by
          have := w.1
          have q2 : cC M c 5 < 0 := q
          exact (by
            rcases y.2 with y2 | y2
            · exact z i i0 i1 ⟨y.1, Or.inl y2⟩
            · exact z i i0 i1 ⟨y.1, Or.inl q⟩)))) 
    · have q2 : ¬ cC M c 5 < 0 := q
      have hbb : 0 ≤ M 61 c ∧ M 61 c < 40 ∧ 0 ≤ M 62 (M 61 c) ∧ M 62 c = M 62 (M 61 c) + 1 := by
        have e5 : cC M c 5 = M 61 c := rfl
        rw [e5] at hk
        omega
      have hb := mdW_other hci hc0 hw2 hbb.1 hbb.2.1 hbb.2.2.1 (by intro z2; rw [z2] at hbb; omega) (by omega)
      have w1 := hb.1.mp w.1
      rw [hb.2 w1] at w
      exact ⟨w1, w.2⟩
/-- a step of a round -/
theorem crst_Stl {N : Int} {g : Int → fe} {M M' : px_mem} {k d r : Int} (hci : ci M) (hst : stC M N g) (k0 : 0 ≤ k) (k1 : k < 40) (h : crst N g M M' k d) (hS : Stl N g M r) (hk : ∀ c, 0 ≤ c → c < k → 0 ≤ M 62 c → M 62 c = r → fxd N g M c) : Stl N g M' r ∧ (∀ c, 0 ≤ c → c < k + 1 → 0 ≤ M' 62 c → M' 62 c = r → fxd N g M' c) ∧ (0 < d → 0 ≤ M 62 k ∧ r ≤ M 62 k) := by
  have hkeep := crst_keep h hci hst
  have e62 : M' 62 = M 62 := hkeep.2.2.2.2 62 (by decide) (by decide)
  rcases h with ⟨h1, h2, h3, i, M1, h4, i0, i1, h5, h6, h7⟩ | ⟨h1, h2, h3⟩
  · have hkc := hci.1 k k0 k1 h1
    unfold cok at hkc
    have hw : mdW M M' k (g i).2 := mdW_67 h4 k0 k1 (fun z => by have e5 : cC M k 5 = M 61 k := rfl; rw [e5] at hkc; omega) h7
    have hnf : ¬ fxd N g M k := fun z => by
      rcases z with y | y
      · exact y h2
      · exact y i i0 i1 h5
    have hr : r ≤ M 62 k := by
      rcases Int.lt_or_le (M 62 k) r with q | q
      · exact absurd (hS k k0 k1 h1 q) hnf
      · exact q
    refine ⟨fun c c0 c1 c2 c3 => ?_, fun c c0 c1 c2 c3 => ?_, fun _ => ⟨h1, hr⟩⟩
    · rw [e62] at c2 c3
      have hf := hS c c0 c1 c2 c3
      exact fxd_other hci ⟨k0, k1, h1⟩ hw c0 c1 c2 (by intro z; rw [z] at c3; omega) (by omega) hf
    · rw [e62] at c2 c3
      by_cases q : c = k
      · left
        rw [q]
        have fi := hst.2.2.2.2 i i0 i1
        exact mdW_whole hci ⟨k0, k1, h1⟩ (by have := fi.2.2.1; have := fi.2.2.2.1; omega) h5 hw
      · exact fxd_other hci ⟨k0, k1, h1⟩ hw c0 (by omega) c2 q (by omega) (hk c c0 (by omega) c2 c3)
  · refine ⟨fun c c0 c1 c2 c3 => ?_, fun c c0 c1 c2 c3 => ?_, fun z => by omega⟩
    · rw [e62] at c2 c3
      exact fxd_67 h3 hci c0 c1 c2 (hS c c0 c1 c2 c3)
    · rw [e62] at c2 c3
      by_cases q : c = k
      · rw [q]
        refine fxd_67 h3 hci k0 k1 (by rw [← q]; exact c2) ?_
        unfold fxd
        by_cases y : M 105 k = 0
        · right
          intro i i0 i1 w
          exact h1 ⟨by rw [← q]; exact c2, y, i, i0, i1, w⟩
        · exact Or.inl y
      · exact fxd_67 h3 hci c0 (by omega) c2 (hk c c0 (by omega) c2 c3)
theorem crtr_Stl {N : Int} {g : Int → fe} {M : px_mem} {r : Int} (hci : ci M) (hst : stC M N g) (hS : Stl N g M r) : ∀ (k : Nat) (M' : px_mem) (n : Int), (k : Int) ≤ 40 → crtr N g M k M' n → ci M' ∧ stC M' N g ∧ Stl N g M' r ∧ (∀ c, 0 ≤ c → c < (k : Int) → 0 ≤ M' 62 c → M' 62 c = r → fxd N g M' c) ∧ 0 ≤ n ∧ (4 ≤ r → n = 0) := by
  intro k
  induction k with
  | zero =>
    intro M' n _ h
    obtain ⟨h1, h2⟩ := h
    subst h1
    exact ⟨hci, hst, hS, fun c c0 c1 => by omega, by omega, fun _ => h2⟩
  | succ k ih =>
    intro M' n hk h
    obtain ⟨M1, n1, d, h1, h2, h3⟩ := h
    obtain ⟨a1, a2, a3, a4, a5, a6⟩ := ih M1 n1 (by omega) h1
    have hkeep := crst_keep h2 a1 a2
    obtain ⟨b1', b2, b3⟩ := crst_Stl a1 a2 (by omega) (by omega) h2 a3 a4
    refine ⟨hkeep.1, hkeep.2.1, b1', fun c c0 c1 => b2 c c0 (by omega), by omega, fun q => ?_⟩
    have := a6 q
    rcases (by omega : d = 0 ∨ 0 < d) with z | z
    · omega
    · have := b3 z
      have hk3 := (a1.1 k (by omega) (by omega) this.1).1
      omega
/-- rounds that mend are four at most -/
theorem rdtr_end {N : Int} {g : Int → fe} {M : px_mem} (hci : ci M) (hst : stC M N g) : ∀ (k : Nat) (M' : px_mem) (n : Int), rdtr N g M k M' n → k ≤ 4 ∧ ci M' ∧ stC M' N g ∧ Stl N g M' (k : Int) ∧ 0 ≤ n := by
  intro k
  induction k with
  | zero =>
    intro M' n h
    obtain ⟨h1, h2⟩ := h
    subst h1
    exact ⟨by decide, hci, hst, fun c c0 c1 c2 c3 => by omega, by omega⟩
  | succ k ih =>
    intro M' n h
    obtain ⟨M1, n1, d, h1, h2, h3, h4⟩ := h
    obtain ⟨a1, a2, a3, a4, a5⟩ := ih M1 n1 h1
    obtain ⟨b1', b2, b3, b4, b5, b6⟩ := crtr_Stl a2 a3 a4 40 M' d (by decide) h2
    refine ⟨?_, b1', b2, fun c c0 c1 c2 c3 => ?_, by omega⟩
    · rcases (by omega : k < 4 ∨ k = 4) with z | z
      · omega
      · have := b6 (by omega); omega
    · rcases (by omega : M' 62 c < (k : Int) ∨ M' 62 c = (k : Int)) with z | z
      · exact b3 c c0 c1 c2 z
      · exact b4 c c0 c1 c2 z
