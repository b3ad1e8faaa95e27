/-! contents of both sides -/
/-- the reference's contents and row are those of the class -/
def tieC (Mc : px_mem) (F : Int → Int) : Prop := ci Mc ∧ (∀ c, 0 ≤ c → c < 40 → (0 ≤ Mc 62 c ∧ rC F c 0 = 1) ∨ (Mc 62 c < 0 ∧ rC F c 0 = 0)) ∧ (∀ c p, 0 ≤ c → c < 40 → 0 ≤ Mc 62 c → 1 ≤ p → p ≤ 5 → rC F c p = cC Mc c p) ∧ ∀ k, 0 ≤ k → k < 400 → F (894 + k) = Mc 53 k
theorem tieC_p {Mc : px_mem} {F : Int → Int} (h : tieC Mc F) {c : Int} (c0 : 0 ≤ c) (c1 : c < 40) (c2 : 0 ≤ Mc 62 c) : rC F c 1 = Mc 57 c ∧ rC F c 2 = Mc 58 c ∧ rC F c 3 = Mc 59 c ∧ rC F c 4 = Mc 60 c ∧ rC F c 5 = Mc 61 c :=
  ⟨h.2.2.1 c 1 c0 c1 c2 (by decide) (by decide), h.2.2.1 c 2 c0 c1 c2 (by decide) (by decide), h.2.2.1 c 3 c0 c1 c2 (by decide) (by decide), h.2.2.1 c 4 c0 c1 c2 (by decide) (by decide), h.2.2.1 c 5 c0 c1 c2 (by decide) (by decide)⟩
theorem tieC_rus {Mc : px_mem} {F : Int → Int} (h : tieC Mc F) : rus F (Mc 62) := h.2.1
theorem tieC_rok {Mc : px_mem} {F : Int → Int} (h : tieC Mc F) : rok F (Mc 62) := by
  refine ⟨fun c c0 c1 c2 => ?_, fun k k0 k1 => ?_⟩
  · have hc := cokC (h.1.1 c c0 c1 c2)
    have hp := tieC_p h c0 c1 c2
    unfold cok
    rw [hp.1, hp.2.1, hp.2.2.1, hp.2.2.2.1, hp.2.2.2.2]
    exact hc
  · show 0 ≤ F (894 + k) ∧ F (894 + k) < 256
    rw [h.2.2.2 k k0 k1]; exact h.1.2.1 k k0 k1
theorem tieC_rd {Mc : px_mem} {F : Int → Int} (h : tieC Mc F) : ∀ (f : Nat) (c : Int), 0 ≤ c → c < 40 → 0 ≤ Mc 62 c → rd (rC F) (fun k => F (894 + k)) f c = rd (cC Mc) (Mc 53) f c := by
  intro f
  induction f with
  | zero => intro c _ _ _; rfl
  | succ f ih =>
    intro c c0 c1 c2
    have hc := h.1.1 c c0 c1 c2
    unfold cok at hc
    have e := fun p => h.2.2.1 c p c0 c1 c2
    rw [rd_s, rd_s, e 5 (by decide) (by decide), e 4 (by decide) (by decide), e 3 (by decide) (by decide), e 1 (by decide) (by decide)]
    by_cases q : cC Mc c 5 < 0
    · rw [if_pos q, if_pos q]
      congr 1
      refine lst_congr (fun k k0 k1 => ?_)
      exact h.2.2.2 _ (by omega) (by omega)
    · have hb : 0 ≤ cC Mc c 5 ∧ cC Mc c 5 < 40 ∧ 0 ≤ Mc 62 (cC Mc c 5) := by omega
      rw [if_neg q, if_neg q, ih _ hb.1 hb.2.1 hb.2.2, h.2.2.1 _ 1 hb.1 hb.2.1 hb.2.2 (by decide) (by decide)]
      cases rd (cC Mc) (Mc 53) f (cC Mc c 5) with
      | none => rfl
      | some l => exact dp_congr (fun k k0 k1 => h.2.2.2 _ (by omega) (by omega)) (fun _ _ _ => rfl)
theorem tieC_rB {Mc : px_mem} {F : Int → Int} (h : tieC Mc F) {c : Int} (c0 : 0 ≤ c) (c1 : c < 40) (c2 : 0 ≤ Mc 62 c) : rB F c = rd (cC Mc) (Mc 53) 5 c := tieC_rd h 5 c c0 c1 c2
/-- what is read, as the class holds it -/
theorem tieC_read {Mc : px_mem} {F : Int → Int} (h : tieC Mc F) {c : Int} (c0 : 0 ≤ c) (c1 : c < 40) (c2 : 0 ≤ Mc 62 c) : (∀ l, rB F c = some l → Mc 104 c ≠ 0 ∧ rdC Mc c = l ∧ (Mc 105 c ≠ 0 ↔ mkl l = rC F c 2)) ∧ (rB F c = none → Mc 104 c = 0 ∧ Mc 105 c = 0) := by
  have hg := h.1.2.2.2.2 c c0 c1 c2
  unfold gd at hg
  have hk := cokC (h.1.1 c c0 c1 c2)
  rw [tieC_rB h c0 c1 c2, (tieC_p h c0 c1 c2).2.1]
  refine ⟨fun l hl => ?_, hg.2⟩
  obtain ⟨g1, g2, g3, g4⟩ := hg.1 l hl
  rw [mkl_lst hk.2.1, g2] at g4
  exact ⟨by omega, g2, by omega⟩
theorem tieC_wh {Mc : px_mem} {F : Int → Int} (h : tieC Mc F) {c : Int} (c0 : 0 ≤ c) (c1 : c < 40) (c2 : 0 ≤ Mc 62 c) : whR F c ↔ Mc 105 c ≠ 0 := by
  have hr := tieC_read h c0 c1 c2
  unfold whR
  cases e : rB F c with
  | none =>
    have := hr.2 e
    exact ⟨fun ⟨l, h1, _⟩ => by simp at h1, fun z => absurd this.2 z⟩
  | some l =>
    have := hr.1 l e
    exact ⟨fun ⟨l2, h1, h2⟩ => this.2.2.mpr (by injection h1 with h1; rw [h1]; exact h2), fun z => ⟨l, rfl, this.2.2.mp z⟩⟩
theorem tieC_bl {Mc : px_mem} {F : Int → Int} (h : tieC Mc F) {c : Int} (c0 : 0 ≤ c) (c1 : c < 40) (c2 : 0 ≤ Mc 62 c) (hw : Mc 105 c ≠ 0) : rB F c = some (rdC Mc c) ∧ rBl F c = rdC Mc c := by
  have hr := tieC_read h c0 c1 c2
  unfold rBl
  cases e : rB F c with
  | none => exact absurd (hr.2 e).2 hw
  | some l =>
    have := (hr.1 l e).2.1
    rw [this]
    exact ⟨rfl, rfl⟩
theorem tieC_isF {Mc : px_mem} {F : Int → Int} (h : tieC Mc F) (D : List Int) {c : Int} (c0 : 0 ≤ c) (c1 : c < 40) : isFR F D c ↔ isFb Mc D c := by
  unfold isFR isFb
  constructor
  · rintro ⟨h1, h2, h3⟩
    have c2 : 0 ≤ Mc 62 c := by have := h.2.1 c c0 c1; omega
    have hr := (tieC_read h c0 c1 c2).1 D h2
    exact ⟨c2, hr.2.2.mpr h3, hr.2.1⟩
  · rintro ⟨c2, h2, h3⟩
    have hb := (tieC_bl h c0 c1 c2 h2).1
    rw [h3] at hb
    have hr := (tieC_read h c0 c1 c2).1 D hb
    exact ⟨by have := h.2.1 c c0 c1; omega, hb, hr.2.2.mp h2⟩
theorem tieC_fnd {Mc : px_mem} {F : Int → Int} (h : tieC Mc F) (D : List Int) : fnd 40 (isFR F D) = fnd 40 (isFb Mc D) := fnd_congr (fun _ j0 j1 => tieC_isF h D j0 j1)
theorem tieC_best {Mc : px_mem} {F : Int → Int} (h : tieC Mc F) (D : List Int) {b l : Int} (hb : isBB (cndR F (Mc 62)) (szR F D) (D.length : Int) 40 b l) : isBl Mc D b l := by
  unfold isBl
  have hc : ∀ x, 0 ≤ x → x < 40 → (cndR F (Mc 62) x ↔ (0 ≤ Mc 62 x ∧ Mc 62 x < 3 ∧ Mc 105 x ≠ 0)) := fun x x0 x1 => by
    unfold cndR
    constructor
    · rintro ⟨a, b, d⟩; exact ⟨a, b, (tieC_wh h x0 x1 a).mp d⟩
    · rintro ⟨a, b, d⟩; exact ⟨a, b, (tieC_wh h x0 x1 a).mpr d⟩
  refine isBB_congr (cand := cndR F (Mc 62)) (sz := szR F D) (fun x x0 x1 => hc x x0 x1) (fun x x0 x1 hx => ?_) hb
  have hx := (hc x x0 x1).mp hx
  unfold szR
  rw [(tieC_bl h x0 x1 hx.1 hx.2.2).2]
theorem tieC_occ {Mc : px_mem} {F : Int → Int} (h : tieC Mc F) {x : Int} (x0 : 0 ≤ x) (x1 : x < 400) : ¬ occ F (Mc 62) x ↔ Mc 54 x < 0 := by
  have ho := h.1.2.2.1
  constructor
  · intro hn
    rcases ho.2 x x0 x1 with z | z
    · omega
    · exfalso
      refine hn ⟨Mc 54 x, z.1, z.2.1, z.2.2.1, ?_⟩
      have hp := tieC_p h z.1 z.2.1 z.2.2.1
      unfold inC
      rw [hp.2.2.1, hp.2.2.2.1]
      exact z.2.2.2
  · rintro hn ⟨c, c0, c1, c2, c3⟩
    have hp := tieC_p h c0 c1 c2
    unfold inC at c3
    rw [hp.2.2.1, hp.2.2.2.1] at c3
    have := ho.1 c c0 c1 c2 x c3.1 c3.2
    omega
theorem tieC_room {Mc : px_mem} {F : Int → Int} (h : tieC Mc F) (n : Int) : rmF (fun x => ¬ occ F (Mc 62) x) n = rmF (fun k => Mc 54 k < 0) n := rmF_congr n (fun _ j0 j1 => tieC_occ h j0 j1)
theorem tieC_bst {Mc : px_mem} {F : Int → Int} (h : tieC Mc F) {D : List Int} {b l : Int} (hb : isBl Mc D b l) : bstR F D b = if b < 0 then D else pcl D (rdC Mc b) := by
  unfold bstR
  by_cases q : b < 0
  · rw [if_pos q, if_pos q]
  · rw [if_neg q, if_neg q]
    rcases hb with z | z
    · omega
    · rw [(tieC_bl h z.1 z.2.1 z.2.2.1.1 z.2.2.1.2.2).2]
/-- one more is kept on both sides -/
theorem tieC_new {Mc Mc' : px_mem} {F F' : Int → Int} {D : List Int} {c c' b l p : Int} {P : Int → Int} (h : tieC Mc F) (hk : knew Mc Mc' D c) (hc : fnd 40 (fun c => Mc 62 c < 0) = c') (hb : isBl Mc D b l) (hp : rmF (fun k => Mc 54 k < 0) l = p) (hP : lst P l = if b < 0 then D else pcl D (rdC Mc b)) (hk2 : keptR F F' c' (D.length : Int) (mkl D) b l p P) : tieC Mc' F' ∧ c' = c := by
  obtain ⟨bb, l2, p2, P2, k1, k2, k3, k4, k5, k6, k7, k8, k9, k10⟩ := hk
  have ec : c' = c := by rw [← hc, k1]
  have hu := isBB_uniq hb k4
  obtain ⟨e1, e2⟩ := hu
  subst e1; subst e2
  have ep : p = p2 := by rw [← hp, k5]
  subst ep
  subst ec
  have hl := isBl_rng hb
  have hPe : ∀ j, 0 ≤ j → j < l → P j = P2 j := by
    have := hP.trans k7.symm
    exact ((lst_inj hl.1 hl.1).mp this).2
  obtain ⟨a1, a2, a3, a4, a5, a6, a7, a8⟩ := k8
  obtain ⟨r1, r2, r3⟩ := hk2
  refine ⟨⟨k9, fun x x0 x1 => ?_, fun x q x0 x1 x2 q0 q1 => ?_, fun k k0 k1' => ?_⟩, rfl⟩
  · rw [r1 x 0 x0 x1 (by decide) (by decide), a6 x]
    by_cases e : x = c'
    · rw [if_pos e, if_pos e, if_pos rfl]
      left
      refine ⟨?_, rfl⟩
      by_cases q : b < 0
      · rw [if_pos q]; exact Int.le_refl 0
      · rw [if_neg q]
        rcases k4 with z | z
        · omega
        · have := z.2.2.1.1; omega
    · rw [if_neg e, if_neg e]; exact h.2.1 x x0 x1
  · rw [r1 x q x0 x1 (by omega) (by omega)]
    have hq : q = 1 ∨ q = 2 ∨ q = 3 ∨ q = 4 ∨ q = 5 := by omega
    by_cases e : x = c'
    · rw [if_pos e]
      rcases hq with e2 | e2 | e2 | e2 | e2 <;> subst e2 <;> (repeat (first | rw [if_pos (by decide)] | rw [if_neg (by decide)]))
      · show _ = Mc' 57 x; rw [a1 x, if_pos e]
      · show _ = Mc' 58 x; rw [a2 x, if_pos e]
      · show _ = Mc' 59 x; rw [a3 x, if_pos e]
      · show _ = Mc' 60 x; rw [a4 x, if_pos e]
      · show _ = Mc' 61 x; rw [a5 x, if_pos e]
    · rw [if_neg e]
      rw [a6 x, if_neg e] at x2
      rw [h.2.2.1 x q x0 x1 x2 q0 q1]
      rcases hq with e2 | e2 | e2 | e2 | e2 <;> subst e2
      · show Mc 57 x = Mc' 57 x; rw [a1 x, if_neg e]
      · show Mc 58 x = Mc' 58 x; rw [a2 x, if_neg e]
      · show Mc 59 x = Mc' 59 x; rw [a3 x, if_neg e]
      · show Mc 60 x = Mc' 60 x; rw [a4 x, if_neg e]
      · show Mc 61 x = Mc' 61 x; rw [a5 x, if_neg e]
  · rw [r2 k k0 k1', a7 k]
    by_cases e : p ≤ k ∧ k < p + l
    · rw [if_pos e, if_pos e]; exact hPe _ (by omega) (by omega)
    · rw [if_neg e, if_neg e]; exact h.2.2.2 k k0 k1'
theorem tieC_same {Mc Mc' : px_mem} {F : Int → Int} (h : tieC Mc F) (hf : ∀ b, 53 ≤ b → b < 106 → b ≠ 55 → Mc' b = Mc b) : tieC Mc' F := by
  refine ⟨ci_congr hf h.1, fun c c0 c1 => by rw [hf 62 (by decide) (by decide) (by decide)]; exact h.2.1 c c0 c1, fun c p c0 c1 c2 p0 p1 => ?_, fun k k0 k1 => by rw [hf 53 (by decide) (by decide) (by decide)]; exact h.2.2.2 k k0 k1⟩
  rw [hf 62 (by decide) (by decide) (by decide)] at c2
  rw [h.2.2.1 c p c0 c1 c2 p0 p1]
  exact (cC_congr (fun b b0 b1 => hf b (by omega) (by omega) (by omega)) c p p0 p1).symm
/-- a frame on the reference's side -/
theorem tieC_frame {Mc : px_mem} {F F' : Int → Int} (h : tieC Mc F) (he : ∀ x, 654 ≤ x → x < 1294 → F' x = F x) : tieC Mc F' :=
  ⟨h.1, fun c c0 c1 => by rw [show rC F' c 0 = rC F c 0 from he _ (by omega) (by omega)]; exact h.2.1 c c0 c1, fun c p c0 c1 c2 p0 p1 => by rw [show rC F' c p = rC F c p from he _ (by omega) (by omega)]; exact h.2.2.1 c p c0 c1 c2 p0 p1, fun k k0 k1 => by rw [he _ (by omega) (by omega)]; exact h.2.2.2 k k0 k1⟩
/-- the steps of keeping, one by one -/
theorem ktr_chain {g : Int → fe} {M : px_mem} : ∀ (k : Nat) (M' : px_mem), ktr g M k M' → ∃ Ms : Nat → px_mem, Ms 0 = M ∧ Ms k = M' ∧ ∀ i : Nat, i < k → ∃ c, kst (Ms i) (Ms (i + 1)) (g (i : Int)).2 i c := by
  intro k
  induction k with
  | zero =>
    intro M' h
    exact ⟨fun _ => M, rfl, h.symm, fun i hi => absurd hi (Nat.not_lt_zero i)⟩
  | succ k ih =>
    intro M' h
    obtain ⟨M2, c, h1, h2⟩ := h
    obtain ⟨Ms, m0, m1, m2⟩ := ih M2 h1
    refine ⟨fun i => if i = k + 1 then M' else Ms i, ?_, ?_, fun i hi => ?_⟩
    · show (if 0 = k + 1 then M' else Ms 0) = M
      rw [if_neg (by omega)]; exact m0
    · show (if k + 1 = k + 1 then M' else Ms (k + 1)) = M'
      rw [if_pos rfl]
    · show ∃ c, kst (if i = k + 1 then M' else Ms i) (if i + 1 = k + 1 then M' else Ms (i + 1)) (g (i : Int)).2 i c
      rw [if_neg (by omega)]
      by_cases e : i = k
      · rw [if_pos (by omega), e, m1]; exact ⟨c, h2⟩
      · rw [if_neg (by omega)]; exact m2 i (by omega)
