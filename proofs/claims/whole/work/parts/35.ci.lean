/-! what holds of contents and row in the class, between calls -/
theorem rd_move {ct ct' : Int → Int → Int} {dd rw rw' s : Int → Int} (hw : cw ct dd) (h1 : ∀ c, 0 ≤ c → c < 40 → 0 ≤ dd c → ct' c 1 = ct c 1 ∧ ct' c 4 = ct c 4 ∧ ct' c 5 = ct c 5 ∧ ct' c 3 = ct c 3 + s c) (h2 : ∀ c, 0 ≤ c → c < 40 → 0 ≤ dd c → ∀ x, ct c 3 ≤ x → x < ct c 3 + ct c 4 → rw' (x + s c) = rw x) : ∀ (f : Nat) (c : Int), 0 ≤ c → c < 40 → 0 ≤ dd c → rd ct' rw' f c = rd ct rw f c := by
  intro f
  induction f with
  | zero => intro c _ _ _; rfl
  | succ f ih =>
    intro c c0 c1 c2
    have hc := hw c c0 c1 c2
    unfold cok at hc
    have h := h1 c c0 c1 c2
    have hb := h2 c c0 c1 c2
    rw [rd_s, rd_s, h.1, h.2.1, h.2.2.1, h.2.2.2]
    by_cases e : ct c 5 < 0
    · rw [if_pos e, if_pos e]
      congr 1
      refine lst_congr (fun k k0 k1 => ?_)
      show rw' (ct c 3 + s c + k) = rw (ct c 3 + k)
      rw [show ct c 3 + s c + k = ct c 3 + k + s c by omega]
      exact hb _ (by omega) (by omega)
    · rw [if_neg e, if_neg e, ih (ct c 5) (by omega) (by omega) (by omega), (h1 (ct c 5) (by omega) (by omega) (by omega)).1]
      cases rd ct rw f (ct c 5) with
      | none => rfl
      | some l =>
        show dp _ _ _ _ _ _ _ _ = dp _ _ _ _ _ _ _ _
        rw [show ct c 3 + s c + ct c 4 = ct c 3 + ct c 4 + s c by omega]
        exact dp_shift (p0 := ct c 3) hb (fun _ _ _ => rfl) _ _ _ (Int.le_refl _)
/-- who owns which place -/
def own (M : px_mem) : Prop :=
  (∀ c, 0 ≤ c → c < 40 → 0 ≤ M 62 c → ∀ x, M 59 c ≤ x → x < M 59 c + M 60 c → M 54 x = c) ∧
  (∀ x, 0 ≤ x → x < 400 → M 54 x = -2 ∨ (0 ≤ M 54 x ∧ M 54 x < 40 ∧ 0 ≤ M 62 (M 54 x) ∧ M 59 (M 54 x) ≤ x ∧ x < M 59 (M 54 x) + M 60 (M 54 x)))
def ci (M : px_mem) : Prop :=
  cw (cC M) (M 62) ∧ bw (M 53) ∧ own M ∧ (∀ c, 0 ≤ c → c < 40 → -1 ≤ M 62 c) ∧ ∀ c, 0 ≤ c → c < 40 → 0 ≤ M 62 c → gd M c
theorem gd_move {M M' : px_mem} {s : Int → Int} {c : Int} (hw : cw (cC M) (M 62)) (c0 : 0 ≤ c) (c1 : c < 40) (c2 : 0 ≤ M 62 c) (hg : gd M c) (h1 : ∀ c, 0 ≤ c → c < 40 → 0 ≤ M 62 c → M' 57 c = M 57 c ∧ M' 58 c = M 58 c ∧ M' 60 c = M 60 c ∧ M' 61 c = M 61 c ∧ M' 59 c = M 59 c + s c) (h2 : ∀ c, 0 ≤ c → c < 40 → 0 ≤ M 62 c → ∀ x, M 59 c ≤ x → x < M 59 c + M 60 c → M' 53 (x + s c) = M 53 x) (h3 : M' (64 + c) = M (64 + c)) (h4 : M' 104 c = M 104 c) (h5 : M' 105 c = M 105 c) : gd M' c := by
  unfold gd at hg ⊢
  have e : rd (cC M') (M' 53) 5 c = rd (cC M) (M 53) 5 c := rd_move (s := s) hw (fun c a b d => by have := h1 c a b d; exact ⟨this.1, this.2.2.1, this.2.2.2.1, this.2.2.2.2⟩) h2 5 c c0 c1 c2
  have h := h1 c c0 c1 c2
  rw [e, h3, h4, h5, h.1, h.2.1]
  exact hg
/-- a frame for all that concerns contents and row -/
theorem ci_congr {M M' : px_mem} (h : ∀ b, 53 ≤ b → b < 106 → b ≠ 55 → M' b = M b) (hc : ci M) : ci M' := by
  obtain ⟨h1, h2, h3, h4, h5⟩ := hc
  have e := fun b b0 b1 b2 => h b b0 b1 b2
  refine ⟨?_, ?_, ?_, ?_, ?_⟩
  · rw [h 62 (by decide) (by decide) (by decide)]
    exact cw_congr (cC_congr (fun b b0 b1 => h b (by omega) (by omega) (by omega))) h1
  · rw [h 53 (by decide) (by decide) (by decide)]; exact h2
  · unfold own at h3 ⊢
    rw [h 62 (by decide) (by decide) (by decide), h 59 (by decide) (by decide) (by decide), h 60 (by decide) (by decide) (by decide), h 54 (by decide) (by decide) (by decide)]
    exact h3
  · rw [h 62 (by decide) (by decide) (by decide)]; exact h4
  · rw [h 62 (by decide) (by decide) (by decide)]
    intro c c0 c1 c2
    exact gd_keep (h5 c c0 c1 c2) (fun b b0 b1 => h b (by omega) (by omega) (by omega)) (h 53 (by decide) (by decide) (by decide)) (h (64 + c) (by omega) (by omega) (by omega)) (by rw [h 104 (by decide) (by decide) (by decide)]) (by rw [h 105 (by decide) (by decide) (by decide)])
