/-! the place that roomFor finds is free -/
theorem fr_run {p : Int → Prop} {k : Int} (h0 : 0 ≤ k) : ∀ j, k - fr p k ≤ j → j < k → p j := by
  have key : ∀ n : Nat, ∀ j : Int, (n : Int) - fr p n ≤ j → j < n → p j := by
    intro n
    induction n with
    | zero => intro j a b; rw [show ((0 : Nat) : Int) = 0 from rfl, fr_0] at a; omega
    | succ n ih =>
      intro j a b
      rw [Int.natCast_succ] at a b
      by_cases h : p (n : Int)
      · rw [fr_t (by omega) h] at a
        by_cases e : j = n
        · rw [e]; exact h
        · exact ih j (by omega) (by omega)
      · rw [fr_f (by omega) h] at a; omega
  have := key k.toNat
  rw [Int.toNat_of_nonneg h0] at this
  exact this
theorem rmF_spec {p : Int → Prop} {n : Int} (hn : 0 ≤ n) : rmF p n = -1 ∨ (0 ≤ rmF p n ∧ rmF p n + n ≤ 400 ∧ ∀ x, rmF p n ≤ x → x < rmF p n + n → p x) ∨ (n > 400 ∧ 0 ≤ rmF p n) := by
  unfold rmF
  by_cases e : n = 0
  · rw [if_pos e]; right; left; exact ⟨Int.le_refl 0, by omega, fun x a b => by omega⟩
  · rw [if_neg e]
    rcases fnd_spec 400 (fun k => fr p (k + 1) = n) with h | ⟨h0, h1, h2, h3⟩
    · rw [if_pos h.1]; exact Or.inl rfl
    · rw [if_neg (by omega)]
      have hr := fr_rng p (k := fnd 400 (fun k => fr p (k + 1) = n) + 1) (by omega)
      have hrun := fr_run (p := p) (k := fnd 400 (fun k => fr p (k + 1) = n) + 1) (by omega)
      right; left
      generalize fnd 400 (fun k => fr p (k + 1) = n) = q at *
      have h2 : fr p (q + 1) = n := h2
      rw [h2] at hr hrun
      exact ⟨by omega, by omega, fun x a b => hrun x (by omega) (by omega)⟩
