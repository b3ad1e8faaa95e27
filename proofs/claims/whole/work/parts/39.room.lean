/-! the place that roomFor finds is free -/
theorem fr_run {p : Int → Prop} {k : Int} (h0 : 0 ≤ k) : ∀ j, k - fr p k ≤ j → j < k → p j := by
  have key : ∀ n : Nat, ∀ j : Int, (n : Int) - fr p n ≤ j → j < n → p j := by
    intro n
    induction n with
    | zero => intro j a b; rw [show ((0 : Nat) : Int) = 0 from rfl, fr_0] at a; omega
    | succ n ih =>
      intro j a b
      rw [Int.natCast_succ] at a b
      by_cases h : p (n : Int)
      · rw [fr_t (by omega) h] at a
        by_cases e : j = n
        · rw [e]; exact h
        · exact ih j (by omega) (by omega)
      · rw [fr_f (by omega) h] at a; omega
  have := key k.toNat
  rw [Int.toNat_of_nonneg h0] at this
  exact this
theorem rmF_spec {p : Int → Prop} {n : Int} (hn : 0 ≤ n) : rmF p n = -1 ∨ (0 ≤ rmF p n ∧ rmF p n + n ≤ 400 ∧ ∀ x, rmF p n ≤ x → x < rmF p n + n → p x) ∨ (n > 400 ∧ 0 ≤ rmF p n) := by
  unfold rmF
  by_cases e : n = 0
  · rw [if_pos e]; right; left; exact ⟨Int.le_refl 0, by omega, fun x a b => by omega⟩
  · rw [if_neg e]
    rcases fnd_spec 400 (fun k => fr p (k + 1) = n) with h | ⟨h0, h1, h2, h3⟩
    · rw [if_pos h.1]; exact Or.inl rfl
    · rw [if_neg (by omega)]
      have hr := fr_rng p (k := fnd 400 (fun k => fr p (k + 1) = n) + 1) (by omega)
      have hrun := fr_run (p := p) (k := fnd 400 (fun k => fr p (k + 1) = n) + 1) (by omega)
      right; left
      generalize fnd 400 (fun k => fr p (k + 1) = n) = q at *
      have h2 : fr p (q + 1) = n := h2
      rw [h2] at hr hrun
      exact ⟨by omega, by omega, fun x a b => hrun x (by omega) (by omega)⟩
/-- pieces are bytes -/
theorem gN_rng {D B : Int → Int} {n m : Int} (hn : n ≤ 40) (hm0 : 0 ≤ m) (hm : m ≤ 40) (hD : ∀ j, 0 ≤ j → j < n → 0 ≤ D j ∧ D j < 256) : ∀ (f : Nat) (i : Int) (o c : List Int), 0 ≤ i → i ≤ n → (c.length : Int) ≤ i → (∀ b ∈ o, 0 ≤ b ∧ b < 256) → (∀ b ∈ c, 0 ≤ b ∧ b < 256) → ∀ b ∈ gN D B n m f i o c, 0 ≤ b ∧ b < 256 := by
  have hfl : ∀ (i : Int) (o c : List Int), i ≤ n → (c.length : Int) ≤ i → (∀ b ∈ o, 0 ≤ b ∧ b < 256) → (∀ b ∈ c, 0 ≤ b ∧ b < 256) → ∀ b ∈ o ++ fl c, 0 ≤ b ∧ b < 256 := by
    intro i o c hin hc ho hcc b hb
    rcases List.mem_append.mp hb with h | h
    · exact ho b h
    · by_cases e : c = []
      · subst e; exact absurd h (by simp [fl])
      · rw [fl_ne e] at h
        rcases List.mem_cons.mp h with h | h
        · omega
        · exact hcc b h
  intro f
  induction f with
  | zero => intro i o c i0 i1 hc ho hcc; exact hfl i o c i1 hc ho hcc
  | succ f ih =>
    intro i o c i0 i1 hc ho hcc
    rw [gN_s]
    by_cases e : n ≤ i
    · rw [if_pos e]; exact hfl i o c i1 hc ho hcc
    · rw [if_neg e]
      have hs := bs_spec D B n m i hm0
      by_cases e2 : 3 ≤ bsL D B n m i
      · rw [if_pos e2]
        rcases hs.2 with h | h
        · omega
        · have hr := rl_rng (D := D) (B := B) i0 i1 hn (show bsP D B n m i ≤ m by omega)
          refine ih _ _ _ (by omega) (by omega) (by simp; omega) (fun b hb => ?_) (fun b hb => absurd hb (by simp))
          rcases List.mem_append.mp hb with h5 | h5
          · exact hfl i o c i1 hc ho hcc b h5
          · simp only [List.mem_cons, List.not_mem_nil, or_false] at h5
            omega
      · rw [if_neg e2]
        refine ih _ _ _ (by omega) (by omega) (by simp; omega) ho (fun b hb => ?_)
        rcases List.mem_append.mp hb with h5 | h5
        · exact hcc b h5
        · simp only [List.mem_cons, List.not_mem_nil, or_false] at h5
          rw [h5]; exact hD i i0 (by omega)
theorem pcs_rng {M : px_mem} {v n c : Int} (hn0 : 0 ≤ n) (hn : n ≤ 40) (hl : 0 ≤ M 57 c ∧ M 57 c ≤ 40) (hbv : ∀ j, 0 ≤ j → j < n → 0 ≤ M v j ∧ M v j < 256) : ∀ b ∈ pcs M v n c, 0 ≤ b ∧ b < 256 :=
  gN_rng hn hl.1 hl.2 hbv 41 0 [] [] (Int.le_refl 0) hn0 (Int.le_refl 0) (fun b hb => absurd hb (by simp)) (fun b hb => absurd hb (by simp))
