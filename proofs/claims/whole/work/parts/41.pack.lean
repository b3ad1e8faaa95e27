/-! packing: places anew, from the left on -/
/-- who owns which place: depths (below 0: not there), places, kept, owners -/
def ownG (dd pl kp ow : Int → Int) : Prop :=
  (∀ c, 0 ≤ c → c < 40 → 0 ≤ dd c → ∀ x, pl c ≤ x → x < pl c + kp c → ow x = c) ∧
  (∀ x, 0 ≤ x → x < 400 → ow x = -2 ∨ (0 ≤ ow x ∧ ow x < 40 ∧ 0 ≤ dd (ow x) ∧ pl (ow x) ≤ x ∧ x < pl (ow x) + kp (ow x)))
theorem own_G (M : px_mem) : own M ↔ ownG (M 62) (M 59) (M 60) (M 54) := Iff.rfl
def inR (dd pl kp : Int → Int) : Prop := ∀ c, 0 ≤ c → c < 40 → 0 ≤ dd c → 0 ≤ pl c ∧ 0 ≤ kp c ∧ pl c + kp c ≤ 400
/-- where the next one comes to -/
def pkE (ow pl kp : Int → Int) (k : Int) : Int := sm k (fun q => if 0 ≤ ow q ∧ pl (ow q) = q then kp (ow q) else 0)
/-- how many bytes have moved -/
def pkN (ow pl kp : Int → Int) (k : Int) : Int := sm k (fun q => if (0 ≤ ow q ∧ pl (ow q) = q) ∧ q ≠ pkE ow pl kp q then kp (ow q) else 0)
section PK
variable {dd pl kp ow : Int → Int}
theorem pkE_y (h : ownG dd pl kp ow) (hr : inR dd pl kp) : ∀ k : Nat, (k : Int) ≤ 400 → ∀ y, (k : Int) ≤ y → y ≤ 400 → (0 < (k : Int) → ow ((k : Int) - 1) < 0 ∨ pl (ow ((k : Int) - 1)) + kp (ow ((k : Int) - 1)) ≤ y) → pkE ow pl kp k ≤ y := by
  intro k
  induction k with
  | zero => intro _ y h1 _ _; exact h1
  | succ k ih =>
    intro hk y h1 h2 h3
    rw [Int.natCast_succ] at *
    have h3 := h3 (by omega)
    rw [show (k : Int) + 1 - 1 = k by omega] at h3
    have ih := ih (by omega)
    unfold pkE at ih ⊢
    rw [sm_s (by omega)]
    generalize (sm (k : Int) fun q => if 0 ≤ ow q ∧ pl (ow q) = q then kp (ow q) else 0) = E at *
    have o2 := h.2 k (by omega) (by omega)
    have o1 := fun q : 0 < (k : Int) => h.2 ((k : Int) - 1) (by omega) (by omega)
    have ok : 0 ≤ ow k → 0 ≤ pl (ow k) ∧ 0 ≤ kp (ow k) ∧ pl (ow k) + kp (ow k) ≤ 400 := fun q => hr (ow k) (by omega) (by omega) (by omega)
    have hend : 0 < (k : Int) → ow ((k : Int) - 1) < 0 ∨ pl (ow ((k : Int) - 1)) + kp (ow ((k : Int) - 1)) ≤ k ∨ ow k = ow ((k : Int) - 1) := fun q => by
      have := o1 q
      by_cases e : ow ((k : Int) - 1) < 0
      · exact Or.inl e
      · by_cases e2 : pl (ow ((k : Int) - 1)) + kp (ow ((k : Int) - 1)) ≤ k
        · exact Or.inr (Or.inl e2)
        · exact Or.inr (Or.inr (h.1 _ (by omega) (by omega) (by omega) k (by omega) (by omega)))
    by_cases e : 0 ≤ ow k ∧ pl (ow k) = k
    · rw [if_pos e]
      have := ih (y - kp (ow k)) (by omega) (by omega) (fun q => by
        have a := hend q
        have b := o1 q
        rcases a with a | a | a
        · exact Or.inl a
        · right; omega
        · rw [a] at e; omega)
      omega
    · rw [if_neg e]
      have := ih y (by omega) h2 (fun q => by
        have a := hend q
        rcases a with a | a | a
        · exact Or.inl a
        · right; omega
        · rw [a] at h3; exact h3)
      omega
theorem pkE_lo (h : ownG dd pl kp ow) (hr : inR dd pl kp) {k c : Int} (k0 : 0 ≤ k) (c0 : 0 ≤ c) (c1 : c < 40) (c2 : 0 ≤ dd c) (c3 : 0 < kp c) (hk : k ≤ pl c) : pkE ow pl kp k ≤ pl c := by
  have hc := hr c c0 c1 c2
  have := pkE_y h hr k.toNat (by omega) (pl c) (by omega) (by omega) (fun q => by
    rw [Int.toNat_of_nonneg k0] at *
    have o1 := h.2 (k - 1) (by omega) (by omega)
    have oc := h.1 c c0 c1 c2 (pl c) (by omega) (by omega)
    by_cases e : ow (k - 1) < 0
    · exact Or.inl e
    · right
      have := h.1 (ow (k - 1)) (by omega) (by omega) (by omega) (pl c) (by omega)
      by_cases e2 : pl (ow (k - 1)) + kp (ow (k - 1)) ≤ pl c
      · exact e2
      · have := this (by omega)
        rw [oc] at this
        rw [← this] at o1
        omega)
  rw [Int.toNat_of_nonneg k0] at this
  exact this
theorem pkE_mono (h : ownG dd pl kp ow) (hr : inR dd pl kp) : ∀ (n : Nat) (k : Int), 0 ≤ k → k + n ≤ 400 → pkE ow pl kp k ≤ pkE ow pl kp (k + n) := by
  intro n
  induction n with
  | zero => intro k _ _; rw [show k + ((0 : Nat) : Int) = k by omega]; exact Int.le_refl _
  | succ n ih =>
    intro k k0 k1
    rw [Int.natCast_succ] at *
    have ih := ih k k0 (by omega)
    have o2 := h.2 (k + n) (by omega) (by omega)
    have ok : 0 ≤ ow (k + n) → 0 ≤ kp (ow (k + n)) := fun q => (hr (ow (k + n)) (by omega) (by omega) (by omega)).2.1
    unfold pkE at *
    rw [← Int.add_assoc, sm_s (i := k + n) (by omega)]
    split
    · rename_i e; have := ok e.1; omega
    · omega
theorem pkE_hi (h : ownG dd pl kp ow) (hr : inR dd pl kp) {k c : Int} (hk : k ≤ 400) (c0 : 0 ≤ c) (c1 : c < 40) (c2 : 0 ≤ dd c) (c3 : 0 < kp c) (hp : pl c < k) : pkE ow pl kp (pl c) + kp c ≤ pkE ow pl kp k := by
  have hc := hr c c0 c1 c2
  have oc := h.1 c c0 c1 c2 (pl c) (by omega) (by omega)
  have hm := pkE_mono h hr (k - (pl c + 1)).toNat (pl c + 1) (by omega) (by omega)
  rw [show pl c + 1 + ((k - (pl c + 1)).toNat : Int) = k by omega] at hm
  have e : pkE ow pl kp (pl c + 1) = pkE ow pl kp (pl c) + kp c := by
    unfold pkE
    rw [sm_s hc.1, oc, if_pos ⟨c0, rfl⟩]
  omega
theorem pkE_rng (h : ownG dd pl kp ow) (hr : inR dd pl kp) {k : Int} (k0 : 0 ≤ k) (hk : k ≤ 400) : 0 ≤ pkE ow pl kp k ∧ pkE ow pl kp k ≤ 400 := by
  have h1 := pkE_mono h hr k.toNat 0 (by omega) (by omega)
  rw [show (0 : Int) + (k.toNat : Int) = k by omega] at h1
  have h2 := pkE_y h hr k.toNat (by omega) 400 (by omega) (by omega) (fun q => by
    rw [Int.toNat_of_nonneg k0] at *
    have o1 := h.2 (k - 1) (by omega) (by omega)
    by_cases e : ow (k - 1) < 0
    · exact Or.inl e
    · exact Or.inr (hr (ow (k - 1)) (by omega) (by omega) (by omega)).2.2)
  rw [Int.toNat_of_nonneg k0] at h2
  have h3 : pkE ow pl kp 0 = 0 := rfl
  omega
/-- the work half done -/
def pkI (dd pl kp ow rw : Int → Int) (pl' ow' rw' : Int → Int) (k : Int) : Prop :=
  (∀ c, 0 ≤ c → c < 40 → 0 ≤ dd c → pl' c = if 0 < kp c ∧ pl c < k then pkE ow pl kp (pl c) else pl c) ∧
  (∀ c, 0 ≤ c → c < 40 → 0 ≤ dd c → ∀ x, 0 ≤ x → x < kp c → rw' (pl' c + x) = rw (pl c + x)) ∧ ownG dd pl' kp ow'
theorem pkI_0 {rw : Int → Int} (h : ownG dd pl kp ow) (hr : inR dd pl kp) : pkI dd pl kp ow rw pl ow rw 0 :=
  ⟨fun c c0 c1 c2 => by rw [if_neg]; have := hr c c0 c1 c2; omega, fun _ _ _ _ _ _ _ => rfl, h⟩
/-- whether a place is the first of one, now as before -/
theorem pkI_st {rw pl' ow' rw' : Int → Int} {k : Int} (h : ownG dd pl kp ow) (hr : inR dd pl kp) (hi : pkI dd pl kp ow rw pl' ow' rw' k) (k0 : 0 ≤ k) (k1 : k < 400) : (0 ≤ ow' k ∧ pl' (ow' k) = k ↔ 0 ≤ ow k ∧ pl (ow k) = k) ∧ (0 ≤ ow' k ∧ pl' (ow' k) = k → ow' k = ow k ∧ 0 < kp (ow k) ∧ 0 ≤ ow k ∧ ow k < 40 ∧ 0 ≤ dd (ow k)) := by
  obtain ⟨i1, i2, i3⟩ := hi
  have key : 0 ≤ ow' k ∧ pl' (ow' k) = k → ow' k = ow k ∧ (0 ≤ ow k ∧ pl (ow k) = k) ∧ 0 < kp (ow k) ∧ 0 ≤ ow k ∧ ow k < 40 ∧ 0 ≤ dd (ow k) := by
    intro ⟨a, b⟩
    have o := i3.2 k k0 k1
    have p := i1 (ow' k) (by omega) (by omega) (by omega)
    have r := hr (ow' k) (by omega) (by omega) (by omega)
    have hkp : 0 < kp (ow' k) := by omega
    have e : pl (ow' k) = k := by
      by_cases q : 0 < kp (ow' k) ∧ pl (ow' k) < k
      · rw [if_pos q] at p
        have := pkE_lo h hr r.1 (by omega) (by omega) (by omega) hkp (Int.le_refl (pl (ow' k)))
        omega
      · rw [if_neg q] at p; omega
    have e2 := h.1 (ow' k) (by omega) (by omega) (by omega) k (by omega) (by omega)
    rw [e2]
    exact ⟨rfl, ⟨a, e⟩, hkp, by omega, by omega, by omega⟩
  refine ⟨⟨fun q => (key q).2.1, fun ⟨a, b⟩ => ?_⟩, fun q => ⟨(key q).1, (key q).2.2⟩⟩
  have o := h.2 k k0 k1
  have p := i1 (ow k) (by omega) (by omega) (by omega)
  rw [if_neg (by omega)] at p
  have e := i3.1 (ow k) (by omega) (by omega) (by omega) k (by omega) (by omega)
  rw [e]
  exact ⟨a, by omega⟩
theorem pkI_no {rw pl' ow' rw' : Int → Int} {k : Int} (h : ownG dd pl kp ow) (hr : inR dd pl kp) (hi : pkI dd pl kp ow rw pl' ow' rw' k) (k0 : 0 ≤ k) (k1 : k < 400) (hn : (0 ≤ ow k ∧ pl (ow k) = k) → pkE ow pl kp k = k) : pkI dd pl kp ow rw pl' ow' rw' (k + 1) := by
  obtain ⟨i1, i2, i3⟩ := hi
  refine ⟨fun c c0 c1 c2 => ?_, i2, i3⟩
  rw [i1 c c0 c1 c2]
  have r := hr c c0 c1 c2
  by_cases q : 0 < kp c ∧ pl c < k
  · rw [if_pos q, if_pos (by omega)]
  · rw [if_neg q]
    by_cases q2 : 0 < kp c ∧ pl c < k + 1
    · rw [if_pos q2]
      have e : pl c = k := by omega
      have e2 := h.1 c c0 c1 c2 k (by omega) (by omega)
      have := hn (by rw [e2]; exact ⟨c0, e⟩)
      rw [e, this]
    · rw [if_neg q2]
theorem pkI_mv {rw pl' ow' rw' pl2 ow2 rw2 : Int → Int} {k c : Int} (h : ownG dd pl kp ow) (hr : inR dd pl kp) (hi : pkI dd pl kp ow rw pl' ow' rw' k) (k0 : 0 ≤ k) (k1 : k < 400) (hc : ow k = c) (c0 : 0 ≤ c) (c1 : c < 40) (c2 : 0 ≤ dd c) (hp : pl c = k) (hkp : 0 < kp c)
    (h1 : ∀ x, pl2 x = if x = c then pkE ow pl kp k else pl' x)
    (h2 : ∀ x, ow2 x = if pkE ow pl kp k ≤ x ∧ x < pkE ow pl kp k + kp c then c else if k ≤ x ∧ x < k + kp c then -2 else ow' x)
    (h3 : ∀ x, rw2 x = if pkE ow pl kp k ≤ x ∧ x < pkE ow pl kp k + kp c then rw' (k + (x - pkE ow pl kp k)) else rw' x) : pkI dd pl kp ow rw pl2 ow2 rw2 (k + 1) := by
  obtain ⟨i1, i2, i3⟩ := hi
  have hE : pkE ow pl kp k ≤ k := by have := pkE_lo h hr k0 c0 c1 c2 hkp (by omega); omega
  have hE0 := pkE_rng h hr k0 (by omega)
  have rc := hr c c0 c1 c2
  have pc : pl' c = k := by rw [i1 c c0 c1 c2, if_neg (by omega), hp]
  -- where the others are
  have hoth : ∀ d, 0 ≤ d → d < 40 → 0 ≤ dd d → d ≠ c → 0 < kp d → pl' d + kp d ≤ pkE ow pl kp k ∨ k + kp c ≤ pl' d := by
    intro d d0 d1 d2 dc dk
    rw [i1 d d0 d1 d2]
    by_cases q : 0 < kp d ∧ pl d < k
    · rw [if_pos q]; exact Or.inl (pkE_hi h hr (by omega) d0 d1 d2 dk q.2)
    · rw [if_neg q]
      right
      have rd := hr d d0 d1 d2
      by_cases q2 : k + kp c ≤ pl d
      · exact q2
      · have a := h.1 c c0 c1 c2 (pl d) (by omega) (by omega)
        have b := h.1 d d0 d1 d2 (pl d) (by omega) (by omega)
        omega
  refine ⟨fun d d0 d1 d2 => ?_, fun d d0 d1 d2 x x0 x1 => ?_, ⟨fun d d0 d1 d2 x x0 x1 => ?_, fun x x0 x1 => ?_⟩⟩
  · rw [h1 d]
    by_cases e : d = c
    · rw [if_pos e, e, if_pos (by omega), hp]
    · rw [if_neg e, i1 d d0 d1 d2]
      have rd := hr d d0 d1 d2
      by_cases q : 0 < kp d ∧ pl d < k
      · rw [if_pos q, if_pos (by omega)]
      · rw [if_neg q]
        by_cases q2 : 0 < kp d ∧ pl d < k + 1
        · have b := h.1 d d0 d1 d2 k (by omega) (by omega)
          omega
        · rw [if_neg q2]
  · rw [h1 d]
    by_cases e : d = c
    · rw [if_pos e, h3, if_pos (by rw [e] at x1; omega)]
      have := i2 c c0 c1 c2 x x0 (by rw [e] at x1; exact x1)
      rw [pc] at this
      rw [e, show k + (pkE ow pl kp k + x - pkE ow pl kp k) = k + x by omega]
      exact this
    · rw [if_neg e, h3, if_neg]
      · exact i2 d d0 d1 d2 x x0 x1
      · have := hoth d d0 d1 d2 e (by omega); omega
  · rw [h1 d] at x0 x1
    rw [h2 x]
    by_cases e : d = c
    · rw [if_pos e] at x0 x1
      rw [if_pos (by rw [e] at x1; omega), e]
    · rw [if_neg e] at x0 x1
      have := hoth d d0 d1 d2 e (by omega)
      rw [if_neg (by omega), if_neg (by omega)]
      exact i3.1 d d0 d1 d2 x x0 x1
  · rw [h2 x]
    by_cases e : pkE ow pl kp k ≤ x ∧ x < pkE ow pl kp k + kp c
    · rw [if_pos e]
      right
      rw [h1 c, if_pos rfl]
      omega
    · rw [if_neg e]
      by_cases e2 : k ≤ x ∧ x < k + kp c
      · rw [if_pos e2]; exact Or.inl rfl
      · rw [if_neg e2]
        rcases i3.2 x x0 x1 with o | o
        · exact Or.inl o
        · right
          have e3 : ow' x ≠ c := fun z => by rw [z] at o; omega
          rw [h1, if_neg e3]
          exact o
theorem pkE_st {k : Int} (k0 : 0 ≤ k) (s : 0 ≤ ow k ∧ pl (ow k) = k) : pkE ow pl kp (k + 1) = pkE ow pl kp k + kp (ow k) := by
  unfold pkE; rw [sm_s k0, if_pos s]
theorem pkE_ns {k : Int} (k0 : 0 ≤ k) (s : ¬ (0 ≤ ow k ∧ pl (ow k) = k)) : pkE ow pl kp (k + 1) = pkE ow pl kp k := by
  unfold pkE; rw [sm_s k0, if_neg s, Int.add_zero]
theorem pkN_st {k : Int} (k0 : 0 ≤ k) (s : 0 ≤ ow k ∧ pl (ow k) = k) (e : k ≠ pkE ow pl kp k) : pkN ow pl kp (k + 1) = pkN ow pl kp k + kp (ow k) := by
  unfold pkN; rw [sm_s k0, if_pos ⟨s, e⟩]
theorem pkN_ns {k : Int} (k0 : 0 ≤ k) (s : (0 ≤ ow k ∧ pl (ow k) = k) → k = pkE ow pl kp k) : pkN ow pl kp (k + 1) = pkN ow pl kp k := by
  unfold pkN; rw [sm_s k0, if_neg (fun c => c.2 (s c.1)), Int.add_zero]
theorem pkN_rng (h : ownG dd pl kp ow) (hr : inR dd pl kp) {k : Int} (hk : k ≤ 400) : 0 ≤ pkN ow pl kp k ∧ pkN ow pl kp k ≤ pkE ow pl kp k := by
  have hp : ∀ q, 0 ≤ q → q < k → 0 ≤ ow q → 0 ≤ kp (ow q) := fun q q0 q1 q2 => by
    have := h.2 q q0 (by omega)
    exact (hr (ow q) (by omega) (by omega) (by omega)).2.1
  constructor
  · have := sm_le (n := k) (f := fun _ => 0) (g := fun q => if (0 ≤ ow q ∧ pl (ow q) = q) ∧ q ≠ pkE ow pl kp q then kp (ow q) else 0) (fun q q0 q1 => by
      have := hp q q0 q1
      show (0 : Int) ≤ if _ then _ else _
      split
      · rename_i c; exact this c.1.1
      · omega)
    have e : sm k (fun _ => (0 : Int)) = 0 := by
      by_cases q : 0 ≤ k
      · rw [sm_const k 0 q, Int.mul_zero]
      · unfold sm; rw [show k.toNat = 0 by omega]; rfl
    rw [e] at this
    exact this
  · exact sm_le (fun q q0 q1 => by
      have := hp q q0 q1
      show (if _ then _ else _ : Int) ≤ if _ then _ else _
      split
      · rename_i c; rw [if_pos c.1]; exact Int.le_refl _
      · split
        · rename_i c; exact this c.1
        · exact Int.le_refl _)
end PK
/-! EditionVault.Contents: moving -/
set_option maxRecDepth 100000 in
/-- X1_moveTogether -/
theorem cd_25 : px_at 25 0 = some (1, [], .iconst 0, []) ∧ px_at 25 1 = some (2, [], .istore_n 1, []) ∧ px_at 25 2 = some (3, [], .iconst 0, []) ∧ px_at 25 3 = some (4, [], .istore_n 2, []) ∧ px_at 25 4 = some (5, [], .iconst 0, []) ∧ px_at 25 5 = some (6, [], .istore_n 3, []) ∧ px_at 25 6 = some (7, [1, 1, 1, 1, 0], .iload_n 3, []) ∧ px_at 25 7 = some (10, [], .sipush 400, []) ∧ px_at 25 10 = some (13, [], .if_icmp .ge 68, [78]) ∧ px_at 25 13 = some (14, [], .aload_n 0, []) ∧ px_at 25 14 = some (17, [], .getfield 55, [1, 9, 2, 1, 85]) ∧ px_at 25 17 = some (20, [], .getfield 134, [6, 1, 2, 1, 57]) ∧ px_at 25 20 = some (21, [], .iload_n 3, []) ∧ px_at 25 21 = some (22, [], .iaload, []) ∧ px_at 25 22 = some (24, [], .istore 4, []) ∧ px_at 25 24 = some (26, [], .iload 4, []) ∧ px_at 25 26 = some (29, [], .ifCond .lt 46, [72]) ∧ px_at 25 29 = some (30, [], .aload_n 0, []) ∧ px_at 25 30 = some (33, [], .getfield 18, [1, 2, 2, 1, 71]) ∧ px_at 25 33 = some (35, [], .iload 4, []) ∧ px_at 25 35 = some (36, [], .iaload, []) ∧ px_at 25 36 = some (37, [], .iload_n 3, []) ∧ px_at 25 37 = some (40, [], .if_icmp .ne 35, [72]) ∧ px_at 25 40 = some (41, [], .iload_n 3, []) ∧ px_at 25 41 = some (42, [], .iload_n 2, []) ∧ px_at 25 42 = some (45, [], .if_icmp .eq 20, [62]) ∧ px_at 25 45 = some (46, [], .aload_n 0, []) ∧ px_at 25 46 = some (48, [], .iload 4, []) ∧ px_at 25 48 = some (49, [], .iload_n 2, []) ∧ px_at 25 49 = some (52, [], .invokevirtual 137, [26, 2, 1, 126]) ∧ px_at 25 52 = some (53, [], .iload_n 1, []) ∧ px_at 25 53 = some (54, [], .aload_n 0, []) ∧ px_at 25 54 = some (57, [], .getfield 21, [1, 3, 2, 1, 72]) ∧ px_at 25 57 = some (59, [], .iload 4, []) ∧ px_at 25 59 = some (60, [], .iaload, []) ∧ px_at 25 60 = some (61, [], .iadd, []) ∧ px_at 25 61 = some (62, [], .istore_n 1, []) ∧ px_at 25 62 = some (63, [], .iload_n 2, []) ∧ px_at 25 63 = some (64, [], .aload_n 0, []) ∧ px_at 25 64 = some (67, [], .getfield 21, [1, 3, 2, 1, 72]) ∧ px_at 25 67 = some (69, [], .iload 4, []) ∧ px_at 25 69 = some (70, [], .iaload, []) ∧ px_at 25 70 = some (71, [], .iadd, []) ∧ px_at 25 71 = some (72, [], .istore_n 2, []) ∧ px_at 25 72 = some (75, [], .iinc 3 1, []) ∧ px_at 25 75 = some (78, [], .goto (-69), [6]) ∧ px_at 25 78 = some (79, [], .aload_n 0, []) ∧ px_at 25 79 = some (82, [], .getfield 55, [1, 9, 2, 1, 85]) ∧ px_at 25 82 = some (85, [], .invokevirtual 141, [82, 0, 6, 127]) ∧ px_at 25 85 = some (86, [], .iload_n 1, []) ∧ px_at 25 86 = some (87, [], .ireturn, [0]) := ⟨rfl, rfl, rfl, rfl, rfl, rfl, rfl, rfl, rfl, rfl, rfl, rfl, rfl, rfl, rfl, rfl, rfl, rfl, rfl, rfl, rfl, rfl, rfl, rfl, rfl, rfl, rfl, rfl, rfl, rfl, rfl, rfl, rfl, rfl, rfl, rfl, rfl, rfl, rfl, rfl, rfl, rfl, rfl, rfl, rfl, rfl, rfl, rfl, rfl, rfl, rfl⟩
set_option maxRecDepth 100000 in
/-- X1_moveTo -/
theorem cd_26 : px_at 26 0 = some (1, [], .aload_n 0, []) ∧ px_at 26 1 = some (4, [], .getfield 18, [1, 2, 2, 1, 71]) ∧ px_at 26 4 = some (5, [], .iload_n 1, []) ∧ px_at 26 5 = some (6, [], .iaload, []) ∧ px_at 26 6 = some (7, [], .istore_n 3, []) ∧ px_at 26 7 = some (8, [], .aload_n 0, []) ∧ px_at 26 8 = some (11, [], .getfield 55, [1, 9, 2, 1, 85]) ∧ px_at 26 11 = some (12, [], .iload_n 3, []) ∧ px_at 26 12 = some (13, [], .aload_n 0, []) ∧ px_at 26 13 = some (16, [], .getfield 21, [1, 3, 2, 1, 72]) ∧ px_at 26 16 = some (17, [], .iload_n 1, []) ∧ px_at 26 17 = some (18, [], .iaload, []) ∧ px_at 26 18 = some (20, [], .bipush (-2), []) ∧ px_at 26 20 = some (23, [], .invokevirtual 118, [81, 3, 6, 81]) ∧ px_at 26 23 = some (24, [], .aload_n 0, []) ∧ px_at 26 24 = some (27, [], .getfield 55, [1, 9, 2, 1, 85]) ∧ px_at 26 27 = some (28, [], .iload_n 2, []) ∧ px_at 26 28 = some (29, [], .aload_n 0, []) ∧ px_at 26 29 = some (32, [], .getfield 21, [1, 3, 2, 1, 72]) ∧ px_at 26 32 = some (33, [], .iload_n 1, []) ∧ px_at 26 33 = some (34, [], .iaload, []) ∧ px_at 26 34 = some (35, [], .iload_n 1, []) ∧ px_at 26 35 = some (38, [], .invokevirtual 118, [81, 3, 6, 81]) ∧ px_at 26 38 = some (39, [], .iconst 0, []) ∧ px_at 26 39 = some (41, [], .istore 4, []) ∧ px_at 26 41 = some (43, [1, 1, 1, 1, 1], .iload 4, []) ∧ px_at 26 43 = some (44, [], .aload_n 0, []) ∧ px_at 26 44 = some (47, [], .getfield 21, [1, 3, 2, 1, 72]) ∧ px_at 26 47 = some (48, [], .iload_n 1, []) ∧ px_at 26 48 = some (49, [], .iaload, []) ∧ px_at 26 49 = some (52, [], .if_icmp .ge 33, [82]) ∧ px_at 26 52 = some (53, [], .aload_n 0, []) ∧ px_at 26 53 = some (56, [], .getfield 55, [1, 9, 2, 1, 85]) ∧ px_at 26 56 = some (59, [], .getfield 82, [6, 0, 2, 1, 54]) ∧ px_at 26 59 = some (60, [], .iload_n 2, []) ∧ px_at 26 60 = some (62, [], .iload 4, []) ∧ px_at 26 62 = some (63, [], .iadd, []) ∧ px_at 26 63 = some (64, [], .aload_n 0, []) ∧ px_at 26 64 = some (67, [], .getfield 55, [1, 9, 2, 1, 85]) ∧ px_at 26 67 = some (70, [], .getfield 82, [6, 0, 2, 1, 54]) ∧ px_at 26 70 = some (71, [], .iload_n 3, []) ∧ px_at 26 71 = some (73, [], .iload 4, []) ∧ px_at 26 73 = some (74, [], .iadd, []) ∧ px_at 26 74 = some (75, [], .iaload, []) ∧ px_at 26 75 = some (76, [], .iastore, []) ∧ px_at 26 76 = some (79, [], .iinc 4 1, []) ∧ px_at 26 79 = some (82, [], .goto (-38), [41]) ∧ px_at 26 82 = some (83, [], .aload_n 0, []) ∧ px_at 26 83 = some (86, [], .getfield 18, [1, 2, 2, 1, 71]) ∧ px_at 26 86 = some (87, [], .iload_n 1, []) ∧ px_at 26 87 = some (88, [], .iload_n 2, []) ∧ px_at 26 88 = some (89, [], .iastore, []) ∧ px_at 26 89 = some (90, [], .return_, []) := ⟨rfl, rfl, rfl, rfl, rfl, rfl, rfl, rfl, rfl, rfl, rfl, rfl, rfl, rfl, rfl, rfl, rfl, rfl, rfl, rfl, rfl, rfl, rfl, rfl, rfl, rfl, rfl, rfl, rfl, rfl, rfl, rfl, rfl, rfl, rfl, rfl, rfl, rfl, rfl, rfl, rfl, rfl, rfl, rfl, rfl, rfl, rfl, rfl, rfl, rfl, rfl, rfl, rfl⟩
section PS
variable {M : px_mem} {Q : Option pv → px_mem → Prop}
set_option maxHeartbeats 600000 in
set_option maxRecDepth 100000 in
theorem lp_moveTo {M0 : px_mem} {c from_ to : Int} (hc : 0 ≤ c ∧ c < 40) (ht : 0 ≤ to ∧ to < from_) (hp : 0 ≤ M0 60 c ∧ from_ + M0 60 c ≤ 400) (h : ∀ M', (∀ y, M' 53 y = if to ≤ y ∧ y < to + M0 60 c then M0 53 (from_ + (y - to)) else M0 53 y) → (∀ x, M' 59 x = if x = c then to else M0 59 x) → (∀ b, b ≠ 53 → b ≠ 59 → M' b = M0 b) → Q none M') (k : Int) (hk_k : k ≤ M0 60 c) : ∀ M, 0 ≤ k → (∀ y, M 53 y = if to ≤ y ∧ y < to + k then M0 53 (from_ + (y - to)) else M0 53 y) → (∀ b, b ≠ 53 → M b = M0 b) → px_WP 26 0 0 (px_Q0 LAY Q) 41 [(2, 56), (0, c), (0, to), (0, from_), (0, k)] [] LAY M 0 0 := by
  refine up_ind (P := fun k => ∀ M, 0 ≤ k → (∀ y, M 53 y = if to ≤ y ∧ y < to + k then M0 53 (from_ + (y - to)) else M0 53 y) → (∀ b, b ≠ 53 → M b = M0 b) → px_WP 26 0 0 (px_Q0 LAY Q) 41 [(2, 56), (0, c), (0, to), (0, from_), (0, k)] [] LAY M 0 0) (M0 60 c) (fun k hk_k ih => ?_) k hk_k
  intro M k0 hv hf
  have h60 := hf 60 (by decide)
  have h59 := hf 59 (by decide)
  have h60c : M 60 c = M0 60 c := by rw [h60]
  refine px_go_ok (inl := []) 60 ?_
  simp only [px_go, px_Q0_at, px_sx_0, px_sx_s, px_cl, px_step, ↓px_ll, px_lg, f4_, ↓px_r1, ↓px_r2, ↓px_r4, ↓px_r5, ↓px_p1, ↓px_p2, ↓px_p3, ↓px_pop, px_k_0, px_k_s, px_k3_0, px_stk_, px_cats, px_ent, px_st1, px_st2, px_mask, ↓px_tsw, ↓px_lsw, ct_, mls_0, mls_1, mls_2, mls_3, mls_4, mls_5, kd_0, kd_1, kd_2, kd_3, ln_0, ln_1, ln_2, ln_3, gf_0, gf_1, gf_2, gf_3, gf_4, gf_7, gf_21, gf_63, dy_0, dy_1, dy_2, dy_3, dy_7, dy_21, px_brT, px_brF, true_and, and_true, and_false, false_and, and_self, true_implies, false_implies, or_true, true_or, or_false, false_or, eq_self, ne_eq, not_false_eq_true, not_true_eq_false, if_true, if_false, List.mem_cons, List.not_mem_nil, List.length_cons, List.length_nil, Nat.reduceEqDiff, Nat.reduceAdd, Nat.reduceSub, Nat.reduceLeDiff, Nat.reduceLT, Int.reduceEq, Int.reduceLT, Int.reduceLE, Int.reduceNeg, Int.reduceAdd, Int.reduceSub, Int.reduceToNat, ↓reduceIte, one_ne_zero_, zero_ne_one_, px_in32L, cd_26]
  repeat' (first | (with_reducible apply And.intro) | (with_reducible refine px_br_intro (fun _ => ?_) (fun _ => ?_)))
  all_goals (try (first | (unfold px_in32; omega) | omega))
  · refine h _ (fun y => ?_) (fun x => ?_) (fun b b0 b1 => ?_)
    · rw [row_ne (by decide), hv y, show k = M0 60 c by omega]
    · rw [px_up_at, h59]
      by_cases e : x = c
      · rw [if_pos e, if_pos ⟨rfl, e⟩]
      · rw [if_neg e, if_neg (fun d => e d.2)]
    · rw [row_ne b1]; exact hf b b0
  · refine ih (by omega) _ (by omega) (fun y => ?_) (fun b b0 => by rw [row_ne b0]; exact hf b b0)
    rw [px_up_at, hv y, hv (from_ + k)]
    by_cases e : y = to + k
    · rw [if_pos ⟨rfl, e⟩, if_neg (by omega), if_pos (by omega)]
      congr 1; omega
    · rw [if_neg (fun d => e d.2)]
      by_cases e2 : to ≤ y ∧ y < to + k
      · rw [if_pos e2, if_pos (by omega)]
      · rw [if_neg e2, if_neg (by omega)]
set_option maxHeartbeats 600000 in
set_option maxRecDepth 100000 in
theorem sp_moveTo {c to : Int} (hc : 0 ≤ c ∧ c < 40) (ht : 0 ≤ to ∧ to < M 59 c) (hp : 0 ≤ M 60 c ∧ M 59 c + M 60 c ≤ 400) (h : ∀ M', (∀ y, M' 53 y = if to ≤ y ∧ y < to + M 60 c then M 53 (M 59 c + (y - to)) else M 53 y) → (∀ x, M' 59 x = if x = c then to else M 59 x) → (∀ x, M' 54 x = if to ≤ x ∧ x < to + M 60 c then c else if M 59 c ≤ x ∧ x < M 59 c + M 60 c then -2 else M 54 x) → (∀ b, b ≠ 53 → b ≠ 54 → b ≠ 59 → M' b = M b) → Q none M') : px_Ok 26 [(2, 56), (0, c), (0, to)] LAY M Q := by
  refine px_ok_go (inl := []) (ls0 := [(2, 56), (0, c), (0, to), (9, 0), (9, 0)]) 60 (by decide) (Nat.le_of_ble_eq_true rfl) rfl ?_
  simp only [px_go, px_Q0_at, px_sx_0, px_sx_s, px_cl, px_step, ↓px_ll, px_lg, f4_, ↓px_r1, ↓px_r2, ↓px_r4, ↓px_r5, ↓px_p1, ↓px_p2, ↓px_p3, ↓px_pop, px_k_0, px_k_s, px_k3_0, px_stk_, px_cats, px_ent, px_st1, px_st2, px_mask, ↓px_tsw, ↓px_lsw, ct_, mls_0, mls_1, mls_2, mls_3, mls_4, mls_5, kd_0, kd_1, kd_2, kd_3, ln_0, ln_1, ln_2, ln_3, gf_0, gf_1, gf_2, gf_3, gf_4, gf_7, gf_21, gf_63, dy_0, dy_1, dy_2, dy_3, dy_7, dy_21, px_brT, px_brF, true_and, and_true, and_false, false_and, and_self, true_implies, false_implies, or_true, true_or, or_false, false_or, eq_self, ne_eq, not_false_eq_true, not_true_eq_false, if_true, if_false, List.mem_cons, List.not_mem_nil, List.length_cons, List.length_nil, Nat.reduceEqDiff, Nat.reduceAdd, Nat.reduceSub, Nat.reduceLeDiff, Nat.reduceLT, Int.reduceEq, Int.reduceLT, Int.reduceLE, Int.reduceNeg, Int.reduceAdd, Int.reduceSub, Int.reduceToNat, ↓reduceIte, one_ne_zero_, zero_ne_one_, px_in32L, cd_26]
  repeat' (first | (with_reducible apply And.intro) | (with_reducible refine px_br_intro (fun _ => ?_) (fun _ => ?_)))
  all_goals (try (first | (unfold px_in32; omega) | omega))
  refine sp_own (by omega) (by omega) (by omega) (fun M1 o1 o2 => ?_)
  simp only [px_go, px_Q0_at, px_sx_0, px_sx_s, px_cl, px_step, ↓px_ll, px_lg, f4_, ↓px_r1, ↓px_r2, ↓px_r4, ↓px_r5, ↓px_p1, ↓px_p2, ↓px_p3, ↓px_pop, px_k_0, px_k_s, px_k3_0, px_stk_, px_cats, px_ent, px_st1, px_st2, px_mask, ↓px_tsw, ↓px_lsw, ct_, mls_0, mls_1, mls_2, mls_3, mls_4, mls_5, kd_0, kd_1, kd_2, kd_3, ln_0, ln_1, ln_2, ln_3, gf_0, gf_1, gf_2, gf_3, gf_4, gf_7, gf_21, gf_63, dy_0, dy_1, dy_2, dy_3, dy_7, dy_21, px_brT, px_brF, true_and, and_true, and_false, false_and, and_self, true_implies, false_implies, or_true, true_or, or_false, false_or, eq_self, ne_eq, not_false_eq_true, not_true_eq_false, if_true, if_false, List.mem_cons, List.not_mem_nil, List.length_cons, List.length_nil, Nat.reduceEqDiff, Nat.reduceAdd, Nat.reduceSub, Nat.reduceLeDiff, Nat.reduceLT, Int.reduceEq, Int.reduceLT, Int.reduceLE, Int.reduceNeg, Int.reduceAdd, Int.reduceSub, Int.reduceToNat, ↓reduceIte, one_ne_zero_, zero_ne_one_, px_in32L, cd_26]
  repeat' (first | (with_reducible apply And.intro) | (with_reducible refine px_br_intro (fun _ => ?_) (fun _ => ?_)))
  all_goals (try (first | (unfold px_in32; omega) | omega))
  rw [o2 60 (by decide)]
  refine sp_own (by omega) (by omega) (by omega) (fun M2 q1 q2 => ?_)
  simp only [px_go, px_Q0_at, px_sx_0, px_sx_s, px_cl, px_step, ↓px_ll, px_lg, f4_, ↓px_r1, ↓px_r2, ↓px_r4, ↓px_r5, ↓px_p1, ↓px_p2, ↓px_p3, ↓px_pop, px_k_0, px_k_s, px_k3_0, px_stk_, px_cats, px_ent, px_st1, px_st2, px_mask, ↓px_tsw, ↓px_lsw, ct_, mls_0, mls_1, mls_2, mls_3, mls_4, mls_5, kd_0, kd_1, kd_2, kd_3, ln_0, ln_1, ln_2, ln_3, gf_0, gf_1, gf_2, gf_3, gf_4, gf_7, gf_21, gf_63, dy_0, dy_1, dy_2, dy_3, dy_7, dy_21, px_brT, px_brF, true_and, and_true, and_false, false_and, and_self, true_implies, false_implies, or_true, true_or, or_false, false_or, eq_self, ne_eq, not_false_eq_true, not_true_eq_false, if_true, if_false, List.mem_cons, List.not_mem_nil, List.length_cons, List.length_nil, Nat.reduceEqDiff, Nat.reduceAdd, Nat.reduceSub, Nat.reduceLeDiff, Nat.reduceLT, Int.reduceEq, Int.reduceLT, Int.reduceLE, Int.reduceNeg, Int.reduceAdd, Int.reduceSub, Int.reduceToNat, ↓reduceIte, one_ne_zero_, zero_ne_one_, px_in32L, cd_26]
  have e60 : M2 60 = M 60 := by rw [q2 60 (by decide), o2 60 (by decide)]
  have e59 : M2 59 = M 59 := by rw [q2 59 (by decide), o2 59 (by decide)]
  have e53 : M2 53 = M 53 := by rw [q2 53 (by decide), o2 53 (by decide)]
  refine lp_moveTo (M0 := M2) hc ht (by rw [e60]; exact hp) (fun M3 g1 g2 g3 => h M3 (fun y => by rw [g1 y, e60, e53]) (fun x => by rw [g2 x, e59]) (fun x => by rw [g3 54 (by decide) (by decide), q1 x, o1 x]) (fun b b0 b1 b2 => by rw [g3 b b0 b2, q2 b b1, o2 b b1])) 0 (by rw [e60]; exact hp.1) M2 (Int.le_refl 0) (fun y => by rw [if_neg (by omega)]) (fun _ _ => rfl)
set_option maxHeartbeats 600000 in
set_option maxRecDepth 100000 in
theorem lp_moveTogether {M0 : px_mem} (ho : ownG (M0 62) (M0 59) (M0 60) (M0 54)) (hr : inR (M0 62) (M0 59) (M0 60)) (h : ∀ (M1 M' : px_mem), pkI (M0 62) (M0 59) (M0 60) (M0 54) (M0 53) (M1 59) (M1 54) (M1 53) 400 → (∀ b, b ≠ 53 → b ≠ 54 → b ≠ 59 → M1 b = M0 b) → (∀ x, M' 53 x = if 0 ≤ x ∧ x < 400 ∧ M1 54 x < 0 then 0 else M1 53 x) → (∀ b, b ≠ 53 → M' b = M1 b) → Q (some (0, pkN (M0 54) (M0 59) (M0 60) 400)) M') (k : Int) (hk_k : k ≤ 400) : ∀ (M : px_mem) (mv nd : Int), 0 ≤ k → mv = pkN (M0 54) (M0 59) (M0 60) k → nd = pkE (M0 54) (M0 59) (M0 60) k → pkI (M0 62) (M0 59) (M0 60) (M0 54) (M0 53) (M 59) (M 54) (M 53) k → (∀ b, b ≠ 53 → b ≠ 54 → b ≠ 59 → M b = M0 b) → px_WP 25 0 0 (px_Q0 LAY Q) 6 [(2, 56), (0, mv), (0, nd), (0, k), (9, 0)] [] LAY M 0 0 := by
  refine up_ind (P := fun k => ∀ (M : px_mem) (mv nd : Int), 0 ≤ k → mv = pkN (M0 54) (M0 59) (M0 60) k → nd = pkE (M0 54) (M0 59) (M0 60) k → pkI (M0 62) (M0 59) (M0 60) (M0 54) (M0 53) (M 59) (M 54) (M 53) k → (∀ b, b ≠ 53 → b ≠ 54 → b ≠ 59 → M b = M0 b) → px_WP 25 0 0 (px_Q0 LAY Q) 6 [(2, 56), (0, mv), (0, nd), (0, k), (9, 0)] [] LAY M 0 0) (400) (fun k hk_k ih => ?_) k hk_k
  intro M mv nd k0 hmv hnd hi hf
  have h60 := hf 60 (by decide) (by decide) (by decide)
  have h62 := hf 62 (by decide) (by decide) (by decide)
  have ho2 := hi.2.2.2 k k0
  have hst := fun q => pkI_st ho hr hi k0 q
  have hE := pkE_rng ho hr k0 hk_k
  have hN := pkN_rng ho hr hk_k
  have hX : k < 400 → 0 ≤ M 54 k → M 54 k < 40 ∧ 0 ≤ M 60 (M 54 k) ∧ M 60 (M 54 k) ≤ 400 := fun q1 q2 => by have a := ho2 q1; have b := hr (M 54 k) (by omega) (by omega) (by omega); rw [h60]; omega
  refine px_go_ok (inl := []) 60 ?_
  simp only [px_go, px_Q0_at, px_sx_0, px_sx_s, px_cl, px_step, ↓px_ll, px_lg, f4_, ↓px_r1, ↓px_r2, ↓px_r4, ↓px_r5, ↓px_p1, ↓px_p2, ↓px_p3, ↓px_pop, px_k_0, px_k_s, px_k3_0, px_stk_, px_cats, px_ent, px_st1, px_st2, px_mask, ↓px_tsw, ↓px_lsw, ct_, mls_0, mls_1, mls_2, mls_3, mls_4, mls_5, kd_0, kd_1, kd_2, kd_3, ln_0, ln_1, ln_2, ln_3, gf_0, gf_1, gf_2, gf_3, gf_4, gf_7, gf_21, gf_63, dy_0, dy_1, dy_2, dy_3, dy_7, dy_21, px_brT, px_brF, true_and, and_true, and_false, false_and, and_self, true_implies, false_implies, or_true, true_or, or_false, false_or, eq_self, ne_eq, not_false_eq_true, not_true_eq_false, if_true, if_false, List.mem_cons, List.not_mem_nil, List.length_cons, List.length_nil, Nat.reduceEqDiff, Nat.reduceAdd, Nat.reduceSub, Nat.reduceLeDiff, Nat.reduceLT, Int.reduceEq, Int.reduceLT, Int.reduceLE, Int.reduceNeg, Int.reduceAdd, Int.reduceSub, Int.reduceToNat, ↓reduceIte, one_ne_zero_, zero_ne_one_, px_in32L, cd_25]
  repeat' (first | (with_reducible apply And.intro) | (with_reducible refine px_br_intro (fun _ => ?_) (fun _ => ?_)))
  all_goals (try (first | (unfold px_in32; omega) | omega))
  · have e : k = 400 := by omega
    subst e
    refine sp_clf (fun M' e1 e2 => ?_)
    simp only [px_go, px_Q0_at, px_sx_0, px_sx_s, px_cl, px_step, ↓px_ll, px_lg, f4_, ↓px_r1, ↓px_r2, ↓px_r4, ↓px_r5, ↓px_p1, ↓px_p2, ↓px_p3, ↓px_pop, px_k_0, px_k_s, px_k3_0, px_stk_, px_cats, px_ent, px_st1, px_st2, px_mask, ↓px_tsw, ↓px_lsw, ct_, mls_0, mls_1, mls_2, mls_3, mls_4, mls_5, kd_0, kd_1, kd_2, kd_3, ln_0, ln_1, ln_2, ln_3, gf_0, gf_1, gf_2, gf_3, gf_4, gf_7, gf_21, gf_63, dy_0, dy_1, dy_2, dy_3, dy_7, dy_21, px_brT, px_brF, true_and, and_true, and_false, false_and, and_self, true_implies, false_implies, or_true, true_or, or_false, false_or, eq_self, ne_eq, not_false_eq_true, not_true_eq_false, if_true, if_false, List.mem_cons, List.not_mem_nil, List.length_cons, List.length_nil, Nat.reduceEqDiff, Nat.reduceAdd, Nat.reduceSub, Nat.reduceLeDiff, Nat.reduceLT, Int.reduceEq, Int.reduceLT, Int.reduceLE, Int.reduceNeg, Int.reduceAdd, Int.reduceSub, Int.reduceToNat, ↓reduceIte, one_ne_zero_, zero_ne_one_, px_in32L, cd_25]
    rw [hmv]; exact h M M' hi hf e1 e2
  · rename_i c1 c2
    have ns : ¬ (0 ≤ M0 54 k ∧ M0 59 (M0 54 k) = k) := fun q => absurd ((hst (by omega)).1.mpr q).1 (by omega)
    exact ih (by omega) M mv nd (by omega) (by rw [pkN_ns k0 (fun q => absurd q ns)]; exact hmv) (by rw [pkE_ns k0 ns]; exact hnd) (pkI_no ho hr hi k0 (by omega) (fun q => absurd q ns)) hf
  · rename_i c1 c2 c3 c4
    obtain ⟨e1, e2, e3, e4, e5⟩ := (hst (by omega)).2 ⟨by omega, c3⟩
    have s := (hst (by omega)).1.mp ⟨by omega, c3⟩
    refine ih (by omega) M _ _ (by omega) ?_ ?_ (pkI_no ho hr hi k0 (by omega) (fun _ => by omega)) hf
    · rw [pkN_ns k0 (fun _ => by omega)]; exact hmv
    · rw [pkE_st k0 s, h60, e1, hnd]
  · rename_i c1 c2 c3 c4
    obtain ⟨e1, e2, e3, e4, e5⟩ := (hst (by omega)).2 ⟨by omega, c3⟩
    have s := (hst (by omega)).1.mp ⟨by omega, c3⟩
    have hlo := pkE_lo ho hr k0 e3 e4 e5 e2 (by omega)
    have hx := hX (by omega) (by omega)
    have hrr := hr (M0 54 k) e3 e4 e5
    refine sp_moveTo ⟨by omega, by omega⟩ ⟨by omega, by omega⟩ ⟨by omega, ?_⟩ (fun M' g1 g2 g3 g4 => ?_)
    · rw [c3, h60, e1]; omega
    · have e60' := g4 60 (by decide) (by decide) (by decide)
      have e60'' : M' 60 (M 54 k) = M0 60 (M0 54 k) := by rw [e60', h60, e1]
      simp only [px_go, px_Q0_at, px_sx_0, px_sx_s, px_cl, px_step, ↓px_ll, px_lg, f4_, ↓px_r1, ↓px_r2, ↓px_r4, ↓px_r5, ↓px_p1, ↓px_p2, ↓px_p3, ↓px_pop, px_k_0, px_k_s, px_k3_0, px_stk_, px_cats, px_ent, px_st1, px_st2, px_mask, ↓px_tsw, ↓px_lsw, ct_, mls_0, mls_1, mls_2, mls_3, mls_4, mls_5, kd_0, kd_1, kd_2, kd_3, ln_0, ln_1, ln_2, ln_3, gf_0, gf_1, gf_2, gf_3, gf_4, gf_7, gf_21, gf_63, dy_0, dy_1, dy_2, dy_3, dy_7, dy_21, px_brT, px_brF, true_and, and_true, and_false, false_and, and_self, true_implies, false_implies, or_true, true_or, or_false, false_or, eq_self, ne_eq, not_false_eq_true, not_true_eq_false, if_true, if_false, List.mem_cons, List.not_mem_nil, List.length_cons, List.length_nil, Nat.reduceEqDiff, Nat.reduceAdd, Nat.reduceSub, Nat.reduceLeDiff, Nat.reduceLT, Int.reduceEq, Int.reduceLT, Int.reduceLE, Int.reduceNeg, Int.reduceAdd, Int.reduceSub, Int.reduceToNat, ↓reduceIte, one_ne_zero_, zero_ne_one_, px_in32L, cd_25]
      repeat' (first | (with_reducible apply And.intro) | (with_reducible refine px_br_intro (fun _ => ?_) (fun _ => ?_)))
      all_goals (try (first | (unfold px_in32; omega) | omega))
      rw [c3] at g1 g3
      rw [h60, e1, hnd] at g1 g3
      rw [e1, hnd] at g2
      refine ih (by omega) M' _ _ (by omega) ?_ ?_ (pkI_mv ho hr hi k0 (by omega) rfl e3 e4 e5 s.2 e2 g2 g3 g1) (fun b b0 b1 b2 => by rw [g4 b b0 b1 b2]; exact hf b b0 b1 b2)
      · rw [pkN_st k0 s (by omega), e60'', hmv]
      · rw [pkE_st k0 s, e60'', hnd]
  · rename_i c1 c2 c3
    have ns : ¬ (0 ≤ M0 54 k ∧ M0 59 (M0 54 k) = k) := fun q => absurd ((hst (by omega)).1.mpr q).2 c3
    exact ih (by omega) M mv nd (by omega) (by rw [pkN_ns k0 (fun q => absurd q ns)]; exact hmv) (by rw [pkE_ns k0 ns]; exact hnd) (pkI_no ho hr hi k0 (by omega) (fun q => absurd q ns)) hf
theorem ci_inR {M : px_mem} (h : ci M) : inR (M 62) (M 59) (M 60) := fun c c0 c1 c2 => by
  have := cokC (h.1 c c0 c1 c2)
  omega
/-- packed: places by pkE, bytes with them, all else 0 -/
def pkd (dd pl kp ow rw : Int → Int) (pl' rw' : Int → Int) : Prop :=
  (∀ c, 0 ≤ c → c < 40 → 0 ≤ dd c → pl' c = if 0 < kp c then pkE ow pl kp (pl c) else pl c) ∧
  (∀ c, 0 ≤ c → c < 40 → 0 ≤ dd c → ∀ x, 0 ≤ x → x < kp c → rw' (pl' c + x) = rw (pl c + x)) ∧
  (∀ y, 0 ≤ y → y < 400 → (∀ c, 0 ≤ c → c < 40 → 0 ≤ dd c → ¬ (pl' c ≤ y ∧ y < pl' c + kp c)) → rw' y = 0)
set_option maxHeartbeats 600000 in
set_option maxRecDepth 100000 in
theorem sp_moveTogether (hci : ci M) (h : ∀ M', pkd (M 62) (M 59) (M 60) (M 54) (M 53) (M' 59) (M' 53) → ci M' → (∀ b, b ≠ 53 → b ≠ 54 → b ≠ 59 → M' b = M b) → Q (some (0, pkN (M 54) (M 59) (M 60) 400)) M') : px_Ok 25 [(2, 56)] LAY M Q := by
  refine px_ok_go (inl := []) (ls0 := [(2, 56), (9, 0), (9, 0), (9, 0), (9, 0)]) 60 (by decide) (Nat.le_of_ble_eq_true rfl) rfl ?_
  simp only [px_go, px_Q0_at, px_sx_0, px_sx_s, px_cl, px_step, ↓px_ll, px_lg, f4_, ↓px_r1, ↓px_r2, ↓px_r4, ↓px_r5, ↓px_p1, ↓px_p2, ↓px_p3, ↓px_pop, px_k_0, px_k_s, px_k3_0, px_stk_, px_cats, px_ent, px_st1, px_st2, px_mask, ↓px_tsw, ↓px_lsw, ct_, mls_0, mls_1, mls_2, mls_3, mls_4, mls_5, kd_0, kd_1, kd_2, kd_3, ln_0, ln_1, ln_2, ln_3, gf_0, gf_1, gf_2, gf_3, gf_4, gf_7, gf_21, gf_63, dy_0, dy_1, dy_2, dy_3, dy_7, dy_21, px_brT, px_brF, true_and, and_true, and_false, false_and, and_self, true_implies, false_implies, or_true, true_or, or_false, false_or, eq_self, ne_eq, not_false_eq_true, not_true_eq_false, if_true, if_false, List.mem_cons, List.not_mem_nil, List.length_cons, List.length_nil, Nat.reduceEqDiff, Nat.reduceAdd, Nat.reduceSub, Nat.reduceLeDiff, Nat.reduceLT, Int.reduceEq, Int.reduceLT, Int.reduceLE, Int.reduceNeg, Int.reduceAdd, Int.reduceSub, Int.reduceToNat, ↓reduceIte, one_ne_zero_, zero_ne_one_, px_in32L, cd_25]
  repeat' (first | (with_reducible apply And.intro) | (with_reducible refine px_br_intro (fun _ => ?_) (fun _ => ?_)))
  all_goals (try (first | (unfold px_in32; omega) | omega))
  have hr := ci_inR hci
  obtain ⟨i1, i2, i3, i4, i5⟩ := hci
  refine lp_moveTogether (M0 := M) i3 hr (fun M1 M' q1 q2 q3 q4 => ?_) 0 (by decide) M 0 0 (Int.le_refl 0) rfl rfl (pkI_0 i3 hr) (fun _ _ _ _ => rfl)
  obtain ⟨p1, p2, p3⟩ := q1
  have e59 := q4 59 (by decide)
  have e54 := q4 54 (by decide)
  have ef : ∀ b, b ≠ 53 → b ≠ 54 → b ≠ 59 → M' b = M b := fun b b0 b1 b2 => by rw [q4 b b0]; exact q2 b b0 b1 b2
  have e62 := ef 62 (by decide) (by decide) (by decide)
  have e60 := ef 60 (by decide) (by decide) (by decide)
  have hpl : ∀ c, 0 ≤ c → c < 40 → 0 ≤ M 62 c → M' 59 c = if 0 < M 60 c then pkE (M 54) (M 59) (M 60) (M 59 c) else M 59 c := fun c c0 c1 c2 => by
    rw [e59, p1 c c0 c1 c2]
    have := hr c c0 c1 c2
    by_cases e : 0 < M 60 c
    · rw [if_pos e, if_pos (by omega)]
    · rw [if_neg e, if_neg (by omega)]
  have hin : ∀ c, 0 ≤ c → c < 40 → 0 ≤ M 62 c → 0 ≤ M' 59 c ∧ M' 59 c + M 60 c ≤ 400 := fun c c0 c1 c2 => by
    rw [hpl c c0 c1 c2]
    have := hr c c0 c1 c2
    by_cases e : 0 < M 60 c
    · rw [if_pos e]
      have a := pkE_rng i3 hr this.1 (by omega)
      have b := pkE_hi i3 hr (k := 400) (Int.le_refl _) c0 c1 c2 e (by omega)
      have d := pkE_rng i3 hr (k := 400) (by decide) (Int.le_refl _)
      omega
    · rw [if_neg e]; omega
  have hby : ∀ c, 0 ≤ c → c < 40 → 0 ≤ M 62 c → ∀ x, 0 ≤ x → x < M 60 c → M' 53 (M' 59 c + x) = M 53 (M 59 c + x) := fun c c0 c1 c2 x x0 x1 => by
    have a := hin c c0 c1 c2
    have b := p3.1 c c0 c1 c2 (M1 59 c + x) (by omega) (by omega)
    rw [e59] at a ⊢
    rw [q3, if_neg (by omega)]
    exact p2 c c0 c1 c2 x x0 x1
  have hz : ∀ y, 0 ≤ y → y < 400 → (∀ c, 0 ≤ c → c < 40 → 0 ≤ M 62 c → ¬ (M' 59 c ≤ y ∧ y < M' 59 c + M 60 c)) → M' 53 y = 0 := fun y y0 y1 hn => by
    rw [q3, if_pos]
    refine ⟨y0, y1, ?_⟩
    rcases p3.2 y y0 y1 with a | a
    · omega
    · rw [e59] at hn
      exact absurd a.2.2.2 (hn _ a.1 a.2.1 a.2.2.1)
  refine h M' ⟨hpl, hby, hz⟩ ⟨?_, fun y y0 y1 => ?_, ?_, ?_, ?_⟩ ef
  · intro c c0 c1 c2
    rw [e62] at c2 ⊢
    have a := i1 c c0 c1 c2
    have b := hin c c0 c1 c2
    have f57 := ef 57 (by decide) (by decide) (by decide)
    have f58 := ef 58 (by decide) (by decide) (by decide)
    have f61 := ef 61 (by decide) (by decide) (by decide)
    have a := cokC a
    show _ ≤ 3 ∧ 0 ≤ M' 57 c ∧ M' 57 c ≤ 40 ∧ 0 ≤ M' 58 c ∧ M' 58 c < 65521 ∧ 0 ≤ M' 59 c ∧ 0 ≤ M' 60 c ∧ M' 60 c ≤ M' 57 c ∧ M' 59 c + M' 60 c ≤ 400 ∧
      ((M' 61 c = -2 ∧ M 62 c = 0 ∧ M' 60 c = M' 57 c) ∨ (0 ≤ M' 61 c ∧ M' 61 c < 40 ∧ 0 ≤ M 62 (M' 61 c) ∧ M 62 c = M 62 (M' 61 c) + 1))
    rw [f57, f58, f61, e60]
    omega
  · rcases p3.2 y y0 y1 with a | a
    · rw [q3, if_pos (by omega)]; decide
    · have := hby (M1 54 y) a.1 a.2.1 a.2.2.1 (y - M1 59 (M1 54 y)) (by omega) (by omega)
      rw [e59, show M1 59 (M1 54 y) + (y - M1 59 (M1 54 y)) = y by omega] at this
      rw [this]
      have b := hr (M1 54 y) a.1 a.2.1 a.2.2.1
      exact i2 _ (by omega) (by omega)
  · have : ownG (M' 62) (M' 59) (M' 60) (M' 54) := by rw [e62, e60, e59, e54]; exact p3
    exact this
  · rw [e62]; exact i4
  · rw [e62]
    intro c c0 c1 c2
    refine gd_move (s := fun c => M' 59 c - M 59 c) i1 c0 c1 c2 (i5 c c0 c1 c2) (fun d d0 d1 d2 => ?_) (fun d d0 d1 d2 x x0 x1 => ?_) (ef _ (by omega) (by omega) (by omega)) (by rw [ef 104 (by decide) (by decide) (by decide)]) (by rw [ef 105 (by decide) (by decide) (by decide)])
    · rw [ef 57 (by decide) (by decide) (by decide), ef 58 (by decide) (by decide) (by decide), e60, ef 61 (by decide) (by decide) (by decide)]
      refine ⟨rfl, rfl, rfl, rfl, ?_⟩
      show _ = M 59 d + (M' 59 d - M 59 d)
      omega
    · have := hby d d0 d1 d2 (x - M 59 d) (by omega) (by omega)
      rw [show M 59 d + (x - M 59 d) = x by omega] at this
      rw [← this]
      congr 1
      show x + (M' 59 d - M 59 d) = _
      omega
end PS
