/-! words for the conditions of a run -/
theorem f4_ : ((0 : Fin 4) : Nat) = 0 ∧ ((1 : Fin 4) : Nat) = 1 ∧ ((2 : Fin 4) : Nat) = 2 ∧ ((3 : Fin 4) : Nat) = 3 ∧ ((0 : Fin 2) : Nat) = 0 ∧ ((1 : Fin 2) : Nat) = 1 := ⟨rfl, rfl, rfl, rfl, rfl, rfl⟩
theorem px_stk_ : px_stk 0 = 0 ∧ px_stk 1 = 1 ∧ px_stk 2 = 2 ∧ px_stk 3 = 0 ∧ px_stk 4 = 0 := ⟨rfl, rfl, rfl, rfl, rfl⟩
theorem ct_ : ((0 : Nat) : Int) = 0 ∧ ((1 : Nat) : Int) = 1 ∧ ((2 : Nat) : Int) = 2 ∧ ((3 : Nat) : Int) = 3 ∧ ((4 : Nat) : Int) = 4 ∧ ((5 : Nat) : Int) = 5 ∧ ((6 : Nat) : Int) = 6 ∧ ((7 : Nat) : Int) = 7 ∧ ((8 : Nat) : Int) = 8 ∧ ((9 : Nat) : Int) = 9 ∧ ((10 : Nat) : Int) = 10 ∧ ((11 : Nat) : Int) = 11 ∧ ((12 : Nat) : Int) = 12 ∧ ((13 : Nat) : Int) = 13 ∧ ((14 : Nat) : Int) = 14 ∧ ((15 : Nat) : Int) = 15 ∧ ((16 : Nat) : Int) = 16 ∧ ((17 : Nat) : Int) = 17 ∧ ((18 : Nat) : Int) = 18 ∧ ((19 : Nat) : Int) = 19 ∧ ((20 : Nat) : Int) = 20 ∧ ((21 : Nat) : Int) = 21 ∧ ((22 : Nat) : Int) = 22 ∧ ((23 : Nat) : Int) = 23 ∧ ((24 : Nat) : Int) = 24 ∧ ((25 : Nat) : Int) = 25 ∧ ((26 : Nat) : Int) = 26 ∧ ((27 : Nat) : Int) = 27 ∧ ((28 : Nat) : Int) = 28 ∧ ((29 : Nat) : Int) = 29 ∧ ((30 : Nat) : Int) = 30 ∧ ((31 : Nat) : Int) = 31 ∧ ((32 : Nat) : Int) = 32 ∧ ((33 : Nat) : Int) = 33 ∧ ((34 : Nat) : Int) = 34 ∧ ((35 : Nat) : Int) = 35 ∧ ((65521 : Nat) : Int) = 65521 ∧ ((1152921504606846975 : Nat) : Int) = 1152921504606846975 ∧ ((1152921504606846976 : Nat) : Int) = 1152921504606846976 :=
  ⟨rfl, rfl, rfl, rfl, rfl, rfl, rfl, rfl, rfl, rfl, rfl, rfl, rfl, rfl, rfl, rfl, rfl, rfl, rfl, rfl, rfl, rfl, rfl, rfl, rfl, rfl, rfl, rfl, rfl, rfl, rfl, rfl, rfl, rfl, rfl, rfl, rfl, rfl, rfl⟩
theorem one_ne_zero_ : ((1 : Nat) = 0) = False ∧ ((1 : Int) = 0) = False := ⟨by simp, by simp⟩
theorem zero_ne_one_ : ((0 : Nat) = 1) = False ∧ ((0 : Int) = 1) = False := ⟨by simp, by simp⟩
theorem px_brT (A B : Prop) : px_br True A B = A := by simp [px_br]
theorem px_brF (A B : Prop) : px_br False A B = B := by simp [px_br]
theorem px_br_intro {P A B : Prop} (h1 : P → A) (h2 : ¬ P → B) : px_br P A B := ⟨h1, h2⟩
theorem px_in32L : px_in32 12 = True ∧ px_in32 10 = True ∧ px_in32 40 = True ∧ px_in32 24 = True ∧ px_in32 36 = True ∧ px_in32 80 = True ∧ px_in32 240 = True ∧ px_in32 160 = True ∧ px_in32 400 = True := by simp [px_in32]
theorem mls_ : px_ml 7 = 2 := rfl
theorem px_up_at (M : px_mem) (a j x b i : Int) : px_up M a j x b i = if b = a ∧ i = j then x else M b i := rfl
theorem qe {Q : Option pv → px_mem → Prop} {M : px_mem} {t : Nat} {a b : Int} (h : Q (some (t, a)) M) (e : b = a) : Q (some (t, b)) M := e ▸ h
theorem px_sx_0 (inl : List Nat) (z mc ms : Nat) (Q : Option pv → px_lay → px_mem → Nat → Nat → Prop) (pc : Nat) (ls st : List pv) (L : px_lay) (M : px_mem) (k n : Nat) : px_sx inl 0 z mc ms Q pc ls st L M k n = px_WP z mc ms Q pc ls st L M k n := rfl
theorem px_sx_s (inl : List Nat) (f z mc ms : Nat) (Q : Option pv → px_lay → px_mem → Nat → Nat → Prop) (pc : Nat) (ls st : List pv) (L : px_lay) (M : px_mem) (k n : Nat) : px_sx inl (f + 1) z mc ms Q pc ls st L M k n = (match px_at z pc with
    | some (nx, [], i, r) => px_step (px_cl inl (px_sx inl f)) Q mc ms (px_sx inl f z mc ms Q) nx i r ls st L M k n
    | some (_, b :: bs, _, _) => px_WP z mc ms Q pc (px_mask (b :: bs) ls) st L M k n
    | none => False) := rfl
theorem px_k_0 (K : px_KT) (nx : Nat) (ls s : List pv) (L : px_lay) (k n : Nat) (M : px_mem) : px_k K nx ls s L k n none M = K nx ls s L M k n := rfl
theorem px_k_s (K : px_KT) (nx : Nat) (ls s : List pv) (L : px_lay) (k n : Nat) (x : pv) (M : px_mem) : px_k K nx ls s L k n (some x) M = K nx ls (x :: s) L M k n := rfl
theorem px_k3_0 (K : px_KT) (nx : Nat) (ls s : List pv) (k n : Nat) (L : px_lay) (M : px_mem) : px_k3 K nx ls s k n none L M = K nx ls s L M k n := rfl
