/-! many steps at once, up to the cuts; calls of small methods run on the spot -/
def px_cl (inl : List Nat) (S : Nat → Nat → Nat → (Option pv → px_lay → px_mem → Nat → Nat → Prop) → px_KT) (z : Nat) (as : List pv) (L : px_lay) (M : px_mem) (Q : Option pv → px_mem → Prop) : Prop :=
  if z ∈ inl then (z < 307 ∧ px_cats as ≤ px_ml z) ∧ S z 0 0 (fun r L' M' _ _ => L' = L ∧ Q r M') 0 (px_ent as (px_ml z)) [] L M 0 0 else px_Ok z as L M Q
def px_sx (inl : List Nat) : Nat → Nat → Nat → Nat → (Option pv → px_lay → px_mem → Nat → Nat → Prop) → Nat → List pv → List pv → px_lay → px_mem → Nat → Nat → Prop
  | 0, z, mc, ms, Q, pc, ls, st, L, M, k, n => px_WP z mc ms Q pc ls st L M k n
  | f + 1, z, mc, ms, Q, pc, ls, st, L, M, k, n => match px_at z pc with
    | some (nx, [], i, r) => px_step (px_cl inl (px_sx inl f)) Q mc ms (px_sx inl f z mc ms Q) nx i r ls st L M k n
    | some (_, b :: bs, _, _) => px_WP z mc ms Q pc (px_mask (b :: bs) ls) st L M k n
    | none => False
theorem px_cl_ok {inl : List Nat} {S : Nat → Nat → Nat → (Option pv → px_lay → px_mem → Nat → Nat → Prop) → px_KT} (hS : ∀ z mc ms Q pc ls st L M k n, S z mc ms Q pc ls st L M k n → px_WP z mc ms Q pc ls st L M k n) : ∀ z as L M Q', px_cl inl S z as L M Q' → px_Ok z as L M Q' := by
  intro z as L M Q' h
  unfold px_cl at h
  by_cases hz : z ∈ inl
  · rw [if_pos hz] at h
    obtain ⟨⟨h1, h2⟩, h3⟩ := h
    obtain ⟨q, hq, hm⟩ := px_mt_lt h1
    have hml : px_ml z = q.2.2.1 := by unfold px_ml; rw [hq]
    rw [hml] at h2 h3
    exact px_ok_intro hq hm h2 (hS _ _ _ _ _ _ _ _ _ _ _ h3)
  · rw [if_neg hz] at h
    exact h
theorem px_sx_ok {inl : List Nat} {f z mc ms : Nat} {Q : Option pv → px_lay → px_mem → Nat → Nat → Prop} {pc : Nat} {ls st : List pv} {L : px_lay} {M : px_mem} {k n : Nat} (h : px_sx inl f z mc ms Q pc ls st L M k n) : px_WP z mc ms Q pc ls st L M k n := by
  induction f generalizing z mc ms Q pc ls st L M k n with
  | zero => exact h
  | succ f ih =>
    unfold px_sx at h
    split at h
    · next nx i r hat => exact px_step_ok (fun pc ls st L M k n h => ih h) (px_cl_ok (fun z mc ms Q pc ls st L M k n h => ih h)) hat h
    · exact pi_mask h
    · exact h.elim
/-- from a cut on, or from anywhere -/
def px_go (inl : List Nat) (f z mc ms : Nat) (Q : Option pv → px_lay → px_mem → Nat → Nat → Prop) (pc : Nat) (ls st : List pv) (L : px_lay) (M : px_mem) (k n : Nat) : Prop := match px_at z pc with
  | some (nx, _, i, r) => px_step (px_cl inl (px_sx inl f)) Q mc ms (px_sx inl f z mc ms Q) nx i r ls st L M k n
  | none => False
theorem px_go_ok {inl : List Nat} {z mc ms : Nat} {Q : Option pv → px_lay → px_mem → Nat → Nat → Prop} {pc : Nat} {ls st : List pv} {L : px_lay} {M : px_mem} {k n : Nat} (f : Nat) (h : px_go inl f z mc ms Q pc ls st L M k n) : px_WP z mc ms Q pc ls st L M k n := by
  unfold px_go at h
  split at h
  · next nx hm i r hat => exact px_step_ok (fun pc ls st L M k n h => px_sx_ok h) (px_cl_ok (fun z mc ms Q pc ls st L M k n h => px_sx_ok h)) hat h
  · exact h.elim
def px_Q0 (L : px_lay) (Q : Option pv → px_mem → Prop) : Option pv → px_lay → px_mem → Nat → Nat → Prop := fun r L' M' _ _ => L' = L ∧ Q r M'
theorem px_Q0_at (L : px_lay) (Q : Option pv → px_mem → Prop) (r : Option pv) (L' : px_lay) (M' : px_mem) (k n : Nat) : px_Q0 L Q r L' M' k n = (L' = L ∧ Q r M') := rfl
/-- a contract that keeps the layout, out of a run from the entry -/
theorem px_ok_go {inl : List Nat} {z : Nat} {as ls0 : List pv} {L : px_lay} {M : px_mem} {Q : Option pv → px_mem → Prop} (f : Nat) (hz : z < 307) (hc : px_cats as ≤ px_ml z) (he : px_ent as (px_ml z) = ls0) (h : px_go inl f z 0 0 (px_Q0 L Q) 0 ls0 [] L M 0 0) : px_Ok z as L M Q := by
  obtain ⟨q, hq, hm⟩ := px_mt_lt hz
  have hml : px_ml z = q.2.2.1 := by unfold px_ml; rw [hq]
  subst he
  rw [hml] at hc h
  exact px_ok_intro hq hm hc (px_go_ok f h)
/-- more is known of the answer than is asked -/
theorem px_Okg.mono {z : Nat} {as : List pv} {L : px_lay} {M : px_mem} {mc ms : Nat} {Q Q' : Option pv → px_lay → px_mem → Prop} (h : px_Okg z as L M mc ms Q) (hQ : ∀ r L' M', Q r L' M' → Q' r L' M') : px_Okg z as L M mc ms Q' := by
  obtain ⟨q, hq, hM⟩ := h
  refine ⟨q, hq, fun l base D => ?_⟩
  have h1 := hM l base D
  intro p e a1 a2 a3 s m args below a4 a5 a6 a7
  obtain ⟨n, o, b1, b2, b3, ⟨⟨⟨r, L', M', c1, c2, c3, c4⟩, c5⟩, b4⟩⟩ := h1 p e a1 a2 a3 s m args below a4 a5 a6 a7
  exact ⟨n, o, b1, b2, b3, ⟨⟨⟨r, L', M', c1, c2, hQ _ _ _ c3, c4⟩, c5⟩, b4⟩⟩
theorem px_Ok.mono {z : Nat} {as : List pv} {L : px_lay} {M : px_mem} {Q Q' : Option pv → px_mem → Prop} (h : px_Ok z as L M Q) (hQ : ∀ r M', Q r M' → Q' r M') : px_Ok z as L M Q' :=
  px_Okg.mono h (fun _ _ _ h => ⟨h.1, hQ _ _ h.2⟩)
