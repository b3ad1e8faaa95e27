theorem con_112 : px_Okg 112 [(2, 1)] [(20, 11, [])] (mm []) 125 4958 (fun r L M => r = none ∧ L = LA.take 126 ∧ M = mm WA) := by
  obtain ⟨q, hq, hm⟩ := px_mt_lt (z := 112) (by decide)
  have hml : px_ml 112 = q.2.2.1 := by unfold px_ml; rw [hq]
  have e : px_ml 112 = 1 := rfl
  rw [e] at hml
  refine px_ok_intro hq hm (by rw [← hml]; decide) ?_
  rw [← hml]
  exact (cx_ok cr_112).2.2 (Nat.le_refl _) (Nat.le_refl _) ⟨rfl, rfl, rfl⟩
theorem con_169 : px_Okg 169 [(2, 127)] (LA.take 126 ++ [(21, 36, [])]) (mm WA) 24 10310 (fun r L M => r = none ∧ L = LA ∧ M = mm WB) := by
  obtain ⟨q, hq, hm⟩ := px_mt_lt (z := 169) (by decide)
  have hml : px_ml 169 = q.2.2.1 := by unfold px_ml; rw [hq]
  have e : px_ml 169 = 1 := rfl
  rw [e] at hml
  refine px_ok_intro hq hm (by rw [← hml]; decide) ?_
  rw [← hml]
  exact (cx_ok cr_169).2.2 (Nat.le_refl _) (Nat.le_refl _) ⟨rfl, rfl, rfl⟩
/-- the fields that never change hold what the layout says -/
def rlc (L : px_lay) (W : List (Int × Int × Int)) : Bool := (List.range L.length).all (fun a => match L[a]? with
  | some e => decide (e.2.2 = []) || (List.range e.2.1).all (fun k => decide (px_sv e (mm W ((a : Int) + 1)) (k : Int) = mm W ((a : Int) + 1) (k : Int)))
  | none => true)
theorem rlc_ok : rlc LAY WB = true := by decide +kernel
theorem sv_nil {e : Nat × Nat × List Int} (h : e.2.2 = []) (row : Int → Int) (k : Int) : px_sv e row k = row k := by
  unfold px_sv
  rw [h]
  split <;> rfl
theorem arrV_same {cI : ClassId} {N : Nat} {f g : Nat → Value} (h : ∀ j, j < N → f j = g j) : arrV cI N f = arrV cI N g := by
  unfold arrV
  congr 1
  congr 1
  funext j
  exact h j.val j.isLt
theorem px_relay {base : Nat} {D : va_G} {s : State} {H : Heap} (hR : px_Rep base D s LA (mm WB) H) : px_Rep base D s LAY (mm WB) H := by
  refine ⟨by rw [hR.1]; rfl, fun a e ha => ?_⟩
  have hL : LA[a]? = some (e.1, e.2.1, []) := by unfold LA; rw [List.getElem?_map, ha]; rfl
  obtain ⟨h1, h2⟩ := hR.2 a _ hL
  have hal : a < LAY.length := (List.getElem?_eq_some_iff.mp ha).1
  have hsv : ∀ k : Nat, k < e.2.1 → px_sv (e.1, e.2.1, []) (mm WB ((a : Int) + 1)) (k : Int) = px_sv e (mm WB ((a : Int) + 1)) (k : Int) := by
    intro k hk
    rw [sv_nil rfl]
    have hc := List.all_eq_true.mp rlc_ok a (List.mem_range.mpr hal)
    rw [ha] at hc
    simp only [Bool.or_eq_true, decide_eq_true_eq] at hc
    rcases hc with hc | hc
    · rw [sv_nil hc]
    · exact (of_decide_eq_true (List.all_eq_true.mp hc k (List.mem_range.mpr hk))).symm
  refine ⟨?_, fun k hk => by rw [← hsv k hk]; exact h2 k hk⟩
  unfold px_cell at h1 ⊢
  dsimp only at h1
  by_cases hk : e.1 < 10
  · rw [if_pos hk] at h1 ⊢
    obtain ⟨cA, g1, g2⟩ := h1
    refine ⟨cA, ?_, g2⟩
    rw [g1]
    exact congrArg some (arrV_same (fun j hj => by rw [hsv j hj]))
  · rw [if_neg hk] at h1 ⊢
    exact ⟨h1.1, h1.2.to (fun k hk => by rw [hsv k hk])⟩
theorem mm_no {b : Int} {W : List (Int × Int × Int)} (h : W.all (fun w => decide (w.1 ≠ b)) = true) (i : Int) : mm W b i = 0 := by
  induction W with
  | nil => rfl
  | cons w W ih =>
    obtain ⟨a, j, x⟩ := w
    rw [List.all_cons, Bool.and_eq_true] at h
    have h1 : a ≠ b := of_decide_eq_true h.1
    have h2 := ih h.2
    unfold mm
    split
    · unfold px_nw2
      split
      · exact h2
      · rw [if_neg (by omega)]
    · unfold px_up
      rw [if_neg (by omega)]
      exact h2
/-- a row in a range, by the kernel -/
theorem mm_rg {f : Int → Int} {N : Nat} {P : Int → Int → Bool} (h : (List.range N).all (fun k => P (k : Int) (f (k : Int))) = true) (k : Int) (k0 : 0 ≤ k) (k1 : k < (N : Int)) : P k (f k) = true := by
  have h1 := List.all_eq_true.mp h k.toNat (List.mem_range.mpr (by omega))
  rw [Int.toNat_of_nonneg k0] at h1
  exact h1
theorem fr_62 (c : Int) (c0 : 0 ≤ c) (c1 : c < 40) : mm WB 62 c = -1 := of_decide_eq_true (mm_rg (f := mm WB 62) (N := 40) (P := fun _ v => decide (v = -1)) (by decide +kernel) c c0 c1)
theorem fr_54 (c : Int) (c0 : 0 ≤ c) (c1 : c < 400) : mm WB 54 c = -2 := of_decide_eq_true (mm_rg (f := mm WB 54) (N := 400) (P := fun _ v => decide (v = -2)) (by decide +kernel) c c0 c1)
theorem fr_7 (c : Int) (c0 : 0 ≤ c) (c1 : c < 12) : mm WB 7 c = 8 + c := of_decide_eq_true (mm_rg (f := mm WB 7) (N := 12) (P := fun k v => decide (v = 8 + k)) (by decide +kernel) c c0 c1)
theorem fr_21 (c : Int) (c0 : 0 ≤ c) (c1 : c < 10) : mm WB 21 c = 22 + 3 * c := of_decide_eq_true (mm_rg (f := mm WB 21) (N := 10) (P := fun k v => decide (v = 22 + 3 * k)) (by decide +kernel) c c0 c1)
theorem fr_3 (c : Int) : mm WB 3 c = 0 := mm_no (by decide +kernel) c
theorem fr_53 (c : Int) : mm WB 53 c = 0 := mm_no (by decide +kernel) c
theorem fr_s : mm WB 2 1 = 0 ∧ mm WB 4 3 = 0 ∧ mm WB 4 4 = -2 ∧ mm WB 4 5 = -2 ∧ mm WB 20 1 = 0 ∧ mm WB 20 2 = 0 ∧ mm WB 118 2 = 0 ∧ mm WB 1 10 = 0 ∧ mm WB 127 3 = 0 ∧ mm WB 128 0 = 0 ∧ mm WB 128 1 = -2 ∧ mm WB 128 2 = -2 ∧ mm WB 128 3 = 0 ∧ mm WB 128 4 = 0 ∧ mm WB 128 5 = 0 := by decide +kernel
theorem fr_128 (c : Int) (c0 : 5 < c) : mm WB 128 c = 0 := by
  have h : WB.take 2 = [(128, 2, -2), (128, 1, -2)] := by decide +kernel
  have h2 : (WB.drop 2).all (fun w => decide (w.1 ≠ 128)) = true := by decide +kernel
  have e : WB = WB.take 2 ++ WB.drop 2 := (List.take_append_drop 2 WB).symm
  rw [e, h]
  show (if (2 : Int) = -1 then px_nw2 _ 128 (-2) else px_up _ 128 2 (-2)) 128 c = 0
  rw [if_neg (by decide)]
  unfold px_up
  rw [if_neg (by omega)]
  show (if (1 : Int) = -1 then px_nw2 _ 128 (-2) else px_up _ 128 1 (-2)) 128 c = 0
  rw [if_neg (by decide)]
  unfold px_up
  rw [if_neg (by omega)]
  exact mm_no h2 c
