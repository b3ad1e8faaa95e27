/-! rows of the pure machine: fields and arrays -/
theorem px_row_ne {M : px_mem} {v j x b : Int} (h : b ≠ v) : px_up M v j x b = M b := by
  funext i
  unfold px_up
  rw [if_neg (fun e => h e.1)]
theorem px_row_eq {M : px_mem} {v j x i : Int} : px_up M v j x v i = if i = j then x else M v i := by
  unfold px_up
  by_cases h : i = j <;> simp [h]
theorem px_sv_up {e : Nat × Nat × List Int} {M : px_mem} {v : Int} {j : Nat} {x : Int} (hd : px_dye e j) (i : Nat) : px_sv e (px_up M v j x v) i = if i = j then x else px_sv e (M v) i := by
  obtain ⟨kd, N, st⟩ := e
  unfold px_dye at hd
  dsimp only at hd
  have hrow : px_up M v (j : Int) x v (i : Int) = if i = j then x else M v (i : Int) := by
    rw [px_row_eq]
    by_cases h : i = j
    · rw [if_pos h, if_pos (by rw [h])]
    · rw [if_neg h, if_neg (by omega)]
  unfold px_sv
  dsimp only
  by_cases h4 : kd < 4
  · rw [if_pos h4, if_pos h4, hrow]
  · rw [if_neg h4, if_neg h4]
    rcases hd with hd | hd
    · exact absurd hd h4
    · cases st with
      | nil => dsimp only; rw [hrow]
      | cons f fs =>
        dsimp only
        by_cases h10 : kd < 10
        · cases hd.2 h10
        · rw [if_neg h10, if_neg h10, hrow, Int.toNat_natCast]
          by_cases hi : i = j
          · subst hi
            rw [if_pos hd.1, if_pos rfl, if_pos rfl]
          · rw [if_neg hi, if_neg hi]
/-- a write into one slot of one cell -/
theorem px_Rep_set {base : Nat} {D : va_G} {s : State} {L : px_lay} {M : px_mem} {H H1 : Heap} (h : px_Rep base D s L M H) {a : Nat} {e : Nat × Nat × List Int} (ha : L[a]? = some e) {j : Nat} {x : Int} (hd : px_dye e j)
    (hx : px_okv (px_tag e.1 j) x) (hz : H1.size = H.size) (ho : ∀ q, q ≠ base + a → H1[q]? = H[q]?)
    (hc : px_cell base D s e (M ((a : Int) + 1)) H (base + a) → px_cell base D s e (px_up M ((a : Int) + 1) j x ((a : Int) + 1)) H1 (base + a)) : px_Rep base D s L (px_up M ((a : Int) + 1) j x) H1 := by
  refine ⟨by rw [hz]; exact h.1, fun b eb hb => ?_⟩
  by_cases hab : b = a
  · subst hab
    cases ha.symm.trans hb
    refine ⟨hc (h.2 b e hb).1, fun k hk => ?_⟩
    rw [px_sv_up hd k]
    by_cases hkj : k = j
    · rw [if_pos hkj, hkj]; exact hx
    · rw [if_neg hkj]; exact (h.2 b e hb).2 k hk
  · have hne : ((b : Int) + 1) ≠ (a : Int) + 1 := by omega
    rw [px_row_ne hne]
    obtain ⟨h1, h2⟩ := h.2 b eb hb
    refine ⟨?_, h2⟩
    unfold px_cell at h1 ⊢
    have hq : base + b ≠ base + a := by omega
    by_cases hk : eb.1 < 10
    · rw [if_pos hk] at h1 ⊢
      rw [ho _ hq]
      exact h1
    · rw [if_neg hk] at h1 ⊢
      exact ⟨h1.1, h1.2.kept (ho _ hq)⟩
theorem px_S_put {base : Nat} {H0 H H1 : Heap} {locs : List Loc} {a k : Nat} (h : va_S (fun a => base ≤ a) H0 H locs) (z : H1.size = H.size) (oq : ∀ q : Nat, q ≠ base + a → H1[q]? = H[q]?) : va_S (fun a => base ≤ a) H0 H1 (locs ++ [⟨base + a, k⟩]) :=
  h.put z oq (by show base ≤ base + a; omega)
theorem px_tag_stk {t : Nat} {v : Int} (ht : t < 5) (h : px_okv t v) : px_okp (px_stk t, v) := by
  unfold px_stk
  obtain ⟨h0, h1, h2, h3, h4⟩ := h
  by_cases e1 : t = 1
  · rw [if_pos e1]; exact px_ok1 (h1 e1)
  · rw [if_neg e1]
    by_cases e2 : t = 2
    · rw [if_pos e2]; exact px_ok2 (h2 e2)
    · rw [if_neg e2]
      refine px_ok0 ?_
      rcases (by omega : t = 0 ∨ t = 3 ∨ t = 4) with e | e | e
      · exact h0 e
      · have := h3 e; exact ⟨by omega, by omega⟩
      · have := h4 e; exact ⟨by omega, by omega⟩
theorem px_ftag_lt (c k : Nat) : px_ftag c k < 5 := by
  unfold px_ftag
  split
  · split <;> decide
  · decide
theorem px_ktag_lt (kd : Nat) : px_ktag kd < 5 := by
  unfold px_ktag
  split <;> decide
theorem px_v_stk (base t : Nat) (v : Int) : px_v base (px_stk t, v) = px_v base (t, v) := by
  unfold px_v px_stk
  by_cases e1 : t = 1
  · simp [e1]
  · by_cases e2 : t = 2
    · simp [e2]
    · simp [e1, e2]

theorem px_mt_own {z : Nat} {q : px_M} (hq : px_MT[z]? = some q) : px_R[q.2.2.2.2.getD 0 0]? = some q.1.cls := by
  rcases px_mt_all q (List.mem_of_getElem? hq) with h | h
  · unfold px_mtc at h
    simp only [Bool.and_eq_true, decide_eq_true_eq] at h
    exact h.1.1.1.1.1.1.1.1
  · rcases h with h | h | h <;> (subst h; rfl)
/-- a field's link -/
theorem px_flink {z : Nat} {q : px_M} (hq : px_MT[z]? = some q) {idx c k j : Nat} (h : px_FR[j]?.map (fun e => (e.1, e.2.1, e.2.2.1, e.2.2.2.1)) = some (q.2.2.2.2.getD 0 0, idx, c, k)) :
    ∃ C : vw_C, vwCl[c]? = some C ∧ k < C.2.2 ∧ Cond.fieldLink q.1.cls idx (C.2.1 k).1 (C.2.1 k).2.1 (C.2.1 k).2.2.1 ∈ px_tb := by
  cases hj : px_FR[j]? with
  | none => rw [hj] at h; cases h
  | some e =>
    rw [hj] at h
    obtain ⟨e1, e2, e3, e4, e5⟩ := e
    have h2 := px_frc_all _ (List.mem_of_getElem? hj)
    simp only [Option.map_some, Option.some.injEq, Prod.mk.injEq] at h
    obtain ⟨rfl, rfl, rfl, rfl⟩ := h
    unfold px_frc at h2
    dsimp only at h2
    rw [px_mt_own hq] at h2
    cases hc : vwCl[e3]? with
    | none => rw [hc] at h2; cases h2
    | some C =>
      rw [hc] at h2
      simp only [Bool.and_eq_true, decide_eq_true_eq] at h2
      exact ⟨C, rfl, h2.2, px_tbm (List.mem_of_getElem? h2.1) rfl⟩
theorem px_cell_obj {base : Nat} {D : va_G} {s : State} {L : px_lay} {M : px_mem} {H : Heap} (hR : px_Rep base D s L M H) {v : Int} {c : Nat} (hkd : px_kd L v = 10 + c) (hc : c < 80) :
    ∃ a : Nat, v = (a : Int) + 1 ∧ (v - 1).toNat = a ∧ L[a]? = some (px_en L v) ∧ (∃ r : vw_C, vwCl[c]? = some r ∧ r.2.2 = (px_en L v).2.1) ∧ t_OB (base + a) (D.1 c) (px_en L v).2.1 (D.2 c) H (fun k => px_v base (px_ftag c k, px_sv (px_en L v) (M v) k)) ∧ ∀ k : Nat, k < (px_en L v).2.1 → px_okv (px_ftag c k) (px_sv (px_en L v) (M v) k) := by
  obtain ⟨a, e1, e2, e3⟩ := px_en_get (L := L) (v := v) (by omega)
  obtain ⟨h1, h2⟩ := hR.2 a _ e3
  rw [← e1] at h1 h2
  unfold px_cell at h1
  have hk : (px_en L v).1 = 10 + c := hkd
  rw [if_neg (by omega), hk, show 10 + c - 10 = c by omega] at h1
  refine ⟨a, e1, e2, e3, h1.1, h1.2, fun k hk2 => ?_⟩
  have h3 := h2 k hk2
  unfold px_tag at h3
  rw [if_neg (by omega), hk, show 10 + c - 10 = c by omega] at h3
  exact h3
theorem px_cell_arr {base : Nat} {D : va_G} {s : State} {L : px_lay} {M : px_mem} {H : Heap} (hR : px_Rep base D s L M H) {v : Int} {kd : Nat} (hkd : px_kd L v = kd) (hc : kd < 10) :
    ∃ (a : Nat) (cA : ClassId), v = (a : Int) + 1 ∧ (v - 1).toNat = a ∧ L[a]? = some (px_en L v) ∧ H[base + a]? = some (arrV cA (px_en L v).2.1 (fun j => px_v base (px_ktag kd, px_sv (px_en L v) (M v) j))) ∧ px_arr s cA kd ∧ ∀ k : Nat, k < (px_en L v).2.1 → px_okv (px_ktag kd) (px_sv (px_en L v) (M v) k) := by
  obtain ⟨a, e1, e2, e3⟩ := px_en_get (L := L) (v := v) (by omega)
  obtain ⟨h1, h2⟩ := hR.2 a _ e3
  rw [← e1] at h1 h2
  unfold px_cell at h1
  have hk : (px_en L v).1 = kd := hkd
  rw [if_pos (by omega), hk] at h1
  obtain ⟨cA, g1, g2⟩ := h1
  refine ⟨a, cA, e1, e2, e3, g1, g2, fun k hk2 => ?_⟩
  have h3 := h2 k hk2
  unfold px_tag at h3
  rw [if_pos (by omega), hk] at h3
  exact h3
theorem px_vwCl_lt {c : Nat} {C : vw_C} (h : vwCl[c]? = some C) : c < 12 := (List.getElem?_eq_some_iff.mp h).1
section PH
variable {z mc ms : Nat} {Q : Option pv → px_lay → px_mem → Nat → Nat → Prop} {pc : Nat} {ls st : List pv} {L : px_lay} {M : px_mem} {k n : Nat} {q : px_M}
set_option maxHeartbeats 1000000 in
theorem pi_getf (hq : px_MT[z]? = some q) {idx c f t fin j : Nat} (hd : decode q.2.1 pc = .ok (.getfield idx, 3)) (hr : px_rchk q pc (.getfield idx) [c, f, t, fin, j] = true) {v : Int} (hkd : px_kd L v = 10 + c) (h : px_WP z mc ms Q (pc + 3) ls ((px_stk t, px_gf L M v f) :: st) L M k n) : px_WP z mc ms Q pc ls ((2, v) :: st) L M k n := by
  unfold px_rchk at hr
  simp only [Bool.and_eq_true, decide_eq_true_eq] at hr
  obtain ⟨⟨hr1, hr2⟩, -⟩ := hr
  obtain ⟨C, hC, hf, hlink⟩ := px_flink hq hr1
  intro q' p l e R s m args below meth cd QF base D H locs rls hq' X hk hn hR hS hL hst
  cases hq.symm.trans hq'
  have hc12 := px_vwCl_lt hC
  obtain ⟨a, e1, e2, e3, ⟨r, hr3, hr4⟩, hcell, hok⟩ := px_cell_obj hR hkd (by omega)
  cases hC.symm.trans hr3
  rw [← hr4] at hcell hok
  have hv0 : 0 < v := by omega
  show W p l e R s m args below meth cd H locs k n QF (F0 m pc rls (px_v base (2, v) :: _))
  rw [px_v2 base hv0, e2]
  obtain ⟨cell, q1, q2, q3, q4⟩ := hcell
  obtain ⟨hS1, hfc, kC, hkC, hkind⟩ := X.2.2.2.2.2.1.1 c _ hC
  obtain ⟨cf, kf, fi, fd, hi, hsl⟩ := hS1 f hf
  have h2 := h q p l e R s m args below meth cd QF base D H locs rls hq X hk hn hR hS hL (px_oc (by rw [← hr2]; exact px_tag_stk (px_ftag_lt c f) (hok f hf)) (fun y hy => hst y (by simp [hy])))
  refine W.getf X.1 X.2.1 X.2.2.2.1 (X.2.2.2.2.1 _ hlink) hi (u_facts hfc hkC (u_lays X.2.2.2.2.1 (px_ws_in c C hC) hf) hi).1 q1 (by rw [q3]; exact fun h => by cases h) (v := px_v base (px_ftag c f, px_sv (px_en L v) (M v) f)) ?_ rfl rfl hd ?_
  · rw [hsl]; exact q4 f hf
  · rw [← px_v_stk, hr2]
    exact h2
def px_tty : FieldType → Nat
  | .int => 0
  | .long => 1
  | .byte => 3
  | .boolean => 4
  | _ => 2
theorem px_ftag_eq {c f : Nat} {g : Nat → FieldType} (hg : px_TY[c]? = some g) : px_ftag c f = px_tty (g f) := by
  unfold px_ftag
  rw [hg]
  dsimp only
  cases g f <;> rfl
theorem px_fit_ty {base : Nat} {ty : FieldType} {x : Int} (hx : px_okv (px_tty ty) x) (hcl : ty = .int ∨ ty = .long ∨ ty = .boolean ∨ (∃ t, ty = .object t) ∨ ∃ t, ty = .array t) : narrow ty (px_v base (px_tty ty, x)) = px_v base (px_tty ty, x) ∧ fits ty (px_v base (px_tty ty, x)) = true := by
  rcases hcl with rfl | rfl | rfl | ⟨t, rfl⟩ | ⟨t, rfl⟩
  · exact ⟨rfl, rfl⟩
  · exact ⟨rfl, rfl⟩
  · rcases hx.2.2.2.2 rfl with rfl | rfl
    · exact ⟨rfl, rfl⟩
    · exact ⟨rfl, rfl⟩
  · show narrow _ (px_v base (2, x)) = px_v base (2, x) ∧ fits _ (px_v base (2, x)) = true
    by_cases h0 : x ≤ 0
    · rw [px_vN base h0]; exact ⟨rfl, rfl⟩
    · rw [px_v2 base (by omega)]; exact ⟨rfl, rfl⟩
  · show narrow _ (px_v base (2, x)) = px_v base (2, x) ∧ fits _ (px_v base (2, x)) = true
    by_cases h0 : x ≤ 0
    · rw [px_vN base h0]; exact ⟨rfl, rfl⟩
    · rw [px_v2 base (by omega)]; exact ⟨rfl, rfl⟩
theorem px_fty_ok : ∀ (c : Nat) (g : Nat → FieldType), px_TY[c]? = some g → ∀ f, g f = .int ∨ g f = .long ∨ g f = .boolean ∨ (∃ t, g f = .object t) ∨ ∃ t, g f = .array t := by
  intro c g h f
  match c, h with
  | 0, h => cases h; unfold tyX0; split <;> simp
  | 1, h => cases h; unfold tyX1; split <;> simp
  | 2, h => cases h; unfold tyX2; split <;> simp
  | 3, h => cases h; unfold tyX3; split <;> simp
  | 4, h => cases h; unfold tyX4; split <;> simp
  | 5, h => cases h; unfold tyX6; split <;> simp
  | 6, h => cases h; unfold tyX7; split <;> simp
  | 7, h => cases h; unfold tyX8; split <;> simp
  | 8, h => cases h; unfold tyX9; split <;> simp
  | 9, h => cases h; unfold tyX10; split <;> simp
  | 10, h => cases h; unfold tyX11; split <;> simp
  | 11, h => cases h; unfold tyX12; split <;> simp
  | c + 12, h => exact absurd h (by simp [px_TY])
set_option maxHeartbeats 2000000 in
theorem pi_putf (hq : px_MT[z]? = some q) {idx c f t fin j : Nat} (hd : decode q.2.1 pc = .ok (.putfield idx, 3)) (hr : px_rchk q pc (.putfield idx) [c, f, t, fin, j] = true) {v x : Int} (hkd : px_kd L v = 10 + c) (hdy : px_dy L v f) (hx : t = 4 → x = 0 ∨ x = 1) (ht3 : t ≠ 3) (h : px_WP z mc ms Q (pc + 3) ls st L (px_up M v f x) k n) : px_WP z mc ms Q pc ls ((px_stk t, x) :: (2, v) :: st) L M k n := by
  unfold px_rchk at hr
  simp only [Bool.and_eq_true, decide_eq_true_eq] at hr
  obtain ⟨⟨hr1, hr2⟩, hr5⟩ := hr
  obtain ⟨C, hC, hf, hlink⟩ := px_flink hq hr1
  intro q' p l e R s m args below meth cd QF base D H locs rls hq' X hk hn hR hS hL hst
  cases hq.symm.trans hq'
  have hc12 := px_vwCl_lt hC
  obtain ⟨a, e1, e2, e3, ⟨r, hr3, hr4⟩, hcell, hok⟩ := px_cell_obj hR hkd (by omega)
  cases hC.symm.trans hr3
  rw [← hr4] at hcell hok
  have hv0 : 0 < v := by omega
  obtain ⟨g, hg1, hg2⟩ := px_ty_of c C hC
  have hxok : px_okv (px_ftag c f) x := by
    have hs0 := hst (px_stk t, x) List.mem_cons_self
    have htl := px_ftag_lt c f
    rw [hr2] at htl ⊢
    unfold px_stk at hs0
    rcases (by omega : t = 0 ∨ t = 1 ∨ t = 2 ∨ t = 4) with e | e | e | e
    · subst e; exact hs0.2
    · subst e; exact hs0.2
    · subst e; exact hs0.2
    · subst e; exact ⟨fun h => (by cases h), fun h => (by cases h), fun h => (by cases h), fun h => (by cases h), fun _ => hx rfl⟩
  have hfe := px_ftag_eq (f := f) hg1
  obtain ⟨hna, hfi⟩ := px_fit_ty (base := base) (by rw [← hfe]; exact hxok) (px_fty_ok c g hg1 f)
  rw [← hfe] at hna hfi
  show W p l e R s m args below meth cd H locs k n QF (F0 m pc rls (px_v base (px_stk t, x) :: px_v base (2, v) :: _))
  rw [px_v2 base hv0, e2, px_v_stk, ← hr2]
  have hap := va_apart (own := q.1.cls) X.2.2.2.2.1 (px_ws_in c C hC) g hg2 (px_nm_of c C hC) X.2.2.2.2.2.1 hC
  obtain ⟨cell, q1, q2, q3, q4⟩ := hcell
  obtain ⟨hS1, hfc, kC, hkC, hkind⟩ := X.2.2.2.2.2.1.1 c _ hC
  obtain ⟨cf, kf, fi, fd, hi, hsl⟩ := hS1 f hf
  have hst1 := (u_facts hfc hkC (u_lays X.2.2.2.2.1 (px_ws_in c C hC) hf) hi).1
  have fin_ : ∀ (H1 : Heap), H1[base + a]? = some (cell.setSlot (D.2 c f) (px_v base (px_ftag c f, x))) → H1.size = H.size → (∀ q, q ≠ base + a → H1[q]? = H[q]?) → W p l e R s m args below meth cd H1 (locs ++ [⟨base + a, D.2 c f⟩]) k n QF (F0 m (pc + 3) rls (st.map (px_v base))) := by
    intro H1 g1 g2 g3
    have hen : (px_en L v).1 = 10 + c := hkd
    have hR1 : px_Rep base D s L (px_up M v f x) H1 := by
      rw [e1]
      refine px_Rep_set hR e3 (by unfold px_dy at hdy; rw [Int.toNat_natCast] at hdy; exact hdy) ?_ g2 g3 ?_
      · unfold px_tag
        rw [if_neg (by omega), hen, show 10 + c - 10 = c by omega]
        exact hxok
      · intro hcl
        rw [← e1]
        unfold px_cell
        rw [if_neg (by omega), hen, show 10 + c - 10 = c by omega]
        refine ⟨⟨C, hC, hr4⟩, t_OB.to (V := updV (fun k => px_v base (px_ftag c k, px_sv (px_en L v) (M v) k)) f (px_v base (px_ftag c f, x))) ⟨_, g1, q2, q3, ?_⟩ ?_⟩
        · rw [← hr4]; exact t_set q4 hap hf _
        · intro i hi2
          have hu := px_sv_up (e := px_en L v) (M := M) (v := v) (x := x) hdy i
          simp only [Int.toNat_natCast] at hu
          rw [hu]
          unfold updV
          by_cases hif : i = f
          · subst hif; simp
          · rw [if_neg hif, if_neg hif]
    exact h q p l e R s m args below meth cd QF base D H1 _ rls hq X hk hn hR1 (px_S_put hS g2 g3) hL (fun y hy => hst y (by simp [hy]))
  rw [hC] at hr5
  simp only [Bool.or_eq_true, Bool.and_eq_true, Bool.not_eq_true', decide_eq_true_eq] at hr5
  rcases hr5 with ⟨hfl, -⟩ | ⟨⟨⟨hfl, -⟩, hini⟩, how⟩
  · have hlay := X.2.2.2.2.1 _ (px_ws_in c C hC _ (u_in_lay hf))
    unfold u_lay at hlay
    rw [if_neg (by rw [hfl]; decide)] at hlay
    have h6 := u_store hfc hkC hkind hlay hi (hg2 f hf) hna hfi
    refine W.putK X.1 X.2.1 (f := fd) ⟨X.2.2.2.1, X.2.2.2.2.1 _ hlink, ⟨_, _, _, hi⟩, hst1⟩ (by rw [q2]; exact h6) q1 q3 (by rw [hsl]; exact k2_hasslot (q4 f hf)) rfl rfl hd fun H' g1 g2 g3 => ?_
    rw [hsl] at g1 ⊢
    exact fin_ H' g1 g2 g3
  · have hlay := X.2.2.2.2.1 _ (px_ws_in c C hC _ (u_in_lay hf))
    unfold u_lay at hlay
    rw [if_pos hfl] at hlay
    have hdecl := px_dc_of c C hC f hf
    obtain ⟨o, ho1, ho2⟩ := px_ow_of c C hC
    have hcls : C.1 = q.1.cls := by
      cases how.symm.trans ho1
      exact Option.some.inj (ho2.symm.trans (px_mt_own hq))
    have hcf : m.cls = cf := by
      obtain ⟨_, _, c', _, _, _, -, -, hf', -, -, -, hown2, -⟩ := Cond.laysFinal_spec hlay
      have e1 : c' = cf := by have := hi.symm.trans hf'; simp at this; exact this.1.symm
      rw [hdecl, hcls] at hown2
      rw [← e1]; exact Option.some.inj (X.2.2.2.1.symm.trans hown2)
    have h6 := u_fits hfc hkC hkind (Or.inr hlay) hi (hg2 f hf) hna hfi
    refine W.putFinK X.1 X.2.1 X.2.2.2.1 (X.2.2.2.2.1 _ hlink) hi hst1 hcf (X.2.2.2.2.2.2.2.2.1 hini) (by rw [q2]; exact h6) q1 q3 (by rw [hsl]; exact k2_hasslot (q4 f hf)) rfl rfl hd fun H' g1 g2 g3 => ?_
    rw [hsl] at g1 ⊢
    exact fin_ H' g1 g2 g3
end PH
