/-! rows of the pure machine: calls, and a method's contract out of its walk -/
theorem px_pay {args : Array Value} {s : State} (hts : ∀ w ∈ px_tb, w.before args s = true) : ∀ w ∈ px_tb, ∀ (a' : Array Value) (U : State), s.WarmedH U.vm → w.before a' U = true :=
  fun w hw a' U hW => word_at hW (good_of_word (px_good w hw)) (hts w hw)
theorem px_mtc_of {y : px_M} (h : px_mtc y = true) : Cond.code y.1 y.2.1 y.2.2.1 y.2.2.2.1 ∈ px_tb ∧ Cond.initialized y.1.cls ∈ px_tb ∧ plainName y.1.cls = true ∧ (parseMethodDescriptor y.1.desc).map (fun d => d.parameters.length) = some (y.2.2.2.2.getD 4 0) ∧ (y.1.cls ≠ "java/lang/invoke/MethodHandle" ∧ y.1.cls ≠ "java/lang/invoke/VarHandle") ∧
    (y.2.2.2.2.getD 3 0 = 1 → Cond.static y.1 ∈ px_tb) ∧ (y.2.2.2.2.getD 3 0 ≠ 1 → Cond.instanceMethod y.1 ∈ px_tb) ∧ (y.2.2.2.2.getD 3 0 = 0 → Cond.selects y.1.cls y.1 y.1 ∈ px_tb) ∧ (y.2.2.2.2.getD 3 0 = 2 → y.1.name = "<init>") := by
  unfold px_mtc at h
  simp only [Bool.and_eq_true, decide_eq_true_eq] at h
  obtain ⟨⟨⟨⟨⟨⟨⟨⟨-, h1⟩, h2⟩, h3⟩, h4⟩, h5⟩, h6⟩, h7⟩, h8⟩ := h
  refine ⟨px_tbm (List.mem_of_getElem? h1) rfl, px_tbm (List.mem_of_getElem? h2) rfl, h3, h4, h5, fun e => ?_, fun e => ?_, fun e => ?_, fun e => ?_⟩
  · rw [if_pos e, decide_eq_true_eq] at h6
    exact px_tbm (List.mem_of_getElem? h6) rfl
  · rw [if_neg e, decide_eq_true_eq] at h6
    exact px_tbm (List.mem_of_getElem? h6) rfl
  · rw [if_pos e, decide_eq_true_eq] at h7
    exact px_tbm (List.mem_of_getElem? h7) rfl
  · rw [if_pos e, decide_eq_true_eq] at h8
    exact h8
theorem px_clink {z : Nat} {q : px_M} (hq : px_MT[z]? = some q) {j idx z' na : Nat} (hz : z' ≠ 9999) (h : px_CR[j]?.map (fun e => (e.1, e.2.1, e.2.2.1, e.2.2.2.1, e.2.2.2.2.1)) = some (q.2.2.2.2.getD 0 0, idx, z', na, 0)) {y : px_M} (hy : px_MT[z']? = some y) : Cond.methodLink q.1.cls idx y.1 ∈ px_tb := by
  cases hj : px_CR[j]? with
  | none => rw [hj] at h; cases h
  | some e =>
    rw [hj] at h
    obtain ⟨e1, e2, e3, e4, e5, e6⟩ := e
    have h2 := px_crc_all _ (List.mem_of_getElem? hj)
    simp only [Option.map_some, Option.some.injEq, Prod.mk.injEq] at h
    obtain ⟨rfl, rfl, rfl, rfl, rfl⟩ := h
    unfold px_crc at h2
    dsimp only at h2
    rw [px_mt_own hq] at h2
    dsimp only at h2
    rw [if_neg hz, hy] at h2
    dsimp only at h2
    rw [if_pos rfl, decide_eq_true_eq] at h2
    exact px_tbm (List.mem_of_getElem? h2) rfl
def px_cats : List pv → Nat
  | [] => 0
  | x :: st => (if x.1 = 1 then 2 else 1) + px_cats st
theorem px_cats_eq {base : Nat} (st : List pv) : ((st.map (px_v base)).map fun v => v.category).sum = px_cats st := by
  induction st with
  | nil => rfl
  | cons x st ih =>
    rw [List.map_cons, List.map_cons, List.sum_cons, ih]
    unfold px_cats
    congr 1
    obtain ⟨t, a⟩ := x
    by_cases h : t = 1
    · subst h; rfl
    · rw [px_cat1 h, if_neg h]
section PC
variable {p : Program} {l : Launch} {e : Env} {R : Room} {s : State} {m : MethodId} {args : Array Value} {below : List Frame} {meth : Method} {c : Code} {H : Heap} {locs : List Loc} {k n mc ms : Nat} {QF : State → Prop} {base : Nat} {D : va_G} {rls : Array Slot} {pc : Nat}
/-- on behind a call -/
theorem px_back {Q' : Option pv → px_lay → px_mem → Prop} {rest : List pv} {st0 : List Value} {a : Array Value}
    (hr : va_Run p l e R s m args below meth c H locs k n mc ms (F0 m pc rls st0) (rest.map (px_v base)) (px_Qc base D Q' a) (fun a => base ≤ a)) (hS : va_S (fun a => base ≤ a) s.heap H locs)
    (kk : ∀ (r : Option pv) (L' : px_lay) (M' : px_mem) (H1 : Heap) (locs1 : List Loc), (∀ x, r = some x → px_okp x) → Q' r L' M' → px_Rep base D s L' M' H1 → va_S (fun a => base ≤ a) s.heap H1 locs1 → W p l e R s m args below meth c H1 locs1 (k + mc) (n + ms) QF (F0 m (pc + 3) rls ((r.toList ++ rest).map (px_v base)))) :
    W p l e R s m args below meth c H locs k n QF (F0 m pc rls st0) := by
  intro T hT X
  obtain ⟨v, st₀, t, T', L0, h0, X', hL, e1, e2, ⟨⟨r, L', M', hv, hok, hp, hb⟩, hz, hk⟩, st⟩ := hr T hT X
  injection hv with hv
  subst hv
  rw [h0] at hz hk
  have hal : t.vm.Alike s.vm := by rw [← e2]; exact X'.warmed.alike.symm
  obtain ⟨t2, a1, b1⟩ := kk r L' M' T'.heap (locs ++ L0) hok hp (by rw [e1]; exact hb.moved hal) ⟨Nat.le_trans hS.1 (by rw [e1]; exact hz), fun q h1 h2 => by rw [e1, hk q (Nat.lt_of_lt_of_le h1 hS.1) h2]; exact hS.2.1 q h1 h2, fun q hq => by
      rcases List.mem_append.mp hq with h | h
      · exact hS.2.2 q h
      · exact hL q h⟩ T' rfl X'
  refine ⟨t2, st t2 ?_, b1⟩
  have he : (r.toList ++ rest).map (px_v base) = (r.map (px_v base)).toList ++ rest.map (px_v base) := by cases r <;> rfl
  rw [he] at a1
  exact a1
end PC
theorem px_blind {base : Nat} {D : va_G} {as : List pv} {L : px_lay} {M : px_mem} : FrameBlind (px_Pc base D as L M) := fun a U g mk h => by
  obtain ⟨h1, h2, h3, h4, h5⟩ := h
  exact ⟨h1, h2, px_Rep.moved (s := U) (t := U.calling g mk a) (Vm.Alike.refl U.vm) h3, va_K.moved (u := U) (U := U.calling g mk a) (Vm.Alike.refl U.vm) h4, px_AO.moved (u := U) (U := U.calling g mk a) (Vm.Alike.refl U.vm) h5⟩
section PD
variable {z mc ms : Nat} {Q : Option pv → px_lay → px_mem → Nat → Nat → Prop} {pc : Nat} {ls st : List pv} {L : px_lay} {M : px_mem} {k n : Nat} {q : px_M}
theorem px_math_of {z' : Nat} {y : px_M} (hy : px_MT[z']? = some y) (ho : y.2.2.2.2.getD 0 0 = 14) : z' = 307 ∨ z' = 308 := by
  have hl : z' < 310 := by rw [← px_mlen]; exact (List.getElem?_eq_some_iff.mp hy).1
  exact of_decide_eq_true (List.all_eq_true.mp px_math z' (List.mem_range.mpr hl)) (by rw [hy]; exact congrArg some ho)
theorem px_not_law {z' : Nat} {y : px_M} (hq : px_MT[z]? = some q) (hy : px_MT[z']? = some y) (hf : y.2.2.2.2.getD 1 0 + 1 ≤ q.2.2.2.2.getD 1 0) (h7 : z' ≠ 307) (h8 : z' ≠ 308) : px_mtc y = true := by
  have hle : q.2.2.2.2.getD 1 0 ≤ 8 := of_decide_eq_true (List.all_eq_true.mp px_fr_le q (List.mem_of_getElem? hq))
  rcases px_mt_all y (List.mem_of_getElem? hy) with h | h | h | h
  · exact h
  · subst h; rcases px_math_of hy rfl with h | h
    · exact absurd h h7
    · exact absurd h h8
  · subst h; rcases px_math_of hy rfl with h | h
    · exact absurd h h7
    · exact absurd h h8
  · subst h
    exact absurd hf (by show ¬ (8 + 1 ≤ _); omega)
theorem px_ow_lt {c o : Nat} (h : px_OW[c]? = some o) : c < 80 := Nat.lt_trans (List.getElem?_eq_some_iff.mp h).1 (by decide)
set_option maxHeartbeats 1000000 in
theorem pi_callV (hq : px_MT[z]? = some q) {idx z' na c j : Nat} (hd : decode q.2.1 pc = .ok (.invokevirtual idx, 3)) (hr : px_rchk q pc (.invokevirtual idx) [z', na, c, j] = true) {as rest : List pv} {v : Int} (hna : as.length = na) (hkd : px_kd L v = 10 + c) (h7 : z' ≠ 307) (h8 : z' ≠ 308) (h9 : z' ≠ 9999) (hcat : px_cats rest ≤ 8) {mc' ms' : Nat} (hk1 : k + mc' ≤ mc) (hn1 : n + ms' ≤ ms) {Q' : Option pv → px_lay → px_mem → Prop} (hOk : px_Okg z' ((2, v) :: as) L M mc' ms' Q')
    (h : ∀ r L' M', Q' r L' M' → px_WP z mc ms Q (pc + 3) ls (r.toList ++ rest) L' M' (k + mc') (n + ms')) : px_WP z mc ms Q pc ls (as.reverse ++ (2, v) :: rest) L M k n := by
  obtain ⟨y, hy, hM⟩ := hOk
  unfold px_rchk at hr
  rw [hy] at hr
  simp only [Bool.and_eq_true, decide_eq_true_eq] at hr
  obtain ⟨hr1, ⟨⟨⟨⟨r1, r2⟩, r3⟩, r4⟩, r5⟩⟩ := hr
  have hmtc := px_not_law hq hy r4 h7 h8
  obtain ⟨w1, w2, w3, w4, w5, w6, w7, w8, w9⟩ := px_mtc_of hmtc
  have wl := px_clink hq h9 hr1 hy
  intro q' p l e R s m args below meth cd QF base D H locs rls hq' X hk hn hR hS hL hst
  cases hq.symm.trans hq'
  have hts := X.2.2.2.2.1
  obtain ⟨a, e1, e2, e3, ⟨C, hC, hC2⟩, hcell, -⟩ := px_cell_obj hR hkd (px_ow_lt r1)
  have hcls : C.1 = y.1.cls := by
    obtain ⟨o, ho1, ho2⟩ := px_ow_of c C hC
    cases r1.symm.trans ho1
    exact Option.some.inj (ho2.symm.trans (px_mt_own hy))
  have hfc := (X.2.2.2.2.2.1.1 c C hC).2.1
  rw [hcls] at hfc
  obtain ⟨cell, q1, q2, q3, -⟩ := hcell
  have hargs : ∀ x ∈ (2, v) :: as, px_okp x := by
    intro x hx
    rcases List.mem_cons.mp hx with h | h
    · exact hst x (by simp [h])
    · exact hst x (by simp [h])
  have hrun := va_runV (R := R) (cells := k) (slots := n) (g := F0 m pc rls ((as.reverse ++ (2, v) :: rest).map (px_v base))) (As := as.map (px_v base)) (rest := rest.map (px_v base)) (b := base + a) (C := y.1.cls) (own := q.1.cls) (index := idx) (n := na) (nL := q.2.2.1) (H := H) (locs := locs) ⟨X.1, X.2.1, X.2.2.1, X.2.2.2.1, hts⟩ (hM l base D)
    ⟨⟨rfl, rfl, Nat.le_trans r4 X.2.2.2.2.2.2.2.1.1, Nat.le_trans r5 X.2.2.2.2.2.2.2.1.2, fun w hw => (List.mem_cons.mp hw).elim (fun h => px_pay hts w (h ▸ w1)) (px_pay hts w), List.mem_cons_self, hts _ w1, hts _ w2, w5, fun sig h => by rw [h] at w4; have := Option.some.inj w4; rw [← r3]; exact this.symm, hts _ wl⟩, hts _ (w7 (by rw [r2]; decide)), hts _ (w8 r2)⟩
    ⟨px_blind, ⟨cell, q1, by rw [q3]; rfl, by rw [q2]; exact hfc⟩, fun U hU hW => ⟨by rw [List.map_cons, px_v2 base (show 0 < v by omega), e2], hargs, by rw [hU]; exact hR.moved hW.alike, va_K.moved hW.alike X.2.2.2.2.2.1, px_AO.moved hW.alike X.2.2.2.2.2.2.2.2.2.1.2⟩⟩
    rfl (by rw [List.length_map]; exact hna) hL.2.1 (by show (as.reverse ++ (2, v) :: rest).map (px_v base) = _; rw [List.map_append, List.map_cons, px_v2 base (show 0 < v by omega), e2, List.map_reverse]) (lv_room (by rw [px_cats_eq]; exact hcat)) hd ⟨by rw [X.2.2.2.2.2.2.1.1]; exact hk1, by rw [X.2.2.2.2.2.2.1.2]; exact hn1⟩
  refine px_back hrun hS (fun r L' M' H1 locs1 hok hQ hR1 hS1 => ?_)
  refine h r L' M' hQ q p l e R s m args below meth cd QF base D H1 locs1 rls hq X hk1 hn1 hR1 hS1 hL (fun x hx => ?_)
  rcases List.mem_append.mp hx with h | h
  · cases r with
    | none => cases h
    | some r => exact hok x (by rw [List.mem_singleton.mp h])
  · exact hst x (by simp [h])
set_option maxHeartbeats 1000000 in
theorem pi_callS (hq : px_MT[z]? = some q) {idx z' na c j : Nat} (hd : decode q.2.1 pc = .ok (.invokestatic idx, 3)) (hr : px_rchk q pc (.invokestatic idx) [z', na, c, j] = true) {as rest : List pv} (hna : as.length = na) (h7 : z' ≠ 307) (h8 : z' ≠ 308) (h9 : z' ≠ 9999) (hcat : px_cats rest ≤ 8) {mc' ms' : Nat} (hk1 : k + mc' ≤ mc) (hn1 : n + ms' ≤ ms) {Q' : Option pv → px_lay → px_mem → Prop} (hOk : px_Okg z' as L M mc' ms' Q')
    (h : ∀ r L' M', Q' r L' M' → px_WP z mc ms Q (pc + 3) ls (r.toList ++ rest) L' M' (k + mc') (n + ms')) : px_WP z mc ms Q pc ls (as.reverse ++ rest) L M k n := by
  obtain ⟨y, hy, hM⟩ := hOk
  unfold px_rchk at hr
  rw [hy] at hr
  simp only [Bool.and_eq_true, decide_eq_true_eq] at hr
  obtain ⟨hr1, ⟨⟨⟨r2, r3⟩, r4⟩, r5⟩⟩ := hr
  have hmtc := px_not_law hq hy r4 h7 h8
  obtain ⟨w1, w2, w3, w4, w5, w6, w7, w8, w9⟩ := px_mtc_of hmtc
  have wl := px_clink hq h9 hr1 hy
  intro q' p l e R s m args below meth cd QF base D H locs rls hq' X hk hn hR hS hL hst
  cases hq.symm.trans hq'
  have hts := X.2.2.2.2.1
  have hrun := va_runS (R := R) (cells := k) (slots := n) (g := F0 m pc rls ((as.reverse ++ rest).map (px_v base))) (As := as.map (px_v base)) (rest := rest.map (px_v base)) (own := q.1.cls) (index := idx) (n := na) (nL := q.2.2.1) (H := H) (locs := locs) ⟨X.1, X.2.1, X.2.2.1, X.2.2.2.1, hts⟩ (hM l base D)
    ⟨⟨rfl, rfl, Nat.le_trans r4 X.2.2.2.2.2.2.2.1.1, Nat.le_trans r5 X.2.2.2.2.2.2.2.1.2, fun w hw => (List.mem_cons.mp hw).elim (fun h => px_pay hts w (h ▸ w1)) (px_pay hts w), List.mem_cons_self, hts _ w1, hts _ w2, w5, fun sig h => by rw [h] at w4; have := Option.some.inj w4; rw [← r3]; exact this.symm, hts _ wl⟩, hts _ (w6 r2)⟩
    ⟨px_blind, fun U hU hW => ⟨rfl, fun x hx => hst x (by simp [hx]), by rw [hU]; exact hR.moved hW.alike, va_K.moved hW.alike X.2.2.2.2.2.1, px_AO.moved hW.alike X.2.2.2.2.2.2.2.2.2.1.2⟩⟩
    rfl (by rw [List.length_map]; exact hna) hL.2.1 (by show (as.reverse ++ rest).map (px_v base) = _; rw [List.map_append, List.map_reverse]) (lv_room (by rw [px_cats_eq]; exact hcat)) hd ⟨by rw [X.2.2.2.2.2.2.1.1]; exact hk1, by rw [X.2.2.2.2.2.2.1.2]; exact hn1⟩
  refine px_back hrun hS (fun r L' M' H1 locs1 hok hQ hR1 hS1 => ?_)
  refine h r L' M' hQ q p l e R s m args below meth cd QF base D H1 locs1 rls hq X hk1 hn1 hR1 hS1 hL (fun x hx => ?_)
  rcases List.mem_append.mp hx with h | h
  · cases r with
    | none => cases h
    | some r => exact hok x (by rw [List.mem_singleton.mp h])
  · exact hst x (by simp [h])
end PD
