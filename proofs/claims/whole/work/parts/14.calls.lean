/-! rows of the pure machine: calls, and a method's contract out of its walk -/
theorem px_pay {args : Array Value} {s : State} (hts : ∀ w ∈ px_tb, w.before args s = true) : ∀ w ∈ px_tb, ∀ (a' : Array Value) (U : State), s.WarmedH U.vm → w.before a' U = true :=
  fun w hw a' U hW => word_at hW (good_of_word (px_good w hw)) (hts w hw)
theorem px_mtc_of {y : px_M} (h : px_mtc y = true) : Cond.code y.1 y.2.1 y.2.2.1 y.2.2.2.1 ∈ px_tb ∧ Cond.initialized y.1.cls ∈ px_tb ∧ plainName y.1.cls = true ∧ (parseMethodDescriptor y.1.desc).map (fun d => d.parameters.length) = some (y.2.2.2.2.getD 4 0) ∧ (y.1.cls ≠ "java/lang/invoke/MethodHandle" ∧ y.1.cls ≠ "java/lang/invoke/VarHandle") ∧
    (y.2.2.2.2.getD 3 0 = 1 → Cond.static y.1 ∈ px_tb) ∧ (y.2.2.2.2.getD 3 0 ≠ 1 → Cond.instanceMethod y.1 ∈ px_tb) ∧ (y.2.2.2.2.getD 3 0 = 0 → Cond.selects y.1.cls y.1 y.1 ∈ px_tb) ∧ (y.2.2.2.2.getD 3 0 = 2 → y.1.name = "<init>") := by
  unfold px_mtc at h
  simp only [Bool.and_eq_true, decide_eq_true_eq] at h
  obtain ⟨⟨⟨⟨⟨⟨⟨⟨-, h1⟩, h2⟩, h3⟩, h4⟩, h5⟩, h6⟩, h7⟩, h8⟩ := h
  refine ⟨px_tbm (List.mem_of_getElem? h1) rfl, px_tbm (List.mem_of_getElem? h2) rfl, h3, h4, h5, fun e => ?_, fun e => ?_, fun e => ?_, fun e => ?_⟩
  · rw [if_pos e, decide_eq_true_eq] at h6
    exact px_tbm (List.mem_of_getElem? h6) rfl
  · rw [if_neg e, decide_eq_true_eq] at h6
    exact px_tbm (List.mem_of_getElem? h6) rfl
  · rw [if_pos e, decide_eq_true_eq] at h7
    exact px_tbm (List.mem_of_getElem? h7) rfl
  · rw [if_pos e, decide_eq_true_eq] at h8
    exact h8
theorem px_clink {z : Nat} {q : px_M} (hq : px_MT[z]? = some q) {j idx z' na : Nat} (hz : z' ≠ 9999) (h : px_CR[j]?.map (fun e => (e.1, e.2.1, e.2.2.1, e.2.2.2.1, e.2.2.2.2.1)) = some (q.2.2.2.2.getD 0 0, idx, z', na, 0)) {y : px_M} (hy : px_MT[z']? = some y) : Cond.methodLink q.1.cls idx y.1 ∈ px_tb := by
  cases hj : px_CR[j]? with
  | none => rw [hj] at h; cases h
  | some e =>
    rw [hj] at h
    obtain ⟨e1, e2, e3, e4, e5, e6⟩ := e
    have h2 := px_crc_all _ (List.mem_of_getElem? hj)
    simp only [Option.map_some, Option.some.injEq, Prod.mk.injEq] at h
    obtain ⟨rfl, rfl, rfl, rfl, rfl⟩ := h
    unfold px_crc at h2
    dsimp only at h2
    rw [px_mt_own hq] at h2
    dsimp only at h2
    rw [if_neg hz, hy] at h2
    dsimp only at h2
    rw [if_pos rfl, decide_eq_true_eq] at h2
    exact px_tbm (List.mem_of_getElem? h2) rfl
def px_cats : List pv → Nat
  | [] => 0
  | x :: st => (if x.1 = 1 then 2 else 1) + px_cats st
theorem px_cats_eq {base : Nat} (st : List pv) : ((st.map (px_v base)).map fun v => v.category).sum = px_cats st := by
  induction st with
  | nil => rfl
  | cons x st ih =>
    rw [List.map_cons, List.map_cons, List.sum_cons, ih]
    obtain ⟨t, a⟩ := x
    show _ + px_cats st = (if t = 1 then 2 else 1) + px_cats st
    by_cases h : t = 1
    · subst h; rfl
    · rw [px_cat1 h, if_neg h]
section PC
variable {p : Program} {l : Launch} {e : Env} {R : Room} {s : State} {m : MethodId} {args : Array Value} {below : List Frame} {meth : Method} {c : Code} {H : Heap} {locs : List Loc} {k n mc ms : Nat} {QF : State → Prop} {base : Nat} {D : va_G} {rls : Array Slot} {pc : Nat}
/-- on behind a call -/
theorem px_back {Q' : Option pv → px_lay → px_mem → Prop} {rest : List pv} {st0 : List Value} {a : Array Value}
    (hr : va_Run p l e R s m args below meth c H locs k n mc ms (F0 m pc rls st0) (rest.map (px_v base)) (px_Qc base D Q' a) (fun a => base ≤ a)) (hS : va_S (fun a => base ≤ a) s.heap H locs)
    (kk : ∀ (r : Option pv) (L' : px_lay) (M' : px_mem) (H1 : Heap) (locs1 : List Loc), (∀ x, r = some x → px_okp x) → Q' r L' M' → px_Rep base D s L' M' H1 → va_S (fun a => base ≤ a) s.heap H1 locs1 → W p l e R s m args below meth c H1 locs1 (k + mc) (n + ms) QF (F0 m (pc + 3) rls ((r.toList ++ rest).map (px_v base)))) :
    W p l e R s m args below meth c H locs k n QF (F0 m pc rls st0) := by
  intro T hT X
  obtain ⟨v, st₀, t, T', L0, h0, X', hL, e1, e2, ⟨⟨r, L', M', hv, hok, hp, hb⟩, hz, hk⟩, st⟩ := hr T hT X
  injection hv with hv
  subst hv
  rw [h0] at hz hk
  have hal : t.vm.Alike s.vm := by rw [← e2]; exact X'.warmed.alike.symm
  obtain ⟨t2, a1, b1⟩ := kk r L' M' T'.heap (locs ++ L0) hok hp (by rw [e1]; exact hb.moved hal) ⟨Nat.le_trans hS.1 (by rw [e1]; exact hz), fun q h1 h2 => by rw [e1, hk q (Nat.lt_of_lt_of_le h1 hS.1) h2]; exact hS.2.1 q h1 h2, fun q hq => by
      rcases List.mem_append.mp hq with h | h
      · exact hS.2.2 q h
      · exact hL q h⟩ T' rfl X'
  refine ⟨t2, st t2 ?_, b1⟩
  have he : (r.toList ++ rest).map (px_v base) = (r.map (px_v base)).toList ++ rest.map (px_v base) := by cases r <;> rfl
  rw [he] at a1
  exact a1
end PC
theorem px_blind {base : Nat} {D : va_G} {as : List pv} {L : px_lay} {M : px_mem} : FrameBlind (px_Pc base D as L M) := fun a U g mk h => by
  obtain ⟨h1, h2, h3, h4, h5⟩ := h
  exact ⟨h1, h2, px_Rep.moved (s := U) (t := U.calling g mk a) (Vm.Alike.refl U.vm) h3, va_K.moved (u := U) (U := U.calling g mk a) (Vm.Alike.refl U.vm) h4, px_AO.warm (s := U) (U := U.calling g mk a) (State.WarmedH.refl U) h5⟩
section PD
variable {z mc ms : Nat} {Q : Option pv → px_lay → px_mem → Nat → Nat → Prop} {pc : Nat} {ls st : List pv} {L : px_lay} {M : px_mem} {k n : Nat} {q : px_M}
theorem px_math_of {z' : Nat} {y : px_M} (hy : px_MT[z']? = some y) (ho : y.2.2.2.2.getD 0 0 = 14) : z' = 307 ∨ z' = 308 := by
  have hl : z' < 310 := by rw [← px_mlen]; exact (List.getElem?_eq_some_iff.mp hy).1
  exact of_decide_eq_true (List.all_eq_true.mp px_math z' (List.mem_range.mpr hl)) (by rw [hy]; exact congrArg some ho)
theorem px_not_law {z' : Nat} {y : px_M} (hq : px_MT[z]? = some q) (hy : px_MT[z']? = some y) (hf : y.2.2.2.2.getD 1 0 + 1 ≤ q.2.2.2.2.getD 1 0) (h7 : z' ≠ 307) (h8 : z' ≠ 308) : px_mtc y = true := by
  have hle : q.2.2.2.2.getD 1 0 ≤ 8 := of_decide_eq_true (List.all_eq_true.mp px_fr_le q (List.mem_of_getElem? hq))
  rcases px_mt_all y (List.mem_of_getElem? hy) with h | h | h | h
  · exact h
  · subst h; rcases px_math_of hy rfl with h | h
    · exact absurd h h7
    · exact absurd h h8
  · subst h; rcases px_math_of hy rfl with h | h
    · exact absurd h h7
    · exact absurd h h8
  · subst h
    exact absurd hf (by show ¬ (8 + 1 ≤ _); omega)
theorem px_ow_lt {c o : Nat} (h : px_OW[c]? = some o) : c < 80 := Nat.lt_trans (List.getElem?_eq_some_iff.mp h).1 (by decide)
set_option maxHeartbeats 1000000 in
theorem pi_callV (hq : px_MT[z]? = some q) {idx z' na c j : Nat} (hd : decode q.2.1 pc = .ok (.invokevirtual idx, 3)) (hr : px_rchk q pc (.invokevirtual idx) [z', na, c, j] = true) {as rest : List pv} {v : Int} (hna : as.length = na) (hkd : px_kd L v = 10 + c) (h7 : z' ≠ 307) (h8 : z' ≠ 308) (h9 : z' ≠ 9999) (hcat : px_cats rest ≤ 8) {mc' ms' : Nat} (hk1 : k + mc' ≤ mc) (hn1 : n + ms' ≤ ms) {Q' : Option pv → px_lay → px_mem → Prop} (hOk : px_Okg z' ((2, v) :: as) L M mc' ms' Q')
    (h : ∀ r L' M', Q' r L' M' → px_WP z mc ms Q (pc + 3) ls (r.toList ++ rest) L' M' (k + mc') (n + ms')) : px_WP z mc ms Q pc ls (as.reverse ++ (2, v) :: rest) L M k n := by
  obtain ⟨y, hy, hM⟩ := hOk
  dsimp only [px_rchk] at hr
  rw [hy] at hr
  simp only [Bool.and_eq_true, decide_eq_true_eq] at hr
  obtain ⟨hr1, ⟨⟨⟨⟨r1, r2⟩, r3⟩, r4⟩, r5⟩⟩ := hr
  have hmtc := px_not_law hq hy r4 h7 h8
  obtain ⟨w1, w2, w3, w4, w5, w6, w7, w8, w9⟩ := px_mtc_of hmtc
  have wl := px_clink hq h9 hr1 hy
  intro q' p l e R s m args below meth cd QF base D H locs rls hq' X hk hn hR hS hL hst
  cases hq.symm.trans hq'
  have hts := X.2.2.2.2.1
  obtain ⟨a, e1, e2, e3, ⟨C, hC, hC2⟩, hcell, -⟩ := px_cell_obj hR hkd (px_ow_lt r1)
  have hcls : C.1 = y.1.cls := by
    obtain ⟨o, ho1, ho2⟩ := px_ow_of c C hC
    cases r1.symm.trans ho1
    exact Option.some.inj (ho2.symm.trans (px_mt_own hy))
  have hfc := (X.2.2.2.2.2.1.1 c C hC).2.1
  rw [hcls] at hfc
  obtain ⟨cell, q1, q2, q3, -⟩ := hcell
  have hargs : ∀ x ∈ (2, v) :: as, px_okp x := by
    intro x hx
    rcases List.mem_cons.mp hx with h | h
    · exact hst x (by simp [h])
    · exact hst x (by simp [h])
  have hrun := va_runV (e := e) (below := below) (meth := meth) (R := R) (cells := k) (slots := n) (g := F0 m pc rls ((as.reverse ++ (2, v) :: rest).map (px_v base))) (As := as.map (px_v base)) (rest := rest.map (px_v base)) (b := base + a) (C := y.1.cls) (own := q.1.cls) (index := idx) (n := na) (nL := q.2.2.1) (H := H) (locs := locs) ⟨X.1, X.2.1, X.2.2.1, X.2.2.2.1, hts⟩ (hM l base D)
    ⟨⟨rfl, rfl, Nat.le_trans r4 X.2.2.2.2.2.2.2.1.1, Nat.le_trans r5 X.2.2.2.2.2.2.2.1.2, fun w hw => (List.mem_cons.mp hw).elim (fun h => px_pay hts w (h ▸ w1)) (px_pay hts w), List.mem_cons_self, hts _ w1, hts _ w2, w5, fun sig h => by rw [h] at w4; have := Option.some.inj w4; rw [← r3]; exact this.symm, hts _ wl⟩, hts _ (w7 (by rw [r2]; decide)), hts _ (w8 r2)⟩
    ⟨px_blind, ⟨cell, q1, by rw [q3]; rfl, by rw [q2]; exact hfc⟩, fun U hU hW => ⟨by rw [List.map_cons, px_v2 base (show 0 < v by omega), e2], hargs, by rw [hU]; exact hR.moved hW.alike, va_K.moved hW.alike X.2.2.2.2.2.1, px_AO.warm hW X.2.2.2.2.2.2.2.2.2.1.2⟩⟩
    rfl (by rw [List.length_map]; exact hna) hL.2.1 (by show (as.reverse ++ (2, v) :: rest).map (px_v base) = _; rw [List.map_append, List.map_cons, px_v2 base (show 0 < v by omega), e2, List.map_reverse]) (lv_room (by rw [px_cats_eq]; exact hcat)) hd ⟨by rw [X.2.2.2.2.2.2.1.1]; exact hk1, by rw [X.2.2.2.2.2.2.1.2]; exact hn1⟩
  refine px_back hrun hS (fun r L' M' H1 locs1 hok hQ hR1 hS1 => ?_)
  refine h r L' M' hQ q p l e R s m args below meth cd QF base D H1 locs1 rls hq X hk1 hn1 hR1 hS1 hL (fun x hx => ?_)
  rcases List.mem_append.mp hx with h | h
  · cases r with
    | none => cases h
    | some r => exact hok x (by rw [List.mem_singleton.mp h])
  · exact hst x (by simp [h])
set_option maxHeartbeats 1000000 in
theorem pi_callS (hq : px_MT[z]? = some q) {idx z' na c j : Nat} (hd : decode q.2.1 pc = .ok (.invokestatic idx, 3)) (hr : px_rchk q pc (.invokestatic idx) [z', na, c, j] = true) {as rest : List pv} (hna : as.length = na) (h7 : z' ≠ 307) (h8 : z' ≠ 308) (h9 : z' ≠ 9999) (hcat : px_cats rest ≤ 8) {mc' ms' : Nat} (hk1 : k + mc' ≤ mc) (hn1 : n + ms' ≤ ms) {Q' : Option pv → px_lay → px_mem → Prop} (hOk : px_Okg z' as L M mc' ms' Q')
    (h : ∀ r L' M', Q' r L' M' → px_WP z mc ms Q (pc + 3) ls (r.toList ++ rest) L' M' (k + mc') (n + ms')) : px_WP z mc ms Q pc ls (as.reverse ++ rest) L M k n := by
  obtain ⟨y, hy, hM⟩ := hOk
  dsimp only [px_rchk] at hr
  rw [hy] at hr
  simp only [Bool.and_eq_true, decide_eq_true_eq] at hr
  obtain ⟨hr1, ⟨⟨⟨r2, r3⟩, r4⟩, r5⟩⟩ := hr
  have hmtc := px_not_law hq hy r4 h7 h8
  obtain ⟨w1, w2, w3, w4, w5, w6, w7, w8, w9⟩ := px_mtc_of hmtc
  have wl := px_clink hq h9 hr1 hy
  intro q' p l e R s m args below meth cd QF base D H locs rls hq' X hk hn hR hS hL hst
  cases hq.symm.trans hq'
  have hts := X.2.2.2.2.1
  have hrun := va_runS (e := e) (below := below) (meth := meth) (R := R) (cells := k) (slots := n) (g := F0 m pc rls ((as.reverse ++ rest).map (px_v base))) (As := as.map (px_v base)) (rest := rest.map (px_v base)) (own := q.1.cls) (index := idx) (n := na) (nL := q.2.2.1) (H := H) (locs := locs) ⟨X.1, X.2.1, X.2.2.1, X.2.2.2.1, hts⟩ (hM l base D)
    ⟨⟨rfl, rfl, Nat.le_trans r4 X.2.2.2.2.2.2.2.1.1, Nat.le_trans r5 X.2.2.2.2.2.2.2.1.2, fun w hw => (List.mem_cons.mp hw).elim (fun h => px_pay hts w (h ▸ w1)) (px_pay hts w), List.mem_cons_self, hts _ w1, hts _ w2, w5, fun sig h => by rw [h] at w4; have := Option.some.inj w4; rw [← r3]; exact this.symm, hts _ wl⟩, hts _ (w6 r2)⟩
    ⟨px_blind, fun U hU hW => ⟨rfl, fun x hx => hst x (by simp [hx]), by rw [hU]; exact hR.moved hW.alike, va_K.moved hW.alike X.2.2.2.2.2.1, px_AO.warm hW X.2.2.2.2.2.2.2.2.2.1.2⟩⟩
    rfl (by rw [List.length_map]; exact hna) hL.2.1 (by show (as.reverse ++ rest).map (px_v base) = _; rw [List.map_append, List.map_reverse]) (lv_room (by rw [px_cats_eq]; exact hcat)) hd ⟨by rw [X.2.2.2.2.2.2.1.1]; exact hk1, by rw [X.2.2.2.2.2.2.1.2]; exact hn1⟩
  refine px_back hrun hS (fun r L' M' H1 locs1 hok hQ hR1 hS1 => ?_)
  refine h r L' M' hQ q p l e R s m args below meth cd QF base D H1 locs1 rls hq X hk1 hn1 hR1 hS1 hL (fun x hx => ?_)
  rcases List.mem_append.mp hx with h | h
  · cases r with
    | none => cases h
    | some r => exact hok x (by rw [List.mem_singleton.mp h])
  · exact hst x (by simp [h])
set_option maxHeartbeats 1000000 in
theorem pi_callI (hq : px_MT[z]? = some q) {idx z' na c j : Nat} (hd : decode q.2.1 pc = .ok (.invokespecial idx, 3)) (hr : px_rchk q pc (.invokespecial idx) [z', na, c, j] = true) {as rest : List pv} {v : Int} (hna : as.length = na) (hv : 0 < v) (h7 : z' ≠ 307) (h8 : z' ≠ 308) (h9 : z' ≠ 9999) (hcat : px_cats rest ≤ 8) {mc' ms' : Nat} (hk1 : k + mc' ≤ mc) (hn1 : n + ms' ≤ ms) {Q' : Option pv → px_lay → px_mem → Prop} (hOk : px_Okg z' ((2, v) :: as) L M mc' ms' Q')
    (h : ∀ r L' M', Q' r L' M' → px_WP z mc ms Q (pc + 3) ls (r.toList ++ rest) L' M' (k + mc') (n + ms')) : px_WP z mc ms Q pc ls (as.reverse ++ (2, v) :: rest) L M k n := by
  obtain ⟨y, hy, hM⟩ := hOk
  dsimp only [px_rchk] at hr
  rw [if_neg h9, hy] at hr
  cases hj : px_CR[j]? with
  | none => rw [hj] at hr; cases hr
  | some en =>
  rw [hj] at hr
  obtain ⟨e1, e2, e3, e4, e5, e6⟩ := en
  simp only [Bool.and_eq_true, decide_eq_true_eq] at hr
  obtain ⟨⟨⟨⟨⟨⟨⟨⟨⟨u1, u2⟩, u3⟩, u4⟩, u5⟩, u6⟩, r2⟩, r3⟩, r4⟩, r5⟩ := hr
  have hmtc := px_not_law hq hy r4 h7 h8
  obtain ⟨w1, w2, w3, w4, w5, w6, w7, w8, w9⟩ := px_mtc_of hmtc
  have h2 := px_crc_all _ (List.mem_of_getElem? hj)
  unfold px_crc at h2
  dsimp only at h2
  rw [u1, px_mt_own hq] at h2
  dsimp only at h2
  rw [u3, if_neg h9, hy] at h2
  dsimp only at h2
  intro q' p l e R s m args below meth cd QF base D H locs rls hq' X hk hn hR hS hL hst
  cases hq.symm.trans hq'
  have hts := X.2.2.2.2.1
  have hargs : ∀ x ∈ (2, v) :: as, px_okp x := by
    intro x hx
    rcases List.mem_cons.mp hx with h | h
    · exact hst x (by simp [h])
    · exact hst x (by simp [h])
  have hpre : PreS s H (px_Pc base D ((2, v) :: as) L M) (.ref (base + (v - 1).toNat) :: as.map (px_v base)) := ⟨px_blind, fun U hU hW => ⟨by rw [List.map_cons, px_v2 base hv], hargs, by rw [hU]; exact hR.moved hW.alike, va_K.moved hW.alike X.2.2.2.2.2.1, px_AO.warm hW X.2.2.2.2.2.2.2.2.2.1.2⟩⟩
  have hrun : va_Run p l e R s m args below meth cd H locs k n mc' ms' (F0 m pc rls ((as.reverse ++ (2, v) :: rest).map (px_v base))) (rest.map (px_v base)) (px_Qc base D Q' (Value.ref (base + (v - 1).toNat) :: as.map (px_v base)).toArray) (fun a => base ≤ a) := by
    have hstk : (as.reverse ++ (2, v) :: rest).map (px_v base) = (as.map (px_v base)).reverse ++ .ref (base + (v - 1).toNat) :: rest.map (px_v base) := by rw [List.map_append, List.map_cons, px_v2 base hv, List.map_reverse]
    have hM2 := hM l base D
    have hws : px_ws y = Cond.code y.1 y.2.1 y.2.2.1 none :: px_tb := by unfold px_ws; rw [u6]
    rw [hws] at hM2
    rw [u6] at w1
    by_cases hne : e5 = 0
    · rw [if_pos hne, decide_eq_true_eq] at h2
      exact va_runI (R := R) (cells := k) (slots := n) (g := F0 m pc rls ((as.reverse ++ (2, v) :: rest).map (px_v base))) (As := as.map (px_v base)) (rest := rest.map (px_v base)) (b := base + (v - 1).toNat) (own := q.1.cls) (index := idx) (n := na) (nL := q.2.2.1) (H := H) (locs := locs) ⟨X.1, X.2.1, X.2.2.1, X.2.2.2.1, hts⟩ hM2
        ⟨⟨rfl, rfl, Nat.le_trans r4 X.2.2.2.2.2.2.2.1.1, Nat.le_trans r5 X.2.2.2.2.2.2.2.1.2, fun w hw => (List.mem_cons.mp hw).elim (fun h => px_pay hts w (h ▸ w1)) (px_pay hts w), List.mem_cons_self, hts _ w1, hts _ w2, w5, fun sig h => by rw [h] at w4; have := Option.some.inj w4; rw [← r3]; exact this.symm, hts _ (by rw [← u2]; exact px_tbm (List.mem_of_getElem? h2) rfl)⟩, w9 r2, hts _ (w7 (by rw [r2]; decide))⟩
        hpre rfl (by rw [List.length_map]; exact hna) hL.2.1 hstk (lv_room (by rw [px_cats_eq]; exact hcat)) hd ⟨by rw [X.2.2.2.2.2.2.1.1]; exact hk1, by rw [X.2.2.2.2.2.2.1.2]; exact hn1⟩
    · rw [if_neg hne, decide_eq_true_eq] at h2
      exact va_runIN (R := R) (cells := k) (slots := n) (host := "EditionVault") (g := F0 m pc rls ((as.reverse ++ (2, v) :: rest).map (px_v base))) (As := as.map (px_v base)) (rest := rest.map (px_v base)) (b := base + (v - 1).toNat) (own := q.1.cls) (index := idx) (n := na) (nL := q.2.2.1) (H := H) (locs := locs) ⟨X.1, X.2.1, X.2.2.1, X.2.2.2.1, hts⟩ hM2
        ⟨⟨⟨rfl, rfl, Nat.le_trans r4 X.2.2.2.2.2.2.2.1.1, Nat.le_trans r5 X.2.2.2.2.2.2.2.1.2, fun w hw => (List.mem_cons.mp hw).elim (fun h => px_pay hts w (h ▸ w1)) (px_pay hts w), List.mem_cons_self⟩, hts _ w1, hts _ w2, w5, fun sig h => by rw [h] at w4; have := Option.some.inj w4; rw [← r3]; exact this.symm, va_Nw.use rfl (X.2.2.2.2.2.2.2.2.2.1.2.2.2 _ _ _ _ (by rw [← u2]; exact List.mem_of_getElem? h2))⟩, w9 r2, hts _ (w7 (by rw [r2]; decide))⟩
        hpre rfl (by rw [List.length_map]; exact hna) hL.2.1 hstk (lv_room (by rw [px_cats_eq]; exact hcat)) hd ⟨by rw [X.2.2.2.2.2.2.1.1]; exact hk1, by rw [X.2.2.2.2.2.2.1.2]; exact hn1⟩
  refine px_back hrun hS (fun r L' M' H1 locs1 hok hQ hR1 hS1 => ?_)
  refine h r L' M' hQ q p l e R s m args below meth cd QF base D H1 locs1 rls hq X hk1 hn1 hR1 hS1 hL (fun x hx => ?_)
  rcases List.mem_append.mp hx with h | h
  · cases r with
    | none => cases h
    | some r => exact hok x (by rw [List.mem_singleton.mp h])
  · exact hst x (by simp [h])
set_option maxHeartbeats 1000000 in
theorem pi_objI (hq : px_MT[z]? = some q) {idx c j : Nat} (hd : decode q.2.1 pc = .ok (.invokespecial idx, 3)) (hr : px_rchk q pc (.invokespecial idx) [9999, 0, c, j] = true) {rest : List pv} {v : Int} (hv : 0 < v) (hcat : px_cats rest ≤ 8) (h : px_WP z mc ms Q (pc + 3) ls rest L M k n) : px_WP z mc ms Q pc ls ((2, v) :: rest) L M k n := by
  dsimp only [px_rchk] at hr
  rw [if_pos rfl] at hr
  simp only [Bool.and_eq_true, decide_eq_true_eq] at hr
  obtain ⟨⟨⟨hr1, -⟩, r4⟩, r5⟩ := hr
  cases hj : px_CR[j]? with
  | none => rw [hj] at hr1; cases hr1
  | some en =>
  rw [hj] at hr1
  obtain ⟨e1, e2, e3, e4, e5, e6⟩ := en
  simp only [Option.map_some, Option.some.injEq, Prod.mk.injEq] at hr1
  obtain ⟨rfl, rfl, rfl, rfl, rfl⟩ := hr1
  have h2 := px_crc_all _ (List.mem_of_getElem? hj)
  unfold px_crc at h2
  dsimp only at h2
  rw [px_mt_own hq] at h2
  dsimp only at h2
  rw [if_pos rfl, decide_eq_true_eq] at h2
  intro q' p l e R s m args below meth cd QF base D H locs rls hq' X hk hn hR hS hL hst
  cases hq.symm.trans hq'
  have hts := X.2.2.2.2.1
  have hf := X.2.2.2.2.2.2.2.1
  show W p l e R s m args below meth cd H locs k n QF (F0 m pc rls (px_v base (2, v) :: _))
  rw [px_v2 base hv]
  refine W.objInit X.1 X.2.1 X.2.2.2.1 (hts _ (px_tbm (List.mem_of_getElem? h2) rfl)) (hts _ px_w_oi) (hts _ px_w_oc) rfl (by rw [X.2.2.1]; exact hL.2.1) rfl hd (Nat.le_trans r4 hf.1) ?_ ?_
  · have := lv_room (m := m) (pc := pc) (ls := rls) (rest := rest.map (px_v base)) (st := rest.map (px_v base)) (by rw [px_cats_eq]; exact hcat)
    show 2 * 0 + _ + 12 ≤ _
    have h20 : 20 ≤ R.locals := Nat.le_trans r5 hf.2
    have h8 : ((rest.map (px_v base)).map fun v => v.category).sum ≤ 8 := by rw [px_cats_eq]; exact hcat
    omega
  · exact h q p l e R s m args below meth cd QF base D H locs rls hq X hk hn hR hS hL (fun y hy => hst y (by simp [hy]))
theorem px_klink {z : Nat} {q : px_M} (hq : px_MT[z]? = some q) {j idx v f : Nat} (h : px_KR[j]?.map (fun e => (e.1, e.2.1, e.2.2.1, e.2.2.2.2)) = some (q.2.2.2.2.getD 0 0, idx, v, f)) : (f = 0 → Cond.constant q.1.cls idx (Int32.ofNat v) ∈ px_tb) ∧ (f ≠ 0 → Cond.constantLong q.1.cls idx (Int64.ofNat v) ∈ px_tb) := by
  cases hj : px_KR[j]? with
  | none => rw [hj] at h; cases h
  | some e =>
    rw [hj] at h
    obtain ⟨e1, e2, e3, e4, e5⟩ := e
    have h2 := List.all_eq_true.mp px_krc_all _ (List.mem_of_getElem? hj)
    simp only [Option.map_some, Option.some.injEq, Prod.mk.injEq] at h
    obtain ⟨rfl, rfl, rfl, rfl⟩ := h
    unfold px_krc at h2
    dsimp only at h2
    rw [px_mt_own hq] at h2
    dsimp only at h2
    refine ⟨fun h0 => ?_, fun h0 => ?_⟩
    · rw [if_pos h0, decide_eq_true_eq] at h2
      exact px_tbm (List.mem_of_getElem? h2) rfl
    · rw [if_neg h0, decide_eq_true_eq] at h2
      exact px_tbm (List.mem_of_getElem? h2) rfl
theorem pi_ldc (hq : px_MT[z]? = some q) {idx v j : Nat} (hd : decode q.2.1 pc = .ok (.ldc idx, 2)) (hr : px_rchk q pc (.ldc idx) [v, j] = true) (h : px_WP z mc ms Q (pc + 2) ls ((0, (v : Int)) :: st) L M k n) : px_WP z mc ms Q pc ls st L M k n := by
  unfold px_rchk at hr
  simp only [Bool.and_eq_true, decide_eq_true_eq] at hr
  have hw := (px_klink hq hr.1).1 rfl
  exact px_lift hq (fun hx hb ho hts _ kk => lv_ldc hx hb ho (hts _ hw) hd kk) (fun hs => px_oc (px_ok0 ⟨by omega, by omega⟩) hs) h
theorem pi_ldcw (hq : px_MT[z]? = some q) {idx v j : Nat} (hd : decode q.2.1 pc = .ok (.ldc_w idx, 3)) (hr : px_rchk q pc (.ldc_w idx) [v, j] = true) (h : px_WP z mc ms Q (pc + 3) ls ((0, (v : Int)) :: st) L M k n) : px_WP z mc ms Q pc ls st L M k n := by
  unfold px_rchk at hr
  simp only [Bool.and_eq_true, decide_eq_true_eq] at hr
  have hw := (px_klink hq hr.1).1 rfl
  exact px_lift hq (fun hx hb ho hts _ kk => lv_ldcw hx hb ho (hts _ hw) hd kk) (fun hs => px_oc (px_ok0 ⟨by omega, by omega⟩) hs) h
theorem pi_ldc2 (hq : px_MT[z]? = some q) {idx v j : Nat} (hd : decode q.2.1 pc = .ok (.ldc2_w idx, 3)) (hr : px_rchk q pc (.ldc2_w idx) [v, j] = true) (h : px_WP z mc ms Q (pc + 3) ls ((1, (v : Int)) :: st) L M k n) : px_WP z mc ms Q pc ls st L M k n := by
  unfold px_rchk at hr
  simp only [Bool.and_eq_true, decide_eq_true_eq] at hr
  have hw := (px_klink hq hr.1).2 (by decide)
  exact px_lift hq (fun hx hb ho hts _ kk => lv_ldc2 hx hb ho (hts _ hw) hd kk) (fun hs => px_oc (px_ok1 ⟨by omega, by omega⟩) hs) h
/-- switches -/
def px_tsw (x : Int) (F : Nat → Prop) : Nat → List Nat → Prop
  | _, [] => True
  | i, t :: ts => (x = (i : Int) → F t) ∧ px_tsw x F (i + 1) ts
theorem px_tgts_get {pc : Nat} {offs : List Int} {ts : List Nat} (h : px_tgts pc offs ts = true) {i : Nat} {off : Int} (hi : offs[i]? = some off) : ∃ t, ts[i]? = some t ∧ (pc : Int) + off = (t : Int) := by
  induction offs generalizing ts i with
  | nil => cases hi
  | cons o os ih => cases ts with
    | nil => cases h
    | cons t ts =>
      simp only [px_tgts, Bool.and_eq_true] at h
      cases i with
      | zero => cases hi; exact ⟨t, rfl, px_tgt_eq h.1⟩
      | succ i => exact ih h.2 hi
theorem px_tsw_get {x : Int} {F : Nat → Prop} {i0 : Nat} {ts : List Nat} (h : px_tsw x F i0 ts) {i t : Nat} (hi : ts[i]? = some t) (hx : x = ((i0 + i : Nat) : Int)) : F t := by
  induction ts generalizing i0 i with
  | nil => cases hi
  | cons u us ih => cases i with
    | zero => cases hi; exact h.1 hx
    | succ i => exact ih h.2 hi (by omega)
theorem pi_tsw (hq : px_MT[z]? = some q) {d lo hi : Int} {offs : Array Int} {len : Nat} {t : Nat} {ts : List Nat} (hd : decode q.2.1 pc = .ok (.tableswitch d lo hi offs, len)) (hr : px_rchk q pc (.tableswitch d lo hi offs) (t :: ts) = true) {x : Int} (h1 : px_tsw x (fun t => px_WP z mc ms Q t ls st L M k n) 0 ts) (h2 : x < 0 ∨ (ts.length : Int) ≤ x → px_WP z mc ms Q t ls st L M k n) : px_WP z mc ms Q pc ls ((0, x) :: st) L M k n := by
  unfold px_rchk at hr
  simp only [Bool.and_eq_true, decide_eq_true_eq] at hr
  obtain ⟨⟨⟨rfl, g2⟩, g3⟩, g4⟩ := hr
  intro q' p l e R s m args below meth cd QF base D H locs rls hq' X hk hn hR hS hL hst
  cases hq.symm.trans hq'
  have hx := px_t32 (px_ok0_r (hst (0, x) (by simp)))
  have hlen : ts.length = offs.size := by
    have : ∀ (os : List Int) (ts : List Nat), px_tgts pc os ts = true → ts.length = os.length := by
      intro os
      induction os with
      | nil => intro ts h; cases ts with
        | nil => rfl
        | cons _ _ => cases h
      | cons o os ih => intro ts h; cases ts with
        | nil => cases h
        | cons t ts =>
          simp only [px_tgts, Bool.and_eq_true] at h
          rw [List.length_cons, List.length_cons, ih ts h.2]
    rw [this _ _ g4, Array.length_toList]
  by_cases hc : x < 0 ∨ hi < x
  · have hcc : x < 0 ∨ (ts.length : Int) ≤ x := by omega
    exact lv_tableOut X.1 X.2.1 hd (by rw [hx]; exact hc) (px_tgt_eq g3) (h2 hcc q p l e R s m args below meth cd QF base D H locs rls hq X hk hn hR hS hL (fun y hy => hst y (by simp [hy])))
  · have hlt : x.toNat < offs.size := by omega
    have ho : offs[x.toNat]? = some offs[x.toNat] := Array.getElem?_eq_getElem hlt
    obtain ⟨t', ht1, ht2⟩ := px_tgts_get g4 (i := x.toNat) (off := offs[x.toNat]) (by rw [Array.getElem?_toList]; exact ho)
    exact lv_tableIn X.1 X.2.1 hd (by rw [hx]; omega) (by rw [hx]; omega) (by rw [hx, show (x - 0).toNat = x.toNat by omega]; exact ho) ht2 (px_tsw_get h1 ht1 (by omega) q p l e R s m args below meth cd QF base D H locs rls hq X hk hn hR hS hL (fun y hy => hst y (by simp [hy])))
def px_lsw (x : Int) (F : Nat → Prop) (d : Nat) : List Nat → Prop
  | a :: t :: ts => (x = (a : Int) → F t) ∧ (x ≠ (a : Int) → px_lsw x F d ts)
  | _ => F d
theorem px_lsw_get {x : Int} {F : Nat → Prop} {d : Nat} {pc : Nat} {dflt : Int} (hdf : (pc : Int) + dflt = (d : Int)) {ps : List (Int × Int)} {ts : List Nat} (hl : px_lks pc ps ts = true) (h : px_lsw x F d ts) : ∃ t : Nat, (pc : Int) + Op.lookupswitch.offset ps dflt x = (t : Int) ∧ F t := by
  induction ps generalizing ts with
  | nil => cases ts with
    | nil => exact ⟨d, hdf, h⟩
    | cons _ _ => cases hl
  | cons pr ps ih =>
    obtain ⟨a, o⟩ := pr
    match ts, hl with
    | b :: t :: ts, hl =>
      simp only [px_lks, Bool.and_eq_true, decide_eq_true_eq] at hl
      obtain ⟨⟨rfl, h2⟩, h3⟩ := hl
      by_cases hx : x = (b : Int)
      · refine ⟨t, ?_, h.1 hx⟩
        have : Op.lookupswitch.offset (((b : Int), o) :: ps) dflt x = o := by
          show (if (b : Int) = x then o else _) = o
          rw [if_pos hx.symm]
        rw [this]
        exact px_tgt_eq h2
      · obtain ⟨t', e1, e2⟩ := ih h3 (h.2 hx)
        refine ⟨t', ?_, e2⟩
        have : Op.lookupswitch.offset (((b : Int), o) :: ps) dflt x = Op.lookupswitch.offset ps dflt x := by
          show (if (b : Int) = x then o else _) = _
          rw [if_neg (fun e => hx e.symm)]
        rw [this]
        exact e1
theorem pi_lsw (hq : px_MT[z]? = some q) {d : Int} {ps : Array (Int × Int)} {len : Nat} {t : Nat} {ts : List Nat} (hd : decode q.2.1 pc = .ok (.lookupswitch d ps, len)) (hr : px_rchk q pc (.lookupswitch d ps) (t :: ts) = true) {x : Int} (h : px_lsw x (fun t => px_WP z mc ms Q t ls st L M k n) t ts) : px_WP z mc ms Q pc ls ((0, x) :: st) L M k n := by
  unfold px_rchk at hr
  simp only [Bool.and_eq_true] at hr
  obtain ⟨⟨g1, g2⟩, g3⟩ := hr
  intro q' p l e R s m args below meth cd QF base D H locs rls hq' X hk hn hR hS hL hst
  cases hq.symm.trans hq'
  have hx := px_t32 (px_ok0_r (hst (0, x) (by simp)))
  obtain ⟨t', e1, e2⟩ := px_lsw_get (px_tgt_eq g1) g2 h
  exact lv_lookup X.1 X.2.1 hd g3 (by rw [hx]) e1 (e2 q p l e R s m args below meth cd QF base D H locs rls hq X hk hn hR hS hL (fun y hy => hst y (by simp [hy])))
/-- returns -/
theorem pi_ret {i : Instr} {r : Option pv} (hq : px_MT[z]? = some q) (hd : decode q.2.1 pc = .ok (i, 1)) (hrt : px_rt q i r) (h : Q r L M k n) : px_WP z mc ms Q pc ls r.toList L M k n := by
  intro q' p l e R s m args below meth cd QF base D H locs rls hq' X hk hn hR hS hL hst
  cases hq.symm.trans hq'
  exact X.2.2.2.2.2.2.2.2.2.2 H locs rls pc k n r L M i hd hrt hk hn hR hS (fun x hx => hst x (by rw [hx]; exact List.mem_singleton_self x)) h
end PD
