/-! the law calls: the same rows, its own locals kept -/
section LW
variable {z mc ms : Nat} {Q : Option pv → px_lay → px_mem → Nat → Nat → Prop} {pc : Nat} {L : px_lay} {M : px_mem} {k n : Nat} {q : px_M} {p : Program} {l : Launch} {e : Env} {R : Room} {s : State} {m : MethodId} {args : Array Value} {below : List Frame} {meth : Method} {cd : Code} {QF : State → Prop} {base : Nat} {D : va_G} {H : Heap} {locs : List Loc} {rls : Array Slot}
set_option maxHeartbeats 1000000 in
theorem lw_callV (hq : px_MT[z]? = some q) (X : px_CX q mc ms Q p l e R s m args below meth cd QF base D) {idx z' na c j : Nat} (hd : decode q.2.1 pc = .ok (.invokevirtual idx, 3)) (hr : px_rchk q pc (.invokevirtual idx) [z', na, c, j] = true) {as rest : List pv} {v : Int} (hna : as.length = na) (hkd : px_kd L v = 10 + c) (h7 : z' ≠ 307) (h8 : z' ≠ 308) (h9 : z' ≠ 9999) (hcat : px_cats rest ≤ 8) {mc' ms' : Nat} (hk1 : k + mc' ≤ mc) (hn1 : n + ms' ≤ ms) {Q' : Option pv → px_lay → px_mem → Prop} (hOk : px_Okg z' ((2, v) :: as) L M mc' ms' Q')
    (hR : px_Rep base D s L M H) (hS : va_S (fun a => base ≤ a) s.heap H locs) (hsz : rls.size = q.2.2.1) (hst : ∀ x ∈ as.reverse ++ (2, v) :: rest, px_okp x)
    (kk : ∀ (r : Option pv) (L' : px_lay) (M' : px_mem) (H1 : Heap) (locs1 : List Loc), (∀ x, r = some x → px_okp x) → Q' r L' M' → px_Rep base D s L' M' H1 → va_S (fun a => base ≤ a) s.heap H1 locs1 → W p l e R s m args below meth cd H1 locs1 (k + mc') (n + ms') QF (F0 m (pc + 3) rls ((r.toList ++ rest).map (px_v base)))) : W p l e R s m args below meth cd H locs k n QF (F0 m pc rls ((as.reverse ++ (2, v) :: rest).map (px_v base))) := by
  obtain ⟨y, hy, hM⟩ := hOk
  dsimp only [px_rchk] at hr
  rw [hy] at hr
  simp only [Bool.and_eq_true, decide_eq_true_eq] at hr
  obtain ⟨hr1, ⟨⟨⟨⟨r1, r2⟩, r3⟩, r4⟩, r5⟩⟩ := hr
  have hmtc := px_not_law hq hy r4 h7 h8
  obtain ⟨w1, w2, w3, w4, w5, w6, w7, w8, w9⟩ := px_mtc_of hmtc
  have wl := px_clink hq h9 hr1 hy
  have hts := X.2.2.2.2.1
  obtain ⟨a, e1, e2, e3, ⟨C, hC, hC2⟩, hcell, -⟩ := px_cell_obj hR hkd (px_ow_lt r1)
  have hcls : C.1 = y.1.cls := by
    obtain ⟨o, ho1, ho2⟩ := px_ow_of c C hC
    cases r1.symm.trans ho1
    exact Option.some.inj (ho2.symm.trans (px_mt_own hy))
  have hfc := (X.2.2.2.2.2.1.1 c C hC).2.1
  rw [hcls] at hfc
  obtain ⟨cell, q1, q2, q3, -⟩ := hcell
  have hargs : ∀ x ∈ (2, v) :: as, px_okp x := by
    intro x hx
    rcases List.mem_cons.mp hx with h | h
    · exact hst x (by simp [h])
    · exact hst x (by simp [h])
  have hrun := va_runV (e := e) (below := below) (meth := meth) (R := R) (cells := k) (slots := n) (g := F0 m pc rls ((as.reverse ++ (2, v) :: rest).map (px_v base))) (As := as.map (px_v base)) (rest := rest.map (px_v base)) (b := base + a) (C := y.1.cls) (own := q.1.cls) (index := idx) (n := na) (nL := q.2.2.1) (H := H) (locs := locs) ⟨X.1, X.2.1, X.2.2.1, X.2.2.2.1, hts⟩ (hM l base D)
    ⟨⟨rfl, rfl, Nat.le_trans r4 X.2.2.2.2.2.2.2.1.1, Nat.le_trans r5 X.2.2.2.2.2.2.2.1.2, fun w hw => (List.mem_cons.mp hw).elim (fun h => px_pay hts w (h ▸ w1)) (px_pay hts w), List.mem_cons_self, hts _ w1, hts _ w2, w5, fun sig h => by rw [h] at w4; have := Option.some.inj w4; rw [← r3]; exact this.symm, hts _ wl⟩, hts _ (w7 (by rw [r2]; decide)), hts _ (w8 r2)⟩
    ⟨px_blind, ⟨cell, q1, by rw [q3]; rfl, by rw [q2]; exact hfc⟩, fun U hU hW => ⟨by rw [List.map_cons, px_v2 base (show 0 < v by omega), e2], hargs, by rw [hU]; exact hR.moved hW.alike, va_K.moved hW.alike X.2.2.2.2.2.1, px_AO.warm hW X.2.2.2.2.2.2.2.2.2.1.2⟩⟩
    rfl (by rw [List.length_map]; exact hna) hsz (by show (as.reverse ++ (2, v) :: rest).map (px_v base) = _; rw [List.map_append, List.map_cons, px_v2 base (show 0 < v by omega), e2, List.map_reverse]) (lv_room (by rw [px_cats_eq]; exact hcat)) hd ⟨by rw [X.2.2.2.2.2.2.1.1]; exact hk1, by rw [X.2.2.2.2.2.2.1.2]; exact hn1⟩
  exact px_back hrun hS kk
set_option maxHeartbeats 1000000 in
theorem lw_callI (hq : px_MT[z]? = some q) (X : px_CX q mc ms Q p l e R s m args below meth cd QF base D) {idx z' na c j : Nat} (hd : decode q.2.1 pc = .ok (.invokespecial idx, 3)) (hr : px_rchk q pc (.invokespecial idx) [z', na, c, j] = true) {as rest : List pv} {v : Int} (hna : as.length = na) (hv : 0 < v) (h7 : z' ≠ 307) (h8 : z' ≠ 308) (h9 : z' ≠ 9999) (hcat : px_cats rest ≤ 8) {mc' ms' : Nat} (hk1 : k + mc' ≤ mc) (hn1 : n + ms' ≤ ms) {Q' : Option pv → px_lay → px_mem → Prop} (hOk : px_Okg z' ((2, v) :: as) L M mc' ms' Q')
    (hR : px_Rep base D s L M H) (hS : va_S (fun a => base ≤ a) s.heap H locs) (hsz : rls.size = q.2.2.1) (hst : ∀ x ∈ as.reverse ++ (2, v) :: rest, px_okp x)
    (kk : ∀ (r : Option pv) (L' : px_lay) (M' : px_mem) (H1 : Heap) (locs1 : List Loc), (∀ x, r = some x → px_okp x) → Q' r L' M' → px_Rep base D s L' M' H1 → va_S (fun a => base ≤ a) s.heap H1 locs1 → W p l e R s m args below meth cd H1 locs1 (k + mc') (n + ms') QF (F0 m (pc + 3) rls ((r.toList ++ rest).map (px_v base)))) : W p l e R s m args below meth cd H locs k n QF (F0 m pc rls ((as.reverse ++ (2, v) :: rest).map (px_v base))) := by
  obtain ⟨y, hy, hM⟩ := hOk
  dsimp only [px_rchk] at hr
  rw [if_neg h9, hy] at hr
  cases hj : px_CR[j]? with
  | none => rw [hj] at hr; cases hr
  | some en =>
  rw [hj] at hr
  obtain ⟨e1, e2, e3, e4, e5, e6⟩ := en
  simp only [Bool.and_eq_true, decide_eq_true_eq] at hr
  obtain ⟨⟨⟨⟨⟨⟨⟨⟨⟨u1, u2⟩, u3⟩, u4⟩, u5⟩, u6⟩, r2⟩, r3⟩, r4⟩, r5⟩ := hr
  have hmtc := px_not_law hq hy r4 h7 h8
  obtain ⟨w1, w2, w3, w4, w5, w6, w7, w8, w9⟩ := px_mtc_of hmtc
  have h2 := px_crc_all _ (List.mem_of_getElem? hj)
  unfold px_crc at h2
  dsimp only at h2
  rw [u1, px_mt_own hq] at h2
  dsimp only at h2
  rw [u3, if_neg h9, hy] at h2
  dsimp only at h2
  have hts := X.2.2.2.2.1
  have hargs : ∀ x ∈ (2, v) :: as, px_okp x := by
    intro x hx
    rcases List.mem_cons.mp hx with h | h
    · exact hst x (by simp [h])
    · exact hst x (by simp [h])
  have hpre : PreS s H (px_Pc base D ((2, v) :: as) L M) (.ref (base + (v - 1).toNat) :: as.map (px_v base)) := ⟨px_blind, fun U hU hW => ⟨by rw [List.map_cons, px_v2 base hv], hargs, by rw [hU]; exact hR.moved hW.alike, va_K.moved hW.alike X.2.2.2.2.2.1, px_AO.warm hW X.2.2.2.2.2.2.2.2.2.1.2⟩⟩
  have hrun : va_Run p l e R s m args below meth cd H locs k n mc' ms' (F0 m pc rls ((as.reverse ++ (2, v) :: rest).map (px_v base))) (rest.map (px_v base)) (px_Qc base D Q' (Value.ref (base + (v - 1).toNat) :: as.map (px_v base)).toArray) (fun a => base ≤ a) := by
    have hstk : (as.reverse ++ (2, v) :: rest).map (px_v base) = (as.map (px_v base)).reverse ++ .ref (base + (v - 1).toNat) :: rest.map (px_v base) := by rw [List.map_append, List.map_cons, px_v2 base hv, List.map_reverse]
    have hM2 := hM l base D
    have hws : px_ws y = Cond.code y.1 y.2.1 y.2.2.1 none :: px_tb := by unfold px_ws; rw [u6]
    rw [hws] at hM2
    rw [u6] at w1
    by_cases hne : e5 = 0
    · rw [if_pos hne, decide_eq_true_eq] at h2
      exact va_runI (R := R) (cells := k) (slots := n) (g := F0 m pc rls ((as.reverse ++ (2, v) :: rest).map (px_v base))) (As := as.map (px_v base)) (rest := rest.map (px_v base)) (b := base + (v - 1).toNat) (own := q.1.cls) (index := idx) (n := na) (nL := q.2.2.1) (H := H) (locs := locs) ⟨X.1, X.2.1, X.2.2.1, X.2.2.2.1, hts⟩ hM2
        ⟨⟨rfl, rfl, Nat.le_trans r4 X.2.2.2.2.2.2.2.1.1, Nat.le_trans r5 X.2.2.2.2.2.2.2.1.2, fun w hw => (List.mem_cons.mp hw).elim (fun h => px_pay hts w (h ▸ w1)) (px_pay hts w), List.mem_cons_self, hts _ w1, hts _ w2, w5, fun sig h => by rw [h] at w4; have := Option.some.inj w4; rw [← r3]; exact this.symm, hts _ (by rw [← u2]; exact px_tbm (List.mem_of_getElem? h2) rfl)⟩, w9 r2, hts _ (w7 (by rw [r2]; decide))⟩
        hpre rfl (by rw [List.length_map]; exact hna) hsz hstk (lv_room (by rw [px_cats_eq]; exact hcat)) hd ⟨by rw [X.2.2.2.2.2.2.1.1]; exact hk1, by rw [X.2.2.2.2.2.2.1.2]; exact hn1⟩
    · rw [if_neg hne, decide_eq_true_eq] at h2
      exact va_runIN (R := R) (cells := k) (slots := n) (host := "EditionVault") (g := F0 m pc rls ((as.reverse ++ (2, v) :: rest).map (px_v base))) (As := as.map (px_v base)) (rest := rest.map (px_v base)) (b := base + (v - 1).toNat) (own := q.1.cls) (index := idx) (n := na) (nL := q.2.2.1) (H := H) (locs := locs) ⟨X.1, X.2.1, X.2.2.1, X.2.2.2.1, hts⟩ hM2
        ⟨⟨⟨rfl, rfl, Nat.le_trans r4 X.2.2.2.2.2.2.2.1.1, Nat.le_trans r5 X.2.2.2.2.2.2.2.1.2, fun w hw => (List.mem_cons.mp hw).elim (fun h => px_pay hts w (h ▸ w1)) (px_pay hts w), List.mem_cons_self⟩, hts _ w1, hts _ w2, w5, fun sig h => by rw [h] at w4; have := Option.some.inj w4; rw [← r3]; exact this.symm, va_Nw.use rfl (X.2.2.2.2.2.2.2.2.2.1.2.2.2 _ _ _ _ (by rw [← u2]; exact List.mem_of_getElem? h2))⟩, w9 r2, hts _ (w7 (by rw [r2]; decide))⟩
        hpre rfl (by rw [List.length_map]; exact hna) hsz hstk (lv_room (by rw [px_cats_eq]; exact hcat)) hd ⟨by rw [X.2.2.2.2.2.2.1.1]; exact hk1, by rw [X.2.2.2.2.2.2.1.2]; exact hn1⟩
  exact px_back hrun hS kk
set_option maxHeartbeats 1000000 in
theorem lw_new (hq : px_MT[z]? = some q) (X : px_CX q mc ms Q p l e R s m args below meth cd QF base D) {idx c N j : Nat} (hd : decode q.2.1 pc = .ok (.new idx, 3)) (hr : px_rchk q pc (.new idx) [c, N, j] = true) (hk1 : k + 1 ≤ mc) (hn1 : n + N ≤ ms) (hR : px_Rep base D s L M H) (hS : va_S (fun a => base ≤ a) s.heap H locs) {st : List Value}
    (kk : ∀ H1 : Heap, px_Rep base D s (L ++ [(10 + c, N, [])]) (px_nw M ((L.length : Int) + 1)) H1 → va_S (fun a => base ≤ a) s.heap H1 locs → W p l e R s m args below meth cd H1 locs (k + 1) (n + N) QF (F0 m (pc + 3) rls (px_v base (2, (L.length : Int) + 1) :: st))) : W p l e R s m args below meth cd H locs k n QF (F0 m pc rls st) := by
  unfold px_rchk at hr
  simp only [Bool.and_eq_true, decide_eq_true_eq] at hr
  obtain ⟨hr1, hr2⟩ := hr
  cases hC : vwCl[c]? with
  | none => rw [hC] at hr2; cases hr2
  | some C =>
  rw [hC] at hr2
  simp only [Option.map_some, Option.some.injEq] at hr2
  cases hj : px_NR[j]? with
  | none => rw [hj] at hr1; cases hr1
  | some en =>
  rw [hj] at hr1
  obtain ⟨e1, e2, e3, e4, e5, e6, e7⟩ := en
  simp only [Option.map_some, Option.some.injEq, Prod.mk.injEq] at hr1
  obtain ⟨rfl, rfl, rfl, rfl⟩ := hr1
  have h2 := List.all_eq_true.mp px_nrc_all _ (List.mem_of_getElem? hj)
  unfold px_nrc at h2
  dsimp only at h2
  rw [px_mt_own hq, hC] at h2
  simp only [Bool.and_eq_true, decide_eq_true_eq] at h2
  obtain ⟨⟨w1, w2⟩, w3⟩ := h2
  have hKn := X.2.2.2.2.2.1.1 e3 C hC
  obtain ⟨g, hg1, hg2⟩ := px_ty_of e3 C hC
  have hc12 := px_vwCl_lt hC
  refine W.newcK X.1 X.2.1 X.2.2.2.1 (X.2.2.2.2.1 _ (px_tbm (List.mem_of_getElem? w1) rfl)) (X.2.2.2.2.1 _ (px_tbm (List.mem_of_getElem? w2) rfl)) (X.2.2.2.2.1 _ (px_tbm (List.mem_of_getElem? w3) rfl)) rfl hd (by rw [X.2.2.2.2.2.2.1.1]; exact hk1) (by rw [X.2.2.2.2.2.2.1.2]; exact hn1) hKn.2.1 rfl fun H1 kC hkC g1 g2 g3 => ?_
  have hR1 : px_Rep base D s (L ++ [(10 + e3, e4, [])]) (px_nw M ((L.length : Int) + 1)) H1 := by
    refine px_Rep_push hR (by rw [g2]; rfl) g3 (fun b hb => px_nw_old (by omega)) (fun i en hi => ?_)
    have hi0 : i < 1 := (List.getElem?_eq_some_iff.mp hi).1
    have hi1 : i = 0 := by omega
    subst hi1
    cases hi
    rw [px_nw_new (by omega)]
    refine ⟨?_, fun k hk => by rw [px_sv0]; exact px_okv0 _⟩
    unfold px_cell
    dsimp only
    rw [if_neg (by omega), show 10 + e3 - 10 = e3 by omega, show base + (L.length + 0) = H.size by rw [hR.1]; rfl]
    refine ⟨⟨C, hC, hr2⟩, ?_⟩
    rw [← hr2]
    exact (u_born g X.2.2.2.2.1 (px_ws_in e3 C hC) hKn hkC g1 hg2).to (fun k hk => by rw [px_sv0]; exact px_dflt hg1 (px_fty_ok e3 g hg1 k))
  have h3 := kk H1 hR1 (px_S_push hS g2 g3)
  rw [px_vtop hR.1] at h3
  exact h3
end LW
