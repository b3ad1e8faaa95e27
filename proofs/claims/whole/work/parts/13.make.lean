/-! rows of the pure machine: things made -/
def px_nw (M : px_mem) (c : Int) : px_mem := fun b i => if b < c then M b i else 0
theorem px_Rep_push {base : Nat} {D : va_G} {s : State} {L : px_lay} {M M1 : px_mem} {H H1 : Heap} (hR : px_Rep base D s L M H) {es : List (Nat × Nat × List Int)} (hz : H1.size = H.size + es.length) (ho : ∀ q, q < H.size → H1[q]? = H[q]?) (hM : ∀ b : Int, b ≤ (L.length : Int) → M1 b = M b)
    (hn : ∀ (i : Nat) (e : Nat × Nat × List Int), es[i]? = some e → px_cell base D s e (M1 (((L.length + i : Nat) : Int) + 1)) H1 (base + (L.length + i)) ∧ ∀ k : Nat, k < e.2.1 → px_okv (px_tag e.1 k) (px_sv e (M1 (((L.length + i : Nat) : Int) + 1)) k)) : px_Rep base D s (L ++ es) M1 H1 := by
  refine ⟨by rw [hz, hR.1, List.length_append]; omega, fun a e ha => ?_⟩
  by_cases hl : a < L.length
  · rw [List.getElem?_append_left hl] at ha
    obtain ⟨h1, h2⟩ := hR.2 a e ha
    rw [hM _ (by omega)]
    refine ⟨?_, h2⟩
    have hq : H1[base + a]? = H[base + a]? := ho _ (by rw [hR.1]; omega)
    unfold px_cell at h1 ⊢
    by_cases hk : e.1 < 10
    · rw [if_pos hk] at h1 ⊢
      rw [hq]; exact h1
    · rw [if_neg hk] at h1 ⊢
      exact ⟨h1.1, h1.2.kept hq⟩
  · rw [List.getElem?_append_right (by omega)] at ha
    have h1 := hn (a - L.length) e ha
    rw [show L.length + (a - L.length) = a by omega] at h1
    exact h1
theorem px_S_push {base : Nat} {H0 H H1 : Heap} {locs : List Loc} (h : va_S (fun a => base ≤ a) H0 H locs) {k : Nat} (z : H1.size = H.size + k) (ho : ∀ q, q < H.size → H1[q]? = H[q]?) : va_S (fun a => base ≤ a) H0 H1 locs :=
  ⟨Nat.le_trans h.1 (by omega), fun q h1 h2 => (ho q (Nat.lt_of_lt_of_le h1 h.1)).trans (h.2.1 q h1 h2), h.2.2⟩
theorem px_nw_old {M : px_mem} {c b : Int} (h : b < c) : px_nw M c b = M b := by
  funext i; unfold px_nw; rw [if_pos h]
theorem px_nw_new {M : px_mem} {c b : Int} (h : ¬ b < c) : px_nw M c b = fun _ => 0 := by
  funext i; unfold px_nw; rw [if_neg h]
theorem px_okv0 (t : Nat) : px_okv t 0 := ⟨fun _ => ⟨by decide, by decide⟩, fun _ => ⟨by decide, by decide⟩, fun _ => by decide, fun _ => by decide, fun _ => Or.inl rfl⟩
theorem px_sv0 {kd N : Nat} {k : Int} : px_sv (kd, N, []) (fun _ => 0) k = 0 := by
  unfold px_sv
  split <;> rfl
theorem px_dflt {base c f : Nat} {g : Nat → FieldType} (hg : px_TY[c]? = some g) (hcl : g f = .int ∨ g f = .long ∨ g f = .boolean ∨ (∃ t, g f = .object t) ∨ ∃ t, g f = .array t) : defaultValue (g f) = px_v base (px_ftag c f, 0) := by
  rw [px_ftag_eq hg]
  rcases hcl with h | h | h | ⟨t, h⟩ | ⟨t, h⟩ <;> rw [h] <;> rfl
theorem px_vtop {base : Nat} {L : px_lay} {H : Heap} (h : H.size = base + L.length) : px_v base (2, (L.length : Int) + 1) = .ref H.size := by
  rw [px_v2 base (by omega), h]
  exact congrArg Value.ref (show base + ((L.length : Int) + 1 - 1).toNat = base + L.length by omega)
section PM
variable {z mc ms : Nat} {Q : Option pv → px_lay → px_mem → Nat → Nat → Prop} {pc : Nat} {ls st : List pv} {L : px_lay} {M : px_mem} {k n : Nat} {q : px_M}
set_option maxHeartbeats 1000000 in
theorem pi_new (hq : px_MT[z]? = some q) {idx c N j : Nat} (hd : decode q.2.1 pc = .ok (.new idx, 3)) (hr : px_rchk q pc (.new idx) [c, N, j] = true) (hk1 : k + 1 ≤ mc) (hn1 : n + N ≤ ms) (h : px_WP z mc ms Q (pc + 3) ls ((2, (L.length : Int) + 1) :: st) (L ++ [(10 + c, N, [])]) (px_nw M ((L.length : Int) + 1)) (k + 1) (n + N)) : px_WP z mc ms Q pc ls st L M k n := by
  unfold px_rchk at hr
  simp only [Bool.and_eq_true, decide_eq_true_eq] at hr
  obtain ⟨hr1, hr2⟩ := hr
  intro q' p l e R s m args below meth cd QF base D H locs rls hq' X hk hn hR hS hL hst
  cases hq.symm.trans hq'
  cases hC : vwCl[c]? with
  | none => rw [hC] at hr2; cases hr2
  | some C =>
  rw [hC] at hr2
  simp only [Option.map_some, Option.some.injEq] at hr2
  cases hj : px_NR[j]? with
  | none => rw [hj] at hr1; cases hr1
  | some en =>
  rw [hj] at hr1
  obtain ⟨e1, e2, e3, e4, e5, e6, e7⟩ := en
  simp only [Option.map_some, Option.some.injEq, Prod.mk.injEq] at hr1
  obtain ⟨rfl, rfl, rfl, rfl⟩ := hr1
  have h2 := List.all_eq_true.mp px_nrc_all _ (List.mem_of_getElem? hj)
  unfold px_nrc at h2
  dsimp only at h2
  rw [px_mt_own hq, hC] at h2
  simp only [Bool.and_eq_true, decide_eq_true_eq] at h2
  obtain ⟨⟨w1, w2⟩, w3⟩ := h2
  have hKn := X.2.2.2.2.2.1.1 e3 C hC
  obtain ⟨g, hg1, hg2⟩ := px_ty_of e3 C hC
  have hc12 := px_vwCl_lt hC
  refine W.newcK X.1 X.2.1 X.2.2.2.1 (X.2.2.2.2.1 _ (px_tbm (List.mem_of_getElem? w1) rfl)) (X.2.2.2.2.1 _ (px_tbm (List.mem_of_getElem? w2) rfl)) (X.2.2.2.2.1 _ (px_tbm (List.mem_of_getElem? w3) rfl)) rfl hd (by rw [X.2.2.2.2.2.2.1.1]; exact hk1) (by rw [X.2.2.2.2.2.2.1.2]; exact hn1) hKn.2.1 rfl fun H1 kC hkC g1 g2 g3 => ?_
  have hR1 : px_Rep base D s (L ++ [(10 + e3, e4, [])]) (px_nw M ((L.length : Int) + 1)) H1 := by
    refine px_Rep_push hR (by rw [g2]; rfl) g3 (fun b hb => px_nw_old (by omega)) (fun i en hi => ?_)
    have hi0 : i < 1 := (List.getElem?_eq_some_iff.mp hi).1
    have hi1 : i = 0 := by omega
    subst hi1
    cases hi
    rw [px_nw_new (by omega)]
    refine ⟨?_, fun k hk => by rw [px_sv0]; exact px_okv0 _⟩
    unfold px_cell
    dsimp only
    rw [if_neg (by omega), show 10 + e3 - 10 = e3 by omega, show base + (L.length + 0) = H.size by rw [hR.1]; rfl]
    refine ⟨⟨C, hC, hr2⟩, ?_⟩
    rw [← hr2]
    exact (u_born g X.2.2.2.2.1 (px_ws_in e3 C hC) hKn hkC g1 hg2).to (fun k hk => by rw [px_sv0]; exact px_dflt hg1 (px_fty_ok e3 g hg1 k))
  have h3 := h q p l e R s m args below meth cd QF base D H1 locs rls hq X hk1 hn1 hR1 (px_S_push hS g2 g3) hL (px_oc (px_ok2 (by omega)) hst)
  have e0 := px_vtop hR.1
  show W p l e R s m args below meth cd H1 locs (k + 1) (n + e4) QF (F0 m (pc + 3) rls (.ref H.size :: st.map (px_v base)))
  rw [← e0]
  exact h3
/-- the arrays of numbers -/
def px_at_of (kd : Nat) : ArrayType := if kd = 0 then .int else if kd = 1 then .long else if kd = 2 then .byte else .boolean
theorem px_fill0 {base : Nat} {kd : Nat} (hkd : kd < 4) (N : Nat) : (fun (j : Nat) => px_v base (px_ktag kd, px_sv (kd, N, []) (fun _ => 0) j)) = fun _ => defaultValue (px_kty kd) := by
  funext j
  rw [px_sv0]
  rcases (by omega : kd = 0 ∨ kd = 1 ∨ kd = 2 ∨ kd = 3) with rfl | rfl | rfl | rfl <;> rfl
set_option maxHeartbeats 1000000 in
theorem pi_newa (hq : px_MT[z]? = some q) {ty : ArrayType} {kd : Nat} (hd : decode q.2.1 pc = .ok (.newarray ty, 2)) (hr : px_rchk q pc (.newarray ty) [kd] = true) {N : Int} (h0 : 0 ≤ N) (h1 : N < 65536) (hk1 : k + 1 ≤ mc) (hn1 : n + N.toNat ≤ ms) (h : px_WP z mc ms Q (pc + 2) ls ((2, (L.length : Int) + 1) :: st) (L ++ [(kd, N.toNat, [])]) (px_nw M ((L.length : Int) + 1)) (k + 1) (n + N.toNat)) : px_WP z mc ms Q pc ls ((0, N) :: st) L M k n := by
  have hr1 : (ty = .int ∧ kd = 0) ∨ (ty = .long ∧ kd = 1) ∨ (ty = .byte ∧ kd = 2) ∨ (ty = .boolean ∧ kd = 3) := of_decide_eq_true hr
  intro q' p l e R s m args below meth cd QF base D H locs rls hq' X hk hn hR hS hL hst
  cases hq.symm.trans hq'
  have hN := px_ok0_r (hst (0, N) (by simp))
  obtain ⟨i1, i2⟩ := px_ix hN h0
  have hkd : kd < 4 := by rcases hr1 with h | h | h | h <;> omega
  have hty : newarray.typeOf ty = px_kty kd := by rcases hr1 with ⟨rfl, rfl⟩ | ⟨rfl, rfl⟩ | ⟨rfl, rfl⟩ | ⟨rfl, rfl⟩ <;> rfl
  have hw : (Cond.arrayClass (newarray.typeOf ty)).before args s = true := by
    rcases hr1 with ⟨rfl, rfl⟩ | ⟨rfl, rfl⟩ | ⟨rfl, rfl⟩ | ⟨rfl, rfl⟩
    · exact X.2.2.2.2.1 _ px_w_int
    · exact X.2.2.2.2.1 _ px_w_long
    · exact X.2.2.2.2.1 _ px_w_byte
    · exact X.2.2.2.2.1 _ px_w_bool
  have hcb : componentBytes (newarray.typeOf ty) ≤ 8 := by rcases hr1 with ⟨rfl, rfl⟩ | ⟨rfl, rfl⟩ | ⟨rfl, rfl⟩ | ⟨rfl, rfl⟩ <;> decide
  have hbytes : N.toNat * componentBytes (newarray.typeOf ty) ≤ 536870912 := Nat.le_trans (Nat.mul_le_mul (show N.toNat ≤ 65536 by omega) hcb) (by decide)
  refine va_newaK X.1 X.2.1 hw rfl hd rfl i2 i1 hbytes (by rw [X.2.2.2.2.2.2.1.1]; exact hk1) (by rw [X.2.2.2.2.2.2.1.2]; exact hn1) rfl fun H1 cA g1 g2 g3 hAr hNm => ?_
  rw [hty] at g1 hAr hNm
  have hR1 : px_Rep base D s (L ++ [(kd, N.toNat, [])]) (px_nw M ((L.length : Int) + 1)) H1 := by
    refine px_Rep_push hR (by rw [g2]; rfl) g3 (fun b hb => px_nw_old (by omega)) (fun i en hi => ?_)
    have hi0 : i < 1 := (List.getElem?_eq_some_iff.mp hi).1
    have hi1 : i = 0 := by omega
    subst hi1
    cases hi
    rw [px_nw_new (by omega)]
    refine ⟨?_, fun k hk => by rw [px_sv0]; exact px_okv0 _⟩
    unfold px_cell
    dsimp only
    rw [if_pos (by omega), show base + (L.length + 0) = H.size by rw [hR.1]; rfl]
    refine ⟨cA, ?_, hAr, fun h => ?_, fun h => absurd h (by omega)⟩
    · rw [g1, px_fill0 hkd]
    · subst h; exact hNm
  have h3 := h q p l e R s m args below meth cd QF base D H1 locs rls hq X hk1 hn1 hR1 (px_S_push hS g2 g3) hL (px_oc (px_ok2 (by omega)) (fun y hy => hst y (by simp [hy])))
  have e0 := px_vtop hR.1
  show W p l e R s m args below meth cd H1 locs (k + 1) (n + N.toNat) QF (F0 m (pc + 2) rls (.ref H.size :: st.map (px_v base)))
  rw [← e0]
  exact h3
set_option maxHeartbeats 1000000 in
theorem pi_anew (hq : px_MT[z]? = some q) {idx w : Nat} (hd : decode q.2.1 pc = .ok (.anewarray idx, 3)) (hr : px_rchk q pc (.anewarray idx) [w] = true) {N : Int} (h0 : 0 ≤ N) (h1 : N < 65536) (hk1 : k + 1 ≤ mc) (hn1 : n + N.toNat ≤ ms) (h : px_WP z mc ms Q (pc + 3) ls ((2, (L.length : Int) + 1) :: st) (L ++ [(5, N.toNat, [])]) (px_nw M ((L.length : Int) + 1)) (k + 1) (n + N.toNat)) : px_WP z mc ms Q pc ls ((0, N) :: st) L M k n := by
  have hr1 : lw_tbl[w]? = some (.classLink q.1.cls idx "EditionVault$Edition") := of_decide_eq_true hr
  intro q' p l e R s m args below meth cd QF base D H locs rls hq' X hk hn hR hS hL hst
  cases hq.symm.trans hq'
  have hN := px_ok0_r (hst (0, N) (by simp))
  obtain ⟨i1, i2⟩ := px_ix hN h0
  have hover : va_AO "EditionVault$Edition" s := X.2.2.2.2.2.2.2.2.2.1.2.1
  refine W.anew X.1 X.2.1 X.2.2.2.1 (X.2.2.2.2.1 _ (px_tbm (List.mem_of_getElem? hr1) rfl)) (va_AO.use hover) rfl hd rfl i2 (by rw [i1]; omega) (by rw [X.2.2.2.2.2.2.1.1]; exact hk1) (by rw [X.2.2.2.2.2.2.1.2, i1]; exact hn1) fun cA kA comp f1 f2 f3 f4 => ?_
  rw [i1]
  generalize hH1 : H.push ({ cls := cA, slots := Array.replicate N.toNat .null, vm := .none } : Cell) = H1
  have g2 : H1.size = H.size + 1 := by rw [← hH1, Array.size_push]
  have g1 : H1[H.size]? = some (arrV cA N.toNat (fun _ => .null)) := by rw [← hH1, Array.getElem?_push_size, ← arrV_new]
  have g3 : ∀ q : Nat, q < H.size → H1[q]? = H[q]? := fun q hq => by rw [← hH1, Array.getElem?_push, if_neg (Nat.ne_of_lt hq)]
  have hAr : ArrOfT s cA (.object "EditionVault$Edition") := fun N z => ⟨(fun k h => by cases h), kA, f2, comp, f3⟩
  obtain ⟨-, hfc, kC, hkC, -⟩ := X.2.2.2.2.2.1.1 2 _ rfl
  have hcomp : comp = D.1 2 := Option.some.inj (f4.symm.trans hfc)
  have hR1 : px_Rep base D s (L ++ [(5, N.toNat, [])]) (px_nw M ((L.length : Int) + 1)) H1 := by
    refine px_Rep_push hR (by rw [g2]; rfl) g3 (fun b hb => px_nw_old (by omega)) (fun i en hi => ?_)
    have hi0 : i < 1 := (List.getElem?_eq_some_iff.mp hi).1
    have hi1 : i = 0 := by omega
    subst hi1
    cases hi
    rw [px_nw_new (by omega)]
    refine ⟨?_, fun k hk => by rw [px_sv0]; exact px_okv0 _⟩
    unfold px_cell
    dsimp only
    rw [if_pos (by omega), show base + (L.length + 0) = H.size by rw [hR.1]; rfl]
    refine ⟨cA, ?_, hAr, fun h => (by cases h), fun _ => ⟨kA, kC, comp, f2, f3, f4, by rw [hcomp]; exact hkC⟩⟩
    rw [g1]
    refine congrArg some (congrArg (arrV cA _) (funext fun j => ?_))
    rw [px_sv0]; rfl
  have h3 := h q p l e R s m args below meth cd QF base D H1 locs rls hq X hk1 hn1 hR1 (px_S_push hS g2 g3) hL (px_oc (px_ok2 (by omega)) (fun y hy => hst y (by simp [hy])))
  have e0 := px_vtop hR.1
  show W p l e R s m args below meth cd H1 locs (k + 1) (n + N.toNat) QF (F0 m (pc + 3) rls (.ref H.size :: st.map (px_v base)))
  rw [← e0]
  exact h3
/-- rows of rows: the outer one's first, then the inner ones -/
def px_nw2 (M : px_mem) (c N : Int) : px_mem := fun b i => if b < c then M b i else if b = c then (if i < N then c + 1 + i else 0) else 0
set_option maxHeartbeats 2000000 in
theorem pi_multi (hq : px_MT[z]? = some q) {idx w : Nat} (hd : decode q.2.1 pc = .ok (.multianewarray idx 2, 4)) (hr : px_rchk q pc (.multianewarray idx 2) [w] = true) {N K : Int} (h0 : 0 ≤ N) (h1 : N < 4096) (g0 : 0 ≤ K) (g1 : K < 4096) (hk1 : k + 1 + N.toNat ≤ mc) (hn1 : n + N.toNat + N.toNat * K.toNat ≤ ms) (h : px_WP z mc ms Q (pc + 4) ls ((2, (L.length : Int) + 1) :: st) (L ++ (4, N.toNat, []) :: List.replicate N.toNat (0, K.toNat, [])) (px_nw2 M ((L.length : Int) + 1) N) (k + 1 + N.toNat) (n + N.toNat + N.toNat * K.toNat)) : px_WP z mc ms Q pc ls ((0, K) :: (0, N) :: st) L M k n := by
  unfold px_rchk at hr
  simp only [Bool.and_eq_true, decide_eq_true_eq] at hr
  intro q' p l e R s m args below meth cd QF base D H locs rls hq' X hk hn hR hS hL hst
  cases hq.symm.trans hq'
  have hN := px_ok0_r (hst (0, N) (by simp))
  have hK := px_ok0_r (hst (0, K) (by simp))
  obtain ⟨i1, i2⟩ := px_ix hN h0
  obtain ⟨j1, j2⟩ := px_ix hK g0
  intro T hT Xs
  obtain ⟨vm₁, cA, comp, -, fA, fC, hO, hI, X', step⟩ := Xs.multianewarray2F (ty := .int) X.1 X.2.2.2.1 (X.2.2.2.2.1 _ (px_tbm (List.mem_of_getElem? hr.2) rfl)) (show (Cond.arrayOver (.array .int)).before args s = true from X.2.2.2.2.2.2.2.2.2.1.2.2.1) (X.2.2.2.2.1 _ px_w_int) (g := F0 m pc rls (.int (Int32.ofInt K) :: .int (Int32.ofInt N) :: st.map (px_v base))) rfl (by rw [X.2.1]; exact hd) rfl i2 j2 (by rw [i1]; omega) (by rw [j1]; show K.toNat * 4 ≤ _; omega) (by rw [j1]; omega) rfl rfl (by rw [i1, X.2.2.2.2.2.2.1.1]; omega) (by rw [i1, j1, X.2.2.2.2.2.2.1.2]; omega)
  rw [i1, j1] at X' step
  generalize hF : Jvm.Free.Multi.fill (T.setVm vm₁) cA comp N.toNat K.toNat (defaultValue .int) N.toNat = F at X' step
  have hTh : (T.setVm vm₁).heap = H := hT
  obtain ⟨f1, f2, -, -⟩ := Jvm.Free.Multi.fill_facts (T.setVm vm₁) cA comp N.toNat K.toNat (defaultValue .int) N.toNat
  rw [hF, hTh] at f1 f2
  have hold : ∀ x : Nat, x < H.size → F.heap[x]? = H[x]? := fun x hx => by
    have := Jvm.Free.Multi.fill_old (T.setVm vm₁) cA comp N.toNat K.toNat (defaultValue .int) (a := x) (by rw [hTh]; exact hx) N.toNat
    rw [hF, hTh] at this
    exact this
  have hrow : ∀ j : Nat, j < N.toNat → F.heap[H.size + 1 + j]? = some (Jvm.Free.Multi.innerC comp K.toNat (defaultValue .int)) := fun j hj => by
    have := Jvm.Free.Multi.fill_inner (T.setVm vm₁) cA comp N.toNat K.toNat (defaultValue .int) N.toNat j hj
    rw [hF, hTh] at this
    exact this
  have hz : F.heap.size = H.size + (N.toNat + 1) := by rw [f1]; omega
  obtain ⟨comp2, cA2, kA, s1, s2, s3, s4⟩ := Cond.arrayOver_specA X.2.2.2.2.2.2.2.2.2.1.2.2.1
  have hcA : cA = cA2 := Option.some.inj (fA.symm.trans s4)
  have hcc : comp = comp2 := Option.some.inj (fC.symm.trans s1)
  subst hcA; subst hcc
  obtain ⟨⟨-, kC, hkC, cc2, hkk2⟩, -⟩ := hI 0 (defaultValue .int)
  have hkC' : s.vm.classes[comp]? = some kC := hkC
  have hArO : ArrOfT s cA (.array .int) := fun n z => ⟨fun k h => (by cases h), kA, s2, comp, s3⟩
  have hArI : ArrOfT s comp .int := fun n z => ⟨fun k h => (by cases h), kC, hkC', cc2, hkk2⟩
  have hnN : ((N.toNat : Nat) : Int) = N := Int.toNat_of_nonneg h0
  have hR1 : px_Rep base D s (L ++ (4, N.toNat, []) :: List.replicate N.toNat (0, K.toNat, [])) (px_nw2 M ((L.length : Int) + 1) N) F.heap := by
    refine px_Rep_push hR (by rw [hz, List.length_cons, List.length_replicate]) hold (fun b hb => by funext i; unfold px_nw2; rw [if_pos (by omega)]) (fun i en hi => ?_)
    cases i with
    | zero =>
      cases hi
      refine ⟨?_, fun k hk => ?_⟩
      · unfold px_cell
        dsimp only
        rw [if_pos (by decide), show base + (L.length + 0) = H.size by rw [hR.1]; rfl, f2, vr_outer]
        refine ⟨cA, congrArg some (congrArg (arrV cA _) (funext fun j => ?_)), hArO, fun h => (by cases h), fun _ => ⟨kA, kC, comp, s2, s3, s1, hkC'⟩⟩
        show va_rf _ = px_v base (2, px_sv (4, N.toNat, []) _ j)
        have e9 : px_sv (4, N.toNat, []) (px_nw2 M ((L.length : Int) + 1) N (((L.length + 0 : Nat) : Int) + 1)) (j : Int) = if (j : Int) < N then (L.length : Int) + 1 + 1 + j else 0 := by
          unfold px_sv px_nw2
          dsimp only
          rw [if_neg (by decide), if_neg (by omega), if_pos (by omega)]
        rw [e9]
        by_cases hj : j < N.toNat
        · rw [if_pos hj, if_pos (by omega), px_v2 base (by omega), hR.1]
          exact congrArg Value.ref (show base + L.length + 1 + j = base + ((L.length : Int) + 1 + 1 + j - 1).toNat by omega)
        · rw [if_neg hj, if_neg (by omega)]
          rfl
      · unfold px_sv px_nw2
        dsimp only
        rw [if_neg (by decide), if_neg (by omega), if_pos (by omega)]
        refine ⟨fun h => (by cases h), fun h => (by cases h), fun _ => ?_, fun h => (by cases h), fun h => (by cases h)⟩
        split <;> omega
    | succ i =>
      have hi2 : (List.replicate N.toNat ((0, K.toNat, []) : Nat × Nat × List Int))[i]? = some en := hi
      rw [List.getElem?_replicate] at hi2
      by_cases hiN : i < N.toNat
      · rw [if_pos hiN] at hi2
        cases hi2
        have hrz : px_nw2 M ((L.length : Int) + 1) N (((L.length + (i + 1) : Nat) : Int) + 1) = fun _ => 0 := by
          funext x
          unfold px_nw2
          rw [if_neg (by omega), if_neg (by omega)]
        rw [hrz]
        refine ⟨?_, fun k hk => by rw [px_sv0]; exact px_okv0 _⟩
        unfold px_cell
        dsimp only
        rw [if_pos (by decide), show base + (L.length + (i + 1)) = H.size + 1 + i by rw [hR.1]; omega, hrow i hiN]
        refine ⟨comp, ?_, hArI, fun _ => s1, fun h => absurd h (by decide)⟩
        refine congrArg some ?_
        show _ = arrV comp K.toNat _
        rw [px_fill0 (by decide)]
        exact (arrV_new comp K.toNat _)
      · rw [if_neg hiN] at hi2; cases hi2
  have e0 := px_vtop hR.1
  have h3 := h q p l e R s m args below meth cd QF base D F.heap locs rls hq X hk1 hn1 hR1 (px_S_push hS hz hold) hL (px_oc (px_ok2 (by omega)) (fun y hy => hst y (by simp [hy]))) F rfl X'
  obtain ⟨t, a1, b1⟩ := h3
  refine ⟨t, step t ?_, b1⟩
  have hT2 : T.heap.size = H.size := by rw [hT]
  rw [hT2, ← e0]
  exact a1
end PM
