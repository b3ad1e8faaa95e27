/-! the law, from its entry -/
theorem row_ok {pc nx : Nat} {hm : List Nat} {i : Instr} {r : List Nat} (he : px_find px_cd_309 pc = some (nx, hm, i, r)) (hw : px_isw i = false) : decode px_m_309.2.1 pc = .ok (i, px_il i) ∧ px_rchk px_m_309 pc i r = true := by
  obtain ⟨q, ln, g1, g2, g3, g4, g5⟩ := px_at_spec ((at_309 pc).trans he)
  have h4 := g4 hw
  subst h4
  cases mt_309.symm.trans g1
  exact ⟨g2, g5⟩
theorem px_tb_in {w : Cond} (h : w ∈ px_tb) : w ∈ lw_tbl := (List.mem_filter.mp h).1
theorem px_inst : ∀ (c : Nat) (C : vw_C), vwCl[c]? = some C → Cond.instantiable C.1 C.2.2 ∈ lw_tbl := by
  intro c C h
  match c, h with
  | 0, h => cases h; exact List.mem_of_getElem? (i := 415) (by decide +kernel)
  | 1, h => cases h; exact List.mem_of_getElem? (i := 285) (by decide +kernel)
  | 2, h => cases h; exact List.mem_of_getElem? (i := 202) (by decide +kernel)
  | 3, h => cases h; exact List.mem_of_getElem? (i := 195) (by decide +kernel)
  | 4, h => cases h; exact List.mem_of_getElem? (i := 387) (by decide +kernel)
  | 5, h => cases h; exact List.mem_of_getElem? (i := 292) (by decide +kernel)
  | 6, h => cases h; exact List.mem_of_getElem? (i := 265) (by decide +kernel)
  | 7, h => cases h; exact List.mem_of_getElem? (i := 157) (by decide +kernel)
  | 8, h => cases h; exact List.mem_of_getElem? (i := 141) (by decide +kernel)
  | 9, h => cases h; exact List.mem_of_getElem? (i := 364) (by decide +kernel)
  | 10, h => cases h; exact List.mem_of_getElem? (i := 133) (by decide +kernel)
  | 11, h => cases h; exact List.mem_of_getElem? (i := 1137) (by decide +kernel)
  | c + 12, h => exact absurd h (by simp [vwCl])
theorem px_K0 {s : State} {args : Array Value} (hts : ∀ w ∈ lw_tbl, w.before args s = true) : ∃ D : va_G, va_K D vwCl [] s := by
  have h1 : ∀ c : Nat, ∃ x : ClassId × (Nat → Nat), ∀ q : vw_C, vwCl[c]? = some q → u_Kn s q.1 q.2.1 q.2.2 x.1 x.2 := by
    intro c
    cases hc : vwCl[c]? with
    | none => exact ⟨(0, fun _ => 0), fun q h => by cases h⟩
    | some C =>
      obtain ⟨cC, iS, h⟩ := u_known (C := C.1) (T := C.2.1) (N := C.2.2) (n := C.2.2) hts (fun w hw => px_tb_in (px_ws_in c C hc w hw)) (hts _ (px_inst c C hc))
      exact ⟨(cC, iS), fun q hq => by cases hq; exact h⟩
  obtain ⟨f, hf⟩ := Classical.axiomOfChoice h1
  exact ⟨(fun c => (f c).1, fun c => (f c).2), fun c q h => hf c q h, fun k q h => by simp at h⟩
theorem px_AO0 {s : State} {args : Array Value} (hts : ∀ w ∈ lw_tbl, w.before args s = true) : px_AO s :=
  ⟨va_AO.of (hts _ px_w_ove), (show (Cond.arrayOver (.array .int)).before #[] s = true from hts _ px_w_ovi), fun a i x h hm => va_Nw.of rfl (hts _ hm)⟩
theorem la_126 : (LA.take 126).length = 126 := by decide +kernel
theorem cA_126 : cA (LA.take 126) WA = true := by decide +kernel
set_option maxHeartbeats 4000000 in
set_option maxRecDepth 100000 in
theorem whole_start {p : Program} {e : Env} {s : State} {m : MethodId} {below : List Frame} {meth : Method} {c : Code} (l : Launch) (hflags : l.flags = flags0) {b L : Nat} {xs : Nat → Int32} (hL : L ≤ 3072) (C0 : lw_At p s m meth c b L xs) : W p l e room_1 s m #[Value.ref b] below meth c s.heap [] 0 0 (lw_Z below #[Value.ref b] s) (entryFrame m ([Value.ref b] : List Value).toArray 4) := by
  obtain ⟨hx, hb, hr, hml, hown, hts, hX, hbl, hlocks, hgv⟩ := id C0
  obtain ⟨D, hK⟩ := px_K0 hts
  have X : px_CX px_m_309 600000 7302250 (fun _ _ _ _ _ => False) p l e room_1 s m #[Value.ref b] below meth c (lw_Z below #[Value.ref b] s) s.heap.size D :=
    ⟨hx, hb, hml, hown, fun w hw => hts w (px_tb_in hw), hK, ⟨rfl, rfl⟩, ⟨Nat.le_of_ble_eq_true rfl, Nat.le_of_ble_eq_true rfl⟩, fun h => absurd h (by decide), ⟨Nat.le_refl _, px_AO0 hts⟩, fun H locs rls pc k n r L M i _ _ _ _ _ _ _ hq => hq.elim⟩
  have hS : va_S (fun q : Nat => s.heap.size ≤ q) s.heap s.heap [] := va_S.rf
  have hR0 : px_Rep s.heap.size D s [] (mm []) s.heap := ⟨rfl, fun a e ha => by simp at ha⟩
  have hl := lv_entry ([.ref b]) (n := 4) (Nat.le_of_ble_eq_true rfl)
  rw [lg_entry_eq]
  generalize (lg_sl ([.ref b]) ++ List.replicate (4 - (lg_sl ([.ref b])).length) Slot.unset).toArray = ls at hl ⊢
  have hl : lv_has ls 4 [(0, .ref b)] := hl
  have e1 : px_v s.heap.size (2, 1) = .ref (s.heap.size + ((1 : Int) - 1).toNat) := px_v2 _ (by decide)
  have e127 : px_v s.heap.size (2, 127) = .ref (s.heap.size + ((127 : Int) - 1).toNat) := px_v2 _ (by decide)
  obtain ⟨d0, g0⟩ := row_ok (show px_find px_cd_309 0 = some (3, [], .new 7, [10, 11, 0]) by rfl) rfl
  obtain ⟨d4, g4⟩ := row_ok (show px_find px_cd_309 4 = some (7, [], .invokespecial 9, [112, 0, 10, 0]) by rfl) rfl
  obtain ⟨d8, g8⟩ := row_ok (show px_find px_cd_309 8 = some (11, [], .new 10, [11, 36, 12]) by rfl) rfl
  obtain ⟨d12, g12⟩ := row_ok (show px_find px_cd_309 12 = some (15, [], .invokespecial 12, [169, 0, 11, 217]) by rfl) rfl
  refine lw_new mt_309 X d0 g0 (Nat.le_of_ble_eq_true rfl) (Nat.le_of_ble_eq_true rfl) hR0 hS (fun H1 hR1 hS1 => ?_)
  rw [mm_nw (L := []) (W := []) rfl] at hR1
  have hR1 : px_Rep s.heap.size D s [(20, 11, [])] (mm []) H1 := hR1
  show W p l e room_1 s m #[Value.ref b] below meth c H1 [] 1 11 (lw_Z below #[Value.ref b] s) (F0 m 3 ls [px_v s.heap.size (2, 1)])
  refine lv_dup hx hb (ld_ok (show ld 3 .dup = true by decide +kernel)) (by rw [e1]; rfl) ?_
  refine lw_callI mt_309 X (as := []) (rest := [(2, 1)]) (v := 1) (mc' := 125) (ms' := 4958) d4 g4 rfl (by decide) (by decide) (by decide) (by decide) (by decide) (Nat.le_of_ble_eq_true rfl) (Nat.le_of_ble_eq_true rfl) con_112 hR1 hS1 hl.1 (fun x hx => ?_) ?_
  · have h : x = (2, 1) := by simpa using hx
    rw [h]; exact px_ok2 (by decide)
  rintro r L' M' H2 locs2 - ⟨rfl, rfl, rfl⟩ hR2 hS2
  show W p l e room_1 s m #[Value.ref b] below meth c H2 locs2 126 4969 (lw_Z below #[Value.ref b] s) (F0 m 7 ls [px_v s.heap.size (2, 1)])
  rw [e1]
  refine lv_astore_n (lv' := [(1, .ref (s.heap.size + ((1 : Int) - 1).toNat)), (0, .ref b)]) hx hb (ld_ok (show ld 7 (.astore_n 1) = true by decide +kernel)) rfl hl (by decide) rfl (fun ls hl => ?_)
  refine lw_new mt_309 X d8 g8 (Nat.le_of_ble_eq_true rfl) (Nat.le_of_ble_eq_true rfl) hR2 hS2 (fun H3 hR3 hS3 => ?_)
  rw [mm_nw cA_126] at hR3
  have hR3 : px_Rep s.heap.size D s (LA.take 126 ++ [(21, 36, [])]) (mm WA) H3 := hR3
  rw [la_126]
  show W p l e room_1 s m #[Value.ref b] below meth c H3 locs2 127 5005 (lw_Z below #[Value.ref b] s) (F0 m 11 ls [px_v s.heap.size (2, 127)])
  refine lv_dup hx hb (ld_ok (show ld 11 .dup = true by decide +kernel)) (by rw [e127]; rfl) ?_
  refine lw_callI mt_309 X (as := []) (rest := [(2, 127)]) (v := 127) (mc' := 24) (ms' := 10310) d12 g12 rfl (by decide) (by decide) (by decide) (by decide) (by decide) (Nat.le_of_ble_eq_true rfl) (Nat.le_of_ble_eq_true rfl) con_169 hR3 hS3 hl.1 (fun x hx => ?_) ?_
  · have h : x = (2, 127) := by simpa using hx
    rw [h]; exact px_ok2 (by decide)
  rintro r L' M' H4 locs4 - ⟨rfl, rfl, rfl⟩ hR4 hS4
  show W p l e room_1 s m #[Value.ref b] below meth c H4 locs4 151 15315 (lw_Z below #[Value.ref b] s) (F0 m 15 ls [px_v s.heap.size (2, 127)])
  rw [e127]
  refine lv_astore_n (lv' := [(2, .ref (s.heap.size + ((127 : Int) - 1).toNat)), (1, .ref (s.heap.size + ((1 : Int) - 1).toNat)), (0, .ref b)]) hx hb (ld_ok (show ld 15 (.astore_n 2) = true by decide +kernel)) rfl hl (by decide) rfl (fun ls hl => ?_)
  refine lv_iconst (v := nI 0) hx hb (ld_ok (show ld 16 (.iconst 0) = true by decide +kernel)) rfl ?_
  refine lv_istore_n (lv' := [(3, .int (nI 0)), (2, .ref (s.heap.size + ((127 : Int) - 1).toNat)), (1, .ref (s.heap.size + ((1 : Int) - 1).toNat)), (0, .ref b)]) hx hb (ld_ok (show ld 17 (.istore_n 3) = true by decide +kernel)) rfl hl (by decide) rfl (fun ls hl => ?_)
  exact law_loop X hr hlocks hX hbl hL L 0 (by omega) (by decide) (mm WB) H4 locs4 ls RR_fresh (px_relay hR4) hS4 (lv_sub hl [3, 2, 1, 0] rfl)
