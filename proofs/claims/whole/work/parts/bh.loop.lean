/-! the law's loop -/
section LB
variable {mc ms : Nat} {Q : Option pv → px_lay → px_mem → Nat → Nat → Prop} {pc : Nat} {M : px_mem} {k n : Nat} {p : Program} {l : Launch} {e : Env} {R : Room} {s : State} {m : MethodId} {args : Array Value} {below : List Frame} {meth : Method} {cd : Code} {QF : State → Prop} {base : Nat} {D : va_G} {H : Heap} {locs : List Loc} {rls : Array Slot} {b Ls : Nat} {xs : Nat → Int32}
theorem lw_tswG (X : px_CX px_m_309 mc ms Q p l e R s m args below meth cd QF base D) {d lo hi : Int} {offs : Array Int} {len t : Nat} {ts : List Nat} (hd : decode code pc = .ok (.tableswitch d lo hi offs, len)) (hr : px_rchk px_m_309 pc (.tableswitch d lo hi offs) (t :: ts) = true) {x : Int32} {rest : List Value}
    (h1 : ∀ (j t' : Nat), ts[j]? = some t' → W p l e R s m args below meth cd H locs k n QF (F0 m t' rls rest)) (h2 : W p l e R s m args below meth cd H locs k n QF (F0 m t rls rest)) : W p l e R s m args below meth cd H locs k n QF (F0 m pc rls (.int x :: rest)) := by
  unfold px_rchk at hr
  simp only [Bool.and_eq_true, decide_eq_true_eq] at hr
  obtain ⟨⟨⟨rfl, g2⟩, g3⟩, g4⟩ := hr
  by_cases hc : x.toInt < 0 ∨ hi < x.toInt
  · exact lv_tableOut X.1 X.2.1 hd hc (px_tgt_eq g3) h2
  · have hlt : x.toInt.toNat < offs.size := by omega
    have ho : offs[x.toInt.toNat]? = some offs[x.toInt.toNat] := Array.getElem?_eq_getElem hlt
    obtain ⟨t', ht1, ht2⟩ := px_tgts_get g4 (i := x.toInt.toNat) (off := offs[x.toInt.toNat]) (by rw [Array.getElem?_toList]; exact ho)
    exact lv_tableIn X.1 X.2.1 hd (by omega) (by omega) (by rw [show (x.toInt - 0).toNat = x.toInt.toNat by omega]; exact ho) ht2 (h1 _ _ ht1)
theorem len6 {Ls : Nat} (hL : Ls ≤ 3072) : (Int32.ofNat Ls - 6).toInt = (Ls : Int) - 6 := by
  have e : Int32.ofNat Ls - 6 = Int32.ofInt ((Ls : Int) - 6) := by
    rw [Int32.ofInt_sub]; rfl
  rw [e]
  exact px_t32 ⟨by omega, by omega⟩
theorem lw_head {QF : State → Prop} (X : px_CX px_m_309 mc ms Q p l e R s m args below meth cd QF base D) (hX : va_X b Ls xs s s.heap) (hb : b < base) (hS : va_S (fun a => base ≤ a) s.heap H locs) {i : Nat} (hi : i ≤ 6000) (hL : Ls ≤ 3072) (h0 : rls[0]? = some (.val (.ref b))) (h3 : rls[3]? = some (.val (.int (nI i))))
    (hq : W p l e R s m args below meth cd H locs k n QF (F0 m 1476 rls [])) (hg : i + 6 ≤ Ls → W p l e R s m args below meth cd H locs k n QF (F0 m 27 rls [])) : W p l e R s m args below meth cd H locs k n QF (F0 m 18 rls []) := by
  have hx := X.1
  have hbc : cd.code = code := X.2.1
  have hbs : b < s.heap.size := Nat.lt_of_lt_of_le hb X.2.2.2.2.2.2.2.2.2.1.1
  refine lv_iload_n hx hbc (ld_ok (show ld 18 (.iload_n 3) = true by decide +kernel)) rfl h3 ?_
  refine lv_aload_n hx hbc (ld_ok (show ld 19 (.aload_n 0) = true by decide +kernel)) rfl h0 ?_
  refine va_slen hx hbc hX hbs (A := fun a => base ≤ a) (Nat.not_le.mpr hb) hS (ld_ok (show ld 20 .arraylength = true by decide +kernel)) ?_
  refine lv_bipush (v := 6) hx hbc (ld_ok (show ld 21 (.bipush 6) = true by decide +kernel)) (by decide) ?_
  refine lv_isub hx hbc (ld_ok (show ld 23 .isub = true by decide +kernel)) ?_
  refine lv_icmp_gt (tgt := 1476) hx hbc (ld_ok (show ld 24 (.if_icmp .gt 1452) = true by decide +kernel)) (by decide) (fun _ => hq) (fun hng => hg ?_)
  rw [Int32.lt_iff_toInt_lt, len6 hL, nI_toInt (by omega)] at hng
  omega
theorem lw_get {QF : State → Prop} (X : px_CX px_m_309 mc ms Q p l e R s m args below meth cd QF base D) (hX : va_X b Ls xs s s.heap) (hb : b < base) (hS : va_S (fun a => base ≤ a) s.heap H locs) {i : Nat} (hi : i + 6 ≤ Ls) (hL : Ls ≤ 3072) (h0 : rls[0]? = some (.val (.ref b))) (h3 : rls[3]? = some (.val (.int (nI i))))
    (h1 : ∀ (j t' : Nat), TS[j]? = some t' → W p l e R s m args below meth cd H locs k n QF (F0 m t' rls [])) (h2 : W p l e R s m args below meth cd H locs k n QF (F0 m 1470 rls [])) : W p l e R s m args below meth cd H locs k n QF (F0 m 27 rls []) := by
  have hx := X.1
  have hbc : cd.code = code := X.2.1
  have hbs : b < s.heap.size := Nat.lt_of_lt_of_le hb X.2.2.2.2.2.2.2.2.2.1.1
  refine lv_aload_n hx hbc (ld_ok (show ld 27 (.aload_n 0) = true by decide +kernel)) rfl h0 ?_
  refine lv_iload_n hx hbc (ld_ok (show ld 28 (.iload_n 3) = true by decide +kernel)) rfl h3 ?_
  refine va_sld hx hbc hX hbs (A := fun a => base ≤ a) (Nat.not_le.mpr hb) hS (vp_in_nI (n := i) (N := Ls) (by omega) (by omega)) (ld_ok (show ld 29 .iaload = true by decide +kernel)) ?_
  refine lv_bipush (v := 63) hx hbc (ld_ok (show ld 30 (.bipush 63) = true by decide +kernel)) (by decide) ?_
  refine lv_iand hx hbc (ld_ok (show ld 32 .iand = true by decide +kernel)) ?_
  obtain ⟨len, g1, g2⟩ := tsw_309
  exact lw_tswG X g1 g2 h1 h2
set_option maxHeartbeats 4000000 in
set_option maxRecDepth 100000 in
theorem lw_all (X : px_CX px_m_309 mc ms Q p l e R s m args below meth cd QF base D) (hX : va_X b Ls xs s s.heap) (hb : b < base) (hS : va_S (fun a => base ≤ a) s.heap H locs) {i : Nat} (hi : i + 6 ≤ Ls) (hL : Ls ≤ 3072) (hl : lv_has rls 4 [(0, .ref b), (1, .ref (base + ((1 : Int) - 1).toNat)), (2, .ref (base + ((127 : Int) - 1).toNat)), (3, .int (nI i))]) (hM : RR M) (hR : px_Rep base D s LAY M H) (hk : k ≤ mc) (hn : n ≤ ms)
    (kk : ∀ (M2 : px_mem) (H2 : Heap) (locs2 : List Loc), RR M2 → px_Rep base D s LAY M2 H2 → va_S (fun a => base ≤ a) s.heap H2 locs2 → W p l e R s m args below meth cd H2 locs2 k n QF (F0 m 1470 rls [])) : ∀ (j t' : Nat), TS[j]? = some t' → W p l e R s m args below meth cd H locs k n QF (F0 m t' rls []) := by
  intro j t' ht
  match j, ht with
  | 0, ht => cases ht; exact lw_case X hX hb hS hi hL hl lc_0 (by decide) (by decide) (lo_0 xs i) hM hR hk hn kk
  | 1, ht => cases ht; exact lw_case X hX hb hS hi hL hl lc_1 (by decide) (by decide) (lo_1 xs i) hM hR hk hn kk
  | 2, ht => cases ht; exact lw_case X hX hb hS hi hL hl lc_2 (by decide) (by decide) (lo_2 xs i) hM hR hk hn kk
  | 3, ht => cases ht; exact lw_case X hX hb hS hi hL hl lc_3 (by decide) (by decide) (lo_3 xs i) hM hR hk hn kk
  | 4, ht => cases ht; exact lw_case X hX hb hS hi hL hl lc_4 (by decide) (by decide) (lo_4 xs i) hM hR hk hn kk
  | 5, ht => cases ht; exact lw_case X hX hb hS hi hL hl lc_5 (by decide) (by decide) (lo_5 xs i) hM hR hk hn kk
  | 6, ht => cases ht; exact lw_case X hX hb hS hi hL hl lc_6 (by decide) (by decide) (lo_6 xs i) hM hR hk hn kk
  | 7, ht => cases ht; exact lw_case X hX hb hS hi hL hl lc_7 (by decide) (by decide) (lo_7 xs i) hM hR hk hn kk
  | 8, ht => cases ht; exact lw_case X hX hb hS hi hL hl lc_8 (by decide) (by decide) (lo_8 xs i) hM hR hk hn kk
  | 9, ht => cases ht; exact lw_case X hX hb hS hi hL hl lc_9 (by decide) (by decide) (lo_9 xs i) hM hR hk hn kk
  | 10, ht => cases ht; exact lw_case X hX hb hS hi hL hl lc_10 (by decide) (by decide) (lo_10 xs i) hM hR hk hn kk
  | 11, ht => cases ht; exact lw_case X hX hb hS hi hL hl lc_11 (by decide) (by decide) (lo_11 xs i) hM hR hk hn kk
  | 12, ht => cases ht; exact lw_case X hX hb hS hi hL hl lc_12 (by decide) (by decide) (lo_12 xs i) hM hR hk hn kk
  | 13, ht => cases ht; exact lw_case X hX hb hS hi hL hl lc_13 (by decide) (by decide) (lo_13 xs i) hM hR hk hn kk
  | 14, ht => cases ht; exact lw_case X hX hb hS hi hL hl lc_14 (by decide) (by decide) (lo_14 xs i) hM hR hk hn kk
  | 15, ht => cases ht; exact lw_case X hX hb hS hi hL hl lc_15 (by decide) (by decide) (lo_15 xs i) hM hR hk hn kk
  | 16, ht => cases ht; exact lw_case X hX hb hS hi hL hl lc_16 (by decide) (by decide) (lo_16 xs i) hM hR hk hn kk
  | 17, ht => cases ht; exact lw_case X hX hb hS hi hL hl lc_17 (by decide) (by decide) (lo_17 xs i) hM hR hk hn kk
  | 18, ht => cases ht; exact lw_case X hX hb hS hi hL hl lc_18 (by decide) (by decide) (lo_18 xs i) hM hR hk hn kk
  | 19, ht => cases ht; exact lw_case X hX hb hS hi hL hl lc_19 (by decide) (by decide) (lo_19 xs i) hM hR hk hn kk
  | 20, ht => cases ht; exact lw_case X hX hb hS hi hL hl lc_20 (by decide) (by decide) (lo_20 xs i) hM hR hk hn kk
  | 21, ht => cases ht; exact lw_case X hX hb hS hi hL hl lc_21 (by decide) (by decide) (lo_21 xs i) hM hR hk hn kk
  | 22, ht => cases ht; exact lw_case X hX hb hS hi hL hl lc_22 (by decide) (by decide) (lo_22 xs i) hM hR hk hn kk
  | 23, ht => cases ht; exact lw_case X hX hb hS hi hL hl lc_23 (by decide) (by decide) (lo_23 xs i) hM hR hk hn kk
  | 24, ht => cases ht; exact lw_case X hX hb hS hi hL hl lc_24 (by decide) (by decide) (lo_24 xs i) hM hR hk hn kk
  | 25, ht => cases ht; exact lw_case X hX hb hS hi hL hl lc_25 (by decide) (by decide) (lo_25 xs i) hM hR hk hn kk
  | 26, ht => cases ht; exact lw_case X hX hb hS hi hL hl lc_26 (by decide) (by decide) (lo_26 xs i) hM hR hk hn kk
  | 27, ht => cases ht; exact lw_case X hX hb hS hi hL hl lc_27 (by decide) (by decide) (lo_27 xs i) hM hR hk hn kk
  | 28, ht => cases ht; exact lw_case X hX hb hS hi hL hl lc_28 (by decide) (by decide) (lo_28 xs i) hM hR hk hn kk
  | 29, ht => cases ht; exact lw_case X hX hb hS hi hL hl lc_29 (by decide) (by decide) (lo_29 xs i) hM hR hk hn kk
  | 30, ht => cases ht; exact lw_case X hX hb hS hi hL hl lc_30 (by decide) (by decide) (lo_30 xs i) hM hR hk hn kk
  | 31, ht => cases ht; exact lw_case X hX hb hS hi hL hl lc_31 (by decide) (by decide) (lo_31 xs i) hM hR hk hn kk
  | 32, ht => cases ht; exact lw_case X hX hb hS hi hL hl lc_32 (by decide) (by decide) (lo_32 xs i) hM hR hk hn kk
  | 33, ht => cases ht; exact lw_case X hX hb hS hi hL hl lc_33 (by decide) (by decide) (lo_33 xs i) hM hR hk hn kk
  | 34, ht => cases ht; exact lw_case X hX hb hS hi hL hl lc_34 (by decide) (by decide) (lo_34 xs i) hM hR hk hn kk
  | 35, ht => cases ht; exact lw_case X hX hb hS hi hL hl lc_35 (by decide) (by decide) (lo_35 xs i) hM hR hk hn kk
  | 36, ht => cases ht; exact lw_case X hX hb hS hi hL hl lc_36 (by decide) (by decide) (lo_36 xs i) hM hR hk hn kk
  | 37, ht => cases ht; exact lw_case X hX hb hS hi hL hl lc_37 (by decide) (by decide) (lo_37 xs i) hM hR hk hn kk
  | 38, ht => cases ht; exact lw_case X hX hb hS hi hL hl lc_38 (by decide) (by decide) (lo_38 xs i) hM hR hk hn kk
  | 39, ht => cases ht; exact lw_case X hX hb hS hi hL hl lc_39 (by decide) (by decide) (lo_39 xs i) hM hR hk hn kk
  | j + 40, ht => exact absurd ht (by simp [TS])
end LB
set_option maxHeartbeats 4000000 in
set_option maxRecDepth 100000 in
theorem law_loop {l : Launch} {p : Program} {e : Env} {s : State} {m : MethodId} {below : List Frame} {meth : Method} {cd : Code} {Q : Option pv → px_lay → px_mem → Nat → Nat → Prop} {D : va_G} {b Ls : Nat} {xs : Nat → Int32} (X : px_CX px_m_309 600000 7302250 Q p l e room_1 s m #[Value.ref b] below meth cd (lw_Z below #[Value.ref b] s) s.heap.size D) (hr : meth.sig.returnType = ret) (hlocks : meth.locks = false) (hX : va_X b Ls xs s s.heap) (hb : b < s.heap.size) (hL : Ls ≤ 3072) (N : Nat) : ∀ (i : Nat), Ls ≤ i + N → i ≤ 6000 → ∀ (M : px_mem) (H : Heap) (locs : List Loc) (rls : Array Slot), RR M → px_Rep s.heap.size D s LAY M H → va_S (fun a => s.heap.size ≤ a) s.heap H locs → lv_has rls 4 [(0, .ref b), (1, .ref (s.heap.size + ((1 : Int) - 1).toNat)), (2, .ref (s.heap.size + ((127 : Int) - 1).toNat)), (3, .int (nI i))] →
    W p l e room_1 s m #[Value.ref b] below meth cd H locs 151 15315 (lw_Z below #[Value.ref b] s) (F0 m 18 rls []) := by
  have hx := X.1
  have hbc : cd.code = code := X.2.1
  have hend : ∀ (H : Heap) (locs : List Loc) (rls : Array Slot), va_S (fun a => s.heap.size ≤ a) s.heap H locs → W p l e room_1 s m #[Value.ref b] below meth cd H locs 151 15315 (lw_Z below #[Value.ref b] s) (F0 m 1476 rls []) := by
    intro H locs rls hS
    refine lv_iconst (v := 1) hx hbc (ld_ok (show ld 1476 (.iconst 1) = true by decide +kernel)) (by decide) ?_
    refine va_forget (fun q hq => hS.2.2 q hq) ?_
    refine W.widen (k := 600000) (n := 7302250) (Nat.le_of_ble_eq_true rfl) (Nat.le_of_ble_eq_true rfl) ?_
    exact lw_ret hx hbc hr hlocks (ld_ok (show ld 1477 .ireturn = true by decide +kernel))
  induction N with
  | zero =>
    intro i h1 h2 M H locs rls hM hR hS hl
    exact lw_head X hX hb hS h2 hL (lv_at hl 0 rfl) (lv_at hl 3 rfl) (hend H locs rls hS) (fun h => absurd h (by omega))
  | succ N ih =>
    intro i h1 h2 M H locs rls hM hR hS hl
    refine lw_head X hX hb hS h2 hL (lv_at hl 0 rfl) (lv_at hl 3 rfl) (hend H locs rls hS) (fun h => ?_)
    have kk : ∀ (M2 : px_mem) (H2 : Heap) (locs2 : List Loc), RR M2 → px_Rep s.heap.size D s LAY M2 H2 → va_S (fun a => s.heap.size ≤ a) s.heap H2 locs2 → W p l e room_1 s m #[Value.ref b] below meth cd H2 locs2 151 15315 (lw_Z below #[Value.ref b] s) (F0 m 1470 rls []) := by
      intro M2 H2 locs2 hM2 hR2 hS2
      refine lv_iinc (v := nI (i + 6)) (lv' := [(3, .int (nI (i + 6))), (0, .ref b), (1, .ref (s.heap.size + ((1 : Int) - 1).toNat)), (2, .ref (s.heap.size + ((127 : Int) - 1).toNat))]) hx hbc (ld_ok (show ld 1470 (.iinc 3 6) = true by decide +kernel)) hl (k := 3) rfl (nI_add i 6) (by decide) rfl (fun ls hl2 => ?_)
      refine lv_goto (tgt := 18) hx hbc (ld_ok (show ld 1473 (.goto (-1455)) = true by decide +kernel)) (by decide) ?_
      exact ih (i + 6) (by omega) (by omega) M2 H2 locs2 ls hM2 hR2 hS2 (lv_sub hl2 [1, 2, 3, 0] rfl)
    exact lw_get X hX hb hS h hL (lv_at hl 0 rfl) (lv_at hl 3 rfl) (lw_all X hX hb hS h hL hl hM hR (Nat.le_of_ble_eq_true rfl) (Nat.le_of_ble_eq_true rfl) kk) (kk M H locs hM hR hS)
