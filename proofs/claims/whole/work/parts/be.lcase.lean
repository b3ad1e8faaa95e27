/-! the law's cases: rows of its code, its numbers of the script, two calls and a compare -/
theorem pr_309 : px_PR[309]? = some (px_m_309, px_cd_309) := by rfl
theorem mt_309 : px_MT[309]? = some px_m_309 := by rfl
theorem at_309 (pc : Nat) : px_at 309 pc = px_find px_cd_309 pc := by
  unfold px_at
  rw [pr_309]
def ld (pc : Nat) (i : Instr) : Bool := match px_find px_cd_309 pc with
  | some (_, _, i', _) => decide (i' = i) && !px_isw i
  | none => false
theorem ld_ok {pc : Nat} {i : Instr} (h : ld pc i = true) : decode code pc = .ok (i, px_il i) := by
  unfold ld at h
  split at h
  · next nx hm i' r he =>
    rw [Bool.and_eq_true, decide_eq_true_eq] at h
    obtain ⟨rfl, h2⟩ := h
    obtain ⟨q, ln, g1, g2, g3, g4, g5⟩ := px_at_spec ((at_309 pc).trans he)
    have h3 : px_isw i' = false := by
      cases hi : px_isw i' with
      | false => rfl
      | true => rw [hi] at h2; cases h2
    have h4 := g4 h3
    subst h4
    cases mt_309.symm.trans g1
    exact g2
  · cases h
def lcl (pc z na c : Nat) : Bool := match px_find px_cd_309 pc with
  | some (_, _, .invokevirtual _, [z1, n1, c1, _]) => decide (z1 = z ∧ n1 = na ∧ c1 = c)
  | _ => false
theorem lcl_ok {pc z na c : Nat} (h : lcl pc z na c = true) : ∃ idx j, decode px_m_309.2.1 pc = .ok (.invokevirtual idx, 3) ∧ px_rchk px_m_309 pc (.invokevirtual idx) [z, na, c, j] = true := by
  unfold lcl at h
  split at h
  · next nx hm idx z1 n1 c1 j he =>
    obtain ⟨rfl, rfl, rfl⟩ := of_decide_eq_true h
    obtain ⟨q, ln, g1, g2, g3, g4, g5⟩ := px_at_spec ((at_309 pc).trans he)
    have h4 := g4 rfl
    subst h4
    cases mt_309.symm.trans g1
    exact ⟨idx, j, g2, g5⟩
  · cases h
def lwA : Nat → List (Nat × Bool) → Option Nat
  | pc, [] => some pc
  | pc, (kk, bl) :: ds => if ld pc (.aload_n 0) && ld (pc + 1) (.iload_n 3) && ld (pc + 2) (.iconst (kk : Int)) && ld (pc + 3) .iadd && ld (pc + 4) .iaload && decide (kk ≤ 5) then
      (if bl then (if ld (pc + 5) (.ifCond .eq 7) && ld (pc + 8) (.iconst 1) && ld (pc + 9) (.goto 4) && ld (pc + 12) (.iconst 0) then lwA (pc + 13) ds else none) else lwA (pc + 5) ds) else none
def lca (pc : Nat) (ds : List (Nat × Bool)) (z1 z2 : Nat) : Bool := ld pc (.aload_n 1) && (match lwA (pc + 1) ds with
  | some p1 => lcl p1 z1 ds.length 10 && ld (p1 + 3) (.aload_n 2) && (match lwA (p1 + 4) ds with
    | some p2 => lcl p2 z2 ds.length 11 && ld (p2 + 3) (.if_icmp .eq (1470 - ((p2 + 3 : Nat) : Int)))
    | none => false)
  | none => false)
def lav (xs : Nat → Int32) (i : Nat) (d : Nat × Bool) : pv := if d.2 = true then (0, if xs (i + d.1) = 0 then 0 else 1) else (0, (xs (i + d.1)).toInt)
theorem lav_ok (xs : Nat → Int32) (i : Nat) (d : Nat × Bool) : px_okp (lav xs i d) := by
  unfold lav
  split
  · split
    · exact px_ok0 ⟨by decide, by decide⟩
    · exact px_ok0 ⟨by decide, by decide⟩
  · exact px_ok0 ⟨(xs (i + d.1)).le_toInt, (xs (i + d.1)).toInt_lt⟩
section LA
variable {mc ms : Nat} {Q : Option pv → px_lay → px_mem → Nat → Nat → Prop} {pc : Nat} {M : px_mem} {k n : Nat} {p : Program} {l : Launch} {e : Env} {R : Room} {s : State} {m : MethodId} {args : Array Value} {below : List Frame} {meth : Method} {cd : Code} {QF : State → Prop} {base : Nat} {D : va_G} {H : Heap} {locs : List Loc} {rls : Array Slot} {b Ls : Nat} {xs : Nat → Int32}
theorem lw_arg1 (X : px_CX px_m_309 mc ms Q p l e R s m args below meth cd QF base D) (hX : va_X b Ls xs s s.heap) (hb : b < base) (hS : va_S (fun a => base ≤ a) s.heap H locs) {kk i : Nat} (h : (ld pc (.aload_n 0) && ld (pc + 1) (.iload_n 3) && ld (pc + 2) (.iconst (kk : Int)) && ld (pc + 3) .iadd && ld (pc + 4) .iaload && decide (kk ≤ 5)) = true) (hi : i + 6 ≤ Ls) (hL : Ls ≤ 3072) (h0 : rls[0]? = some (.val (.ref b))) (h3 : rls[3]? = some (.val (.int (nI i)))) {st : List Value}
    (kt : W p l e R s m args below meth cd H locs k n QF (F0 m (pc + 5) rls (.int (xs (i + kk)) :: st))) : W p l e R s m args below meth cd H locs k n QF (F0 m pc rls st) := by
  simp only [Bool.and_eq_true, decide_eq_true_eq] at h
  obtain ⟨⟨⟨⟨⟨r0, r1⟩, r2⟩, r3⟩, r4⟩, r5⟩ := h
  have hx := X.1
  have hbc : cd.code = code := X.2.1
  have hbs : b < s.heap.size := Nat.lt_of_lt_of_le hb X.2.2.2.2.2.2.2.2.2.1.1
  refine lv_aload_n hx hbc (ld_ok r0) rfl h0 ?_
  refine lv_iload_n hx hbc (ld_ok r1) rfl h3 ?_
  refine lv_iconst (v := nI kk) hx hbc (ld_ok r2) rfl ?_
  refine lv_iadd hx hbc (ld_ok r3) ?_
  rw [nI_add]
  refine va_sld hx hbc hX hbs (A := fun a => base ≤ a) (Nat.not_le.mpr hb) hS (vp_in_nI (n := i + kk) (N := Ls) (by omega) (by omega)) (ld_ok r4) ?_
  rw [nI_clamp (by omega)]
  exact kt
theorem lw_args (X : px_CX px_m_309 mc ms Q p l e R s m args below meth cd QF base D) (hX : va_X b Ls xs s s.heap) (hb : b < base) (hS : va_S (fun a => base ≤ a) s.heap H locs) {i : Nat} (hi : i + 6 ≤ Ls) (hL : Ls ≤ 3072) (h0 : rls[0]? = some (.val (.ref b))) (h3 : rls[3]? = some (.val (.int (nI i)))) {ds : List (Nat × Bool)} {pc p1 : Nat} {st : List Value} (h : lwA pc ds = some p1)
    (kt : W p l e R s m args below meth cd H locs k n QF (F0 m p1 rls ((ds.map (lav xs i)).reverse.map (px_v base) ++ st))) : W p l e R s m args below meth cd H locs k n QF (F0 m pc rls st) := by
  have hx := X.1
  have hbc : cd.code = code := X.2.1
  induction ds generalizing pc st with
  | nil =>
    unfold lwA at h
    cases h
    exact kt
  | cons d ds ih =>
    obtain ⟨kk, bl⟩ := d
    unfold lwA at h
    split at h
    · next hr =>
      refine lw_arg1 X hX hb hS hr hi hL h0 h3 ?_
      have hk2 : ∀ w : Value, w = px_v base (lav xs i (kk, bl)) → W p l e R s m args below meth cd H locs k n QF (F0 m p1 rls ((ds.map (lav xs i)).reverse.map (px_v base) ++ w :: st)) := by
        rintro w rfl
        rw [List.map_cons, List.reverse_cons, List.map_append, List.append_assoc] at kt
        exact kt
      cases bl with
      | false =>
        rw [if_neg (by decide)] at h
        refine ih h (hk2 _ ?_)
        unfold lav
        rw [if_neg (fun h : false = true => Bool.noConfusion h)]
        exact congrArg Value.int (Int32.ofInt_toInt _).symm
      | true =>
        rw [if_pos rfl] at h
        split at h
        · next hb2 =>
          simp only [Bool.and_eq_true] at hb2
          obtain ⟨⟨⟨r5, r6⟩, r7⟩, r8⟩ := hb2
          refine lv_if_eq (tgt := pc + 12) hx hbc (ld_ok r5) (by omega) (fun hz => ?_) (fun hz => ?_)
          · refine lv_iconst (v := 0) hx hbc (ld_ok r8) (by decide) ?_
            refine ih h (hk2 _ ?_)
            unfold lav
            rw [if_pos rfl, if_pos hz]
            rfl
          · refine lv_iconst (v := 1) hx hbc (ld_ok r6) (by decide) ?_
            refine lv_goto (tgt := pc + 13) hx hbc (ld_ok r7) (by omega) ?_
            refine ih h (hk2 _ ?_)
            unfold lav
            rw [if_pos rfl, if_neg hz]
            rfl
        · cases h
    · cases h
set_option maxHeartbeats 4000000 in
set_option maxRecDepth 100000 in
theorem lw_case (X : px_CX px_m_309 mc ms Q p l e R s m args below meth cd QF base D) (hX : va_X b Ls xs s s.heap) (hb : b < base) (hS : va_S (fun a => base ≤ a) s.heap H locs) {i : Nat} (hi : i + 6 ≤ Ls) (hL : Ls ≤ 3072) (hl : lv_has rls 4 [(0, .ref b), (1, .ref (base + ((1 : Int) - 1).toNat)), (2, .ref (base + ((127 : Int) - 1).toNat)), (3, .int (nI i))]) {ds : List (Nat × Bool)} {pc z1 z2 : Nat} (hc : lca pc ds z1 z2 = true) (hz1 : z1 < 307) (hz2 : z2 < 307) (hop : opO z1 z2 (ds.map (lav xs i))) (hM : RR M) (hR : px_Rep base D s LAY M H) (hk : k ≤ mc) (hn : n ≤ ms)
    (kk : ∀ (M2 : px_mem) (H2 : Heap) (locs2 : List Loc), RR M2 → px_Rep base D s LAY M2 H2 → va_S (fun a => base ≤ a) s.heap H2 locs2 → W p l e R s m args below meth cd H2 locs2 k n QF (F0 m 1470 rls [])) : W p l e R s m args below meth cd H locs k n QF (F0 m pc rls []) := by
  have hx := X.1
  have hbc : cd.code = code := X.2.1
  have h0 : rls[0]? = some (.val (.ref b)) := lv_at hl 0 rfl
  have h1 : rls[1]? = some (.val (.ref (base + ((1 : Int) - 1).toNat))) := lv_at hl 1 rfl
  have h2 : rls[2]? = some (.val (.ref (base + ((127 : Int) - 1).toNat))) := lv_at hl 2 rfl
  have h3 : rls[3]? = some (.val (.int (nI i))) := lv_at hl 3 rfl
  have hok : ∀ x ∈ ds.map (lav xs i), px_okp x := by
    intro x hx
    obtain ⟨d, -, rfl⟩ := List.mem_map.mp hx
    exact lav_ok xs i d
  unfold lca at hc
  rw [Bool.and_eq_true] at hc
  obtain ⟨c1, hc⟩ := hc
  split at hc
  · next p1 hp1 =>
    simp only [Bool.and_eq_true] at hc
    obtain ⟨⟨c2, c3⟩, hc⟩ := hc
    split at hc
    · next p2 hp2 =>
      rw [Bool.and_eq_true] at hc
      obtain ⟨c4, c5⟩ := hc
      obtain ⟨idx1, j1, d1, g1⟩ := lcl_ok c2
      obtain ⟨idx2, j2, d2, g2⟩ := lcl_ok c4
      refine lv_aload_n hx hbc (ld_ok c1) rfl h1 ?_
      refine lw_args X hX hb hS hi hL h0 h3 hp1 ?_
      have e1 : ((ds.map (lav xs i)).reverse.map (px_v base) ++ [Value.ref (base + ((1 : Int) - 1).toNat)]) = ((ds.map (lav xs i)).reverse ++ (2, 1) :: []).map (px_v base) := by
        rw [List.map_append, List.map_cons, px_v2 base (by decide)]; rfl
      rw [e1]
      refine lw_callV mt_309 X d1 g1 (List.length_map _) rfl (by omega) (by omega) (by omega) (by decide) (mc' := 0) (ms' := 0) hk hn (hop M hM) hR hS hl.1 ?_ ?_
      · intro x hx
        rcases List.mem_append.mp hx with h | h
        · exact hok x (List.mem_reverse.mp h)
        · rw [List.mem_singleton.mp h]; exact px_ok2 (by decide)
      · rintro r L' M1 H1 locs1 hr ⟨rfl, v, rfl, hO2⟩ hR1 hS1
        have hv := hr _ rfl
        refine lv_aload_n hx hbc (ld_ok c3) rfl h2 ?_
        refine lw_args X hX hb hS1 hi hL h0 h3 hp2 ?_
        have e2 : ((ds.map (lav xs i)).reverse.map (px_v base) ++ Value.ref (base + ((127 : Int) - 1).toNat) :: ((some ((0, v) : pv)).toList ++ []).map (px_v base)) = ((ds.map (lav xs i)).reverse ++ (2, 127) :: [(0, v)]).map (px_v base) := by
          simp only [List.map_append, List.map_cons, List.map_nil, px_v2 base (show (0 : Int) < 127 by decide), List.append_nil]; rfl
        rw [e2]
        refine lw_callV mt_309 X d2 g2 (List.length_map _) rfl (by omega) (by omega) (by omega) (Nat.le_of_ble_eq_true rfl) (mc' := 0) (ms' := 0) hk hn hO2 hR1 hS1 hl.1 ?_ ?_
        · intro x hx
          rcases List.mem_append.mp hx with h | h
          · exact hok x (List.mem_reverse.mp h)
          · rcases List.mem_cons.mp h with h | h
            · rw [h]; exact px_ok2 (by decide)
            · rw [List.mem_singleton.mp h]; exact hv
        · rintro r2 L2 M2 H2 locs2 hr2 ⟨rfl, rfl, hM2⟩ hR2 hS2
          refine lv_icmp_eq (tgt := 1470) hx hbc (ld_ok c5) (by omega) (fun _ => kk M2 H2 locs2 hM2 hR2 hS2) (fun hne => absurd rfl hne)
    · cases hc
  · cases hc
end LA
