set_option maxRecDepth 100000 in
/-- X12_drop -/
theorem cd_248 : px_at 248 0 = some (1, [], .aload_n 0, []) ∧ px_at 248 1 = some (2, [], .iload_n 1, []) ∧ px_at 248 2 = some (5, [], .invokevirtual 267, [208, 1, 11, 250]) ∧ px_at 248 5 = some (6, [], .istore_n 2, []) ∧ px_at 248 6 = some (7, [], .iload_n 2, []) ∧ px_at 248 7 = some (8, [], .iconst (-1), []) ∧ px_at 248 8 = some (11, [], .if_icmp .ne 6, [14]) ∧ px_at 248 11 = some (13, [], .bipush (-2), []) ∧ px_at 248 13 = some (14, [], .ireturn, [0]) ∧ px_at 248 14 = some (15, [], .aload_n 0, []) ∧ px_at 248 15 = some (18, [], .getfield 7, [11, 0, 2, 1, 125]) ∧ px_at 248 18 = some (19, [], .aload_n 0, []) ∧ px_at 248 19 = some (20, [], .iload_n 2, []) ∧ px_at 248 20 = some (23, [], .invokevirtual 174, [204, 1, 11, 251]) ∧ px_at 248 23 = some (24, [], .iconst 3, []) ∧ px_at 248 24 = some (25, [], .iadd, []) ∧ px_at 248 25 = some (26, [], .iaload, []) ∧ px_at 248 26 = some (27, [], .iconst 1, []) ∧ px_at 248 27 = some (30, [], .if_icmp .ne 8, [35]) ∧ px_at 248 30 = some (32, [], .bipush (-3), []) ∧ px_at 248 32 = some (35, [], .goto 8, [40]) ∧ px_at 248 35 = some (36, [], .aload_n 0, []) ∧ px_at 248 36 = some (37, [], .iload_n 2, []) ∧ px_at 248 37 = some (40, [], .invokevirtual 322, [247, 1, 11, 288]) ∧ px_at 248 40 = some (41, [], .ireturn, [0]) := ⟨rfl, rfl, rfl, rfl, rfl, rfl, rfl, rfl, rfl, rfl, rfl, rfl, rfl, rfl, rfl, rfl, rfl, rfl, rfl, rfl, rfl, rfl, rfl, rfl, rfl⟩
set_option maxRecDepth 100000 in
/-- X12_thin -/
theorem cd_249 : px_at 249 0 = some (1, [], .iload_n 1, []) ∧ px_at 249 1 = some (2, [], .iconst 0, []) ∧ px_at 249 2 = some (4, [], .bipush 10, []) ∧ px_at 249 4 = some (7, [], .invokestatic 92, [170, 3, 11, 223]) ∧ px_at 249 7 = some (10, [], .ifCond .ne 5, [12]) ∧ px_at 249 10 = some (11, [], .iconst (-1), []) ∧ px_at 249 11 = some (12, [], .ireturn, [0]) ∧ px_at 249 12 = some (13, [], .iconst 0, []) ∧ px_at 249 13 = some (14, [], .istore_n 2, []) ∧ px_at 249 14 = some (15, [], .aload_n 0, []) ∧ px_at 249 15 = some (18, [], .getfield 7, [11, 0, 2, 1, 125]) ∧ px_at 249 18 = some (19, [], .iconst 5, []) ∧ px_at 249 19 = some (20, [], .iaload, []) ∧ px_at 249 20 = some (21, [], .iload_n 1, []) ∧ px_at 249 21 = some (22, [], .isub, []) ∧ px_at 249 22 = some (23, [], .istore_n 3, []) ∧ px_at 249 23 = some (24, [], .iconst 0, []) ∧ px_at 249 24 = some (26, [], .istore 4, []) ∧ px_at 249 26 = some (27, [], .iconst 0, []) ∧ px_at 249 27 = some (29, [], .istore 5, []) ∧ px_at 249 29 = some (31, [1, 0, 1, 1, 1, 1], .iload 5, []) ∧ px_at 249 31 = some (32, [], .iload_n 3, []) ∧ px_at 249 32 = some (35, [], .if_icmp .ge 44, [76]) ∧ px_at 249 35 = some (36, [], .aload_n 0, []) ∧ px_at 249 36 = some (39, [], .getfield 7, [11, 0, 2, 1, 125]) ∧ px_at 249 39 = some (40, [], .aload_n 0, []) ∧ px_at 249 40 = some (42, [], .iload 4, []) ∧ px_at 249 42 = some (45, [], .invokevirtual 174, [204, 1, 11, 251]) ∧ px_at 249 45 = some (46, [], .iconst 3, []) ∧ px_at 249 46 = some (47, [], .iadd, []) ∧ px_at 249 47 = some (48, [], .iaload, []) ∧ px_at 249 48 = some (49, [], .iconst 1, []) ∧ px_at 249 49 = some (52, [], .if_icmp .ne 12, [61]) ∧ px_at 249 52 = some (54, [], .iload 4, []) ∧ px_at 249 54 = some (55, [], .iconst 1, []) ∧ px_at 249 55 = some (56, [], .iadd, []) ∧ px_at 249 56 = some (58, [], .istore 4, []) ∧ px_at 249 58 = some (61, [], .goto 12, [70]) ∧ px_at 249 61 = some (62, [], .iload_n 2, []) ∧ px_at 249 62 = some (63, [], .aload_n 0, []) ∧ px_at 249 63 = some (65, [], .iload 4, []) ∧ px_at 249 65 = some (68, [], .invokevirtual 322, [247, 1, 11, 288]) ∧ px_at 249 68 = some (69, [], .iadd, []) ∧ px_at 249 69 = some (70, [], .istore_n 2, []) ∧ px_at 249 70 = some (73, [], .iinc 5 1, []) ∧ px_at 249 73 = some (76, [], .goto (-44), [29]) ∧ px_at 249 76 = some (77, [], .iload_n 2, []) ∧ px_at 249 77 = some (78, [], .ireturn, [0]) := ⟨rfl, rfl, rfl, rfl, rfl, rfl, rfl, rfl, rfl, rfl, rfl, rfl, rfl, rfl, rfl, rfl, rfl, rfl, rfl, rfl, rfl, rfl, rfl, rfl, rfl, rfl, rfl, rfl, rfl, rfl, rfl, rfl, rfl, rfl, rfl, rfl, rfl, rfl, rfl, rfl, rfl, rfl, rfl, rfl, rfl, rfl, rfl, rfl⟩
/-! the reference: drop, thin, whole -/
/-- cells of the editions behind a drop -/
theorem ga_cells {F F1 F2 : Int → Int} {s n num t : Int} (hs : 0 ≤ s ∧ s < n) (hn : n ≤ 10) (hI : rlkI F1 F num t n) (h2 : ∀ x, 1294 ≤ x → F2 x = if 1294 + 186 * s ≤ x ∧ x < 1294 + 186 * (n - 1) then F1 (x + 186) else F1 x) {i k : Int} (i0 : 0 ≤ i) (i1 : i < n - 1) (hk : k = if i < s then i else i + 1) : (∀ y, 0 ≤ y → y < 186 → y ≠ 1 → y ≠ 2 → F2 (1294 + 186 * i + y) = F (1294 + 186 * k + y)) ∧ F2 (1294 + 186 * i + 1) = rlk num t (F (1294 + 186 * k + 1)) ∧ F2 (1294 + 186 * i + 2) = rlk num t (F (1294 + 186 * k + 2)) := by
  have key : ∀ y, 0 ≤ y → y < 186 → F2 (1294 + 186 * i + y) = F1 (1294 + 186 * k + y) := fun y y0 y1 => by
    rw [h2 _ (by omega)]
    by_cases q : i < s
    · rw [if_pos q] at hk
      rw [if_neg (by omega), hk]
    · rw [if_neg q] at hk
      rw [if_pos (by omega), hk, show 1294 + 186 * i + y + 186 = 1294 + 186 * (i + 1) + y by omega]
  have hk2 : 0 ≤ k ∧ k < n := by
    by_cases q : i < s
    · rw [if_pos q] at hk; omega
    · rw [if_neg q] at hk; omega
  refine ⟨fun y y0 y1 y2 y3 => ?_, ?_, ?_⟩
  · rw [key y y0 y1]
    exact hI.2 _ (fun j j0 j1 => by omega)
  · rw [key 1 (by decide) (by decide)]; exact (hI.1 k hk2.1 hk2.2).1
  · rw [key 2 (by decide) (by decide)]; exact (hI.1 k hk2.1 hk2.2).2
theorem ga_TE {Mc Mc' : px_mem} {F F1 F2 F3 : Int → Int} {s d : Int} {pl : Int → Int → List Int} {nm : Int → List Int} (hT : TE Mc pl nm F) (hnum : numI Mc) (hs : 0 ≤ s ∧ s < Mc 20 1) (hd : drpC Mc Mc' s d) (hI : rlkI F1 F (Mc (Mc 21 s) 3) (Mc (Mc 21 s) 4) (Mc 20 1)) (h2 : ∀ x, 1294 ≤ x → F2 x = if 1294 + 186 * s ≤ x ∧ x < 1294 + 186 * (Mc 20 1 - 1) then F1 (x + 186) else F1 x) (h25 : F2 5 = Mc 20 1 - 1) (h2c : ∀ x, 654 ≤ x → x < 1294 → F2 x = F x) (h3 : ∀ x, (∀ c, 0 ≤ c → c < 40 → x ≠ 654 + 6 * c) → F3 x = F2 x) (h3u : ∀ c, 0 ≤ c → c < 40 → rC F3 c 0 = b1 (0 ≤ Mc 62 c ∧ ¬ rnt F2 (Mc 62) c)) : TE Mc' (shp pl s) (shp nm s) F3 ∧ d = sm 40 (fun c => b1 (0 ≤ Mc 62 c ∧ rnt F2 (Mc 62) c)) := by
  have hinv := drp_inv hd hT.2.1 hnum hT.1.1 hs
  have hTn := TE_n hT
  have hd0 := hd
  obtain ⟨d1, d2, d3, d4, d5, d6, d7, d8, d9, d10, d11, d12⟩ := hd
  have hcell := fun i i0 i1 k hk => ga_cells (i := i) (k := k) hs (show Mc 20 1 ≤ 10 by omega) hI h2 i0 i1 hk
  have hsig := fun i i0 i1 => sig_at hd0 hT.2.1.1 hs (i := i) i0 i1
  have hE2 : ∀ i, 0 ≤ i → i < Mc 20 1 - 1 → rE F2 i 17 = nfC Mc' i ∧ ∀ j, 0 ≤ j → j < nfC Mc' i → rcf F2 i j = cfC Mc' i j := fun i i0 i1 => by
    obtain ⟨k, k1, k2, k3, k4, k5, k6, k7, k8, k9, k10⟩ := hsig i i0 i1
    have hc := hcell i i0 i1 k k1
    have e1 : nfC Mc' i = Mc (Mc 21 k) 2 := k6 2 (by decide) (by decide)
    have hee := TE_e hT k2 k3
    refine ⟨?_, fun j j0 j1 => ?_⟩
    · rw [e1, ← hee.2.2.2.2.1]; exact hc.1 17 (by decide) (by decide) (by decide) (by decide)
    · rw [e1] at j1
      have en := TE_ent hT k2 k3 j0 j1
      have e2 : cfC Mc' i j = Mc (Mc 21 k + 2) j := by unfold cfC; rw [k8]
      rw [e2, ← en.1.2.2]
      show F2 (1294 + 186 * i + 18 + 14 * j + 13) = _
      have := hc.1 (18 + 14 * j + 13) (by omega) (by omega) (by omega) (by omega)
      rw [show 1294 + 186 * i + 18 + 14 * j + 13 = 1294 + 186 * i + (18 + 14 * j + 13) by omega, this]
      congr 1; omega
  have hnt : ∀ c, rnt F2 (Mc 62) c ↔ ntC (Mc 62) (Mc 61) (Mc' 20 1) (nfC Mc') (cfC Mc') c := fun c => by
    unfold rnt ntC
    refine forall_congr' (fun i => imp_congr_right (fun i0 => not_congr ?_))
    refine fullS_congr (fun x x0 x1 x2 => ?_) (fun c => ?_) 3 c
    · show F2 (654 + 6 * x + 5) = _
      rw [h2c _ (by omega) (by omega)]
      exact (tieC_p hT.1 x0 x1 x2).2.2.2.2
    · rw [h25, d2]
      constructor
      · rintro ⟨z1, z2⟩; exact ⟨z1, (lsE_congr (hE2 i i0 z1).1 (hE2 i i0 z1).2).mp z2⟩
      · rintro ⟨z1, z2⟩; exact ⟨z1, (lsE_congr (hE2 i i0 z1).1 (hE2 i i0 z1).2).mpr z2⟩
  have hed : d = sm 40 (fun c => b1 (0 ≤ Mc 62 c ∧ rnt F2 (Mc 62) c)) := by
    rw [d10]
    refine sm_congr (fun c _ _ => ?_)
    by_cases q : 0 ≤ Mc 62 c ∧ rnt F2 (Mc 62) c
    · rw [b1_t q, b1_t ⟨q.1, (hnt c).mp q.2⟩]
    · rw [b1_f q, b1_f (fun z => q ⟨z.1, (hnt c).mpr z.2⟩)]
  have hrow : ∀ b j, 53 ≤ b → b < 111 → b ≠ 54 → b ≠ 62 → Mc' b j = Mc b j := fun b j b0 b1' b2 b3 => d12 b j (by omega) (by omega) (by omega) b2 b3 (by omega) (Or.inr (by omega))
  have hgone := d9.1
  refine ⟨⟨⟨hinv.2.2, fun c c0 c1 => ?_, fun c p c0 c1 c2 p0 p1 => ?_, fun k k0 k1 => ?_⟩, hinv.1, by rw [h3 5 (fun c _ _ => by omega), h25, d2], fun i i0 i1 => ?_⟩, hed⟩
  · rw [h3u c c0 c1]
    by_cases q : 0 ≤ Mc 62 c
    · by_cases r : rnt F2 (Mc 62) c
      · rw [b1_f (fun z => z.2 r), (hgone c).1 ⟨c0, c1, q, (hnt c).mp r⟩]
        exact Or.inr ⟨by decide, rfl⟩
      · rw [b1_t ⟨q, r⟩, (hgone c).2 (fun z => r ((hnt c).mpr z.2.2.2))]
        exact Or.inl ⟨q, rfl⟩
    · rw [b1_f (fun z => q z.1), (hgone c).2 (fun z => q z.2.2.1)]
      exact Or.inr ⟨by omega, rfl⟩
  · have c3 : 0 ≤ Mc 62 c := by
      by_cases r : 0 ≤ c ∧ c < 40 ∧ 0 ≤ Mc 62 c ∧ ntC (Mc 62) (Mc 61) (Mc' 20 1) (nfC Mc') (cfC Mc') c
      · exact r.2.2.1
      · rw [(hgone c).2 r] at c2; exact c2
    have e1 : rC F3 c p = rC F c p := by
      unfold rC
      rw [h3 _ (fun x _ _ => by omega), h2c _ (by omega) (by omega)]
    rw [e1, hT.1.2.2.1 c p c0 c1 c3 p0 p1]
    exact (hrow (56 + p) c (by omega) (by omega) (by omega) (by omega)).symm
  · rw [h3 _ (fun x _ _ => by omega), h2c _ (by omega) (by omega), hT.1.2.2.2 k k0 k1]
    exact (hrow 53 k (by decide) (by decide) (by decide) (by decide)).symm
  · rw [d2] at i1
    obtain ⟨k, k1, k2, k3, k4, k5, k6, k7, k8, k9, k10⟩ := hsig i i0 i1
    have hc := hcell i i0 i1 k k1
    have hee := TE_e hT k2 k3
    have hte := hT.2.2.2 k k2 k3
    have f3 : ∀ x, 1294 ≤ x → F3 x = F2 x := fun x x0 => h3 x (fun c _ _ => by omega)
    have epl : shp pl s i = pl k := by
      unfold shp
      by_cases q : i < s
      · rw [if_pos q] at k1 ⊢; rw [k1]
      · rw [if_neg q] at k1 ⊢; rw [k1]
    have enm : shp nm s i = nm k := by
      unfold shp
      by_cases q : i < s
      · rw [if_pos q] at k1 ⊢; rw [k1]
      · rw [if_neg q] at k1 ⊢; rw [k1]
    have hcy : ∀ a y, 3 ≤ a → a + y < 186 → 0 ≤ y → F3 (1294 + 186 * i + a + y) = F (1294 + 186 * k + a + y) := fun a y a0 a1 y0 => by
      rw [f3 _ (by omega), Int.add_assoc, Int.add_assoc (1294 + 186 * k)]
      exact hc.1 (a + y) (by omega) a1 (by omega) (by omega)
    refine ⟨⟨?_, ?_, ?_, ?_, ?_⟩, ⟨?_, ?_⟩, fun j j0 j1 => ?_⟩
    · unfold rE
      rw [f3 _ (by omega), hc.1 0 (by decide) (by decide) (by decide) (by decide), k6 3 (by decide) (by decide)]
      exact hee.1
    · unfold rE
      rw [f3 _ (by omega), hc.2.1, k9]
      show rlk _ _ (rE F k 1) = _
      rw [hee.2.1]
    · unfold rE
      rw [f3 _ (by omega), hc.2.2, k10]
      show rlk _ _ (rE F k 2) = _
      rw [hee.2.2.1]
    · unfold rE
      rw [f3 _ (by omega), hc.1 3 (by decide) (by decide) (by decide) (by decide), k6 6 (by decide) (by decide)]
      exact hee.2.2.2.1
    · unfold rE
      rw [f3 _ (by omega), hc.1 17 (by decide) (by decide) (by decide) (by decide), k6 2 (by decide) (by decide)]
      exact hee.2.2.2.2.1
    · rw [fp_congr (F := F) (b := 1294 + 186 * k + 4) (fun y y0 y1 => hcy 4 y (by decide) (by omega) y0) hte.2.1.2.2.2.1, enm]
      exact hte.2.1.1
    · exact pok_congr (F := F) (b := 1294 + 186 * k + 4) (fun y y0 y1 => hcy 4 y (by decide) (by omega) y0) hte.2.1.2 (by omega)
    · rw [k6 2 (by decide) (by decide)] at j1
      have en := hte.2.2 j j0 j1
      have hcj : ∀ y, 0 ≤ y → y < 14 → F3 (1294 + 186 * i + 18 + 14 * j + y) = F (1294 + 186 * k + 18 + 14 * j + y) := fun y y0 y1 => by
        have := hcy 18 (14 * j + y) (by decide) (by omega) (by omega)
        rw [show 1294 + 186 * i + 18 + 14 * j + y = 1294 + 186 * i + 18 + (14 * j + y) by omega, this]
        congr 1; omega
      refine ⟨?_, pok_congr (F := F) (fun y y0 y1 => hcj y y0 (by omega)) en.2.1 (by omega), ?_⟩
      · rw [epl, ← en.1]
        exact fp_congr (fun y y0 y1 => hcj y y0 (by omega)) en.2.1.2.2.1
      · rw [k8]
        unfold rcf
        rw [hcj 13 (by decide) (by decide)]
        exact en.2.2
theorem thtr_chain {M : px_mem} : ∀ (k : Nat) (M' : px_mem) (p n : Int), thtr M k M' p n → ∃ (Ms : Nat → px_mem) (ps ns : Nat → Int), Ms 0 = M ∧ ps 0 = 0 ∧ ns 0 = 0 ∧ Ms k = M' ∧ ps k = p ∧ ns k = n ∧ ∀ i : Nat, i < k → ∃ d, thst (Ms i) (ps i) (Ms (i + 1)) (ps (i + 1)) d ∧ ns (i + 1) = ns i + d := by
  intro k
  induction k with
  | zero =>
    intro M' p n h
    exact ⟨fun _ => M, fun _ => 0, fun _ => 0, rfl, rfl, rfl, h.1.symm, h.2.1.symm, h.2.2.symm, fun i hi => absurd hi (Nat.not_lt_zero i)⟩
  | succ k ih =>
    intro M' p n h
    obtain ⟨M1, p1, n1, d, h1, h2, h3⟩ := h
    obtain ⟨Ms, ps, ns, m0, q0, r0, m1, q1, r1, hh⟩ := ih M1 p1 n1 h1
    refine ⟨fun i => if i = k + 1 then M' else Ms i, fun i => if i = k + 1 then p else ps i, fun i => if i = k + 1 then n else ns i, ?_, ?_, ?_, if_pos rfl, if_pos rfl, if_pos rfl, fun i hi => ?_⟩
    · show (if 0 = k + 1 then M' else Ms 0) = M
      rw [if_neg (by omega)]; exact m0
    · show (if 0 = k + 1 then p else ps 0) = 0
      rw [if_neg (by omega)]; exact q0
    · show (if 0 = k + 1 then n else ns 0) = 0
      rw [if_neg (by omega)]; exact r0
    · show ∃ d, thst (if i = k + 1 then M' else Ms i) (if i = k + 1 then p else ps i) (if i + 1 = k + 1 then M' else Ms (i + 1)) (if i + 1 = k + 1 then p else ps (i + 1)) d ∧ (if i + 1 = k + 1 then n else ns (i + 1)) = (if i = k + 1 then n else ns i) + d
      have ne : ¬ i = k + 1 := by omega
      simp only [if_neg ne]
      by_cases e : i = k
      · have e2 : i + 1 = k + 1 := by omega
        simp only [if_pos e2]
        rw [e, m1, q1, r1]; exact ⟨d, h2, h3⟩
      · have e2 : ¬ i + 1 = k + 1 := by omega
        simp only [if_neg e2]
        exact hh i (by omega)
section PS
variable {M : px_mem} {Q : Option pv → px_mem → Prop}
set_option maxHeartbeats 600000 in
set_option maxRecDepth 100000 in
theorem sp_goesAway {Mc Mc' : px_mem} {s d : Int} {pl : Int → Int → List Int} {nm : Int → List Int} (hT : TE Mc pl nm (M 128)) (hnum : numI Mc) (hs : 0 ≤ s ∧ s < Mc 20 1) (hd : drpC Mc Mc' s d) (h1 : M 128 1 = Mc 4 4) (h2 : M 128 2 = Mc 4 5) (h : ∀ M', TE Mc' (shp pl s) (shp nm s) (M' 128) → M' 128 1 = Mc' 4 4 → M' 128 2 = Mc' 4 5 → (∀ x, x < 654 → x ≠ 1 → x ≠ 2 → x ≠ 5 → M' 128 x = M 128 x) → (∀ b, b ≠ 128 → M' b = M b) → Q (some (0, d)) M') : px_Ok 247 [(2, 127), (0, s)] LAY M Q := by
  have hTn := TE_n hT
  have hee := TE_e hT hs.1 hs.2
  have e0 : M 128 (1294 + 186 * s + 0) = Mc (Mc 21 s) 3 := hee.1
  have e1 : M 128 (1294 + 186 * s + 1) = Mc (Mc 21 s) 4 := hee.2.1
  refine px_ok_go (inl := [204]) (ls0 := [(2, 127), (0, s), (9, 0), (9, 0), (9, 0)]) 60 (by decide) (Nat.le_of_ble_eq_true rfl) rfl ?_
  simp only [px_go, px_Q0_at, px_sx_0, px_sx_s, px_cl, px_step, ↓px_ll, px_lg, f4_, ↓px_r1, ↓px_r2, ↓px_r4, ↓px_r5, ↓px_p1, ↓px_p2, ↓px_p3, ↓px_pop, px_k_0, px_k_s, px_k3_0, px_stk_, px_cats, px_ent, px_st1, px_st2, px_mask, ↓px_tsw, ↓px_lsw, ct_, mls_0, mls_1, mls_2, mls_3, mls_4, mls_5, kd_0, kd_1, kd_2, kd_3, ln_0, ln_1, ln_2, ln_3, gf_0, gf_1, gf_2, gf_3, gf_4, gf_7, gf_21, gf_63, dy_0, dy_1, dy_2, dy_3, dy_7, dy_21, px_brT, px_brF, true_and, and_true, and_false, false_and, and_self, true_implies, false_implies, or_true, true_or, or_false, false_or, eq_self, ne_eq, not_false_eq_true, not_true_eq_false, if_true, if_false, List.mem_cons, List.not_mem_nil, List.length_cons, List.length_nil, Nat.reduceEqDiff, Nat.reduceAdd, Nat.reduceSub, Nat.reduceLeDiff, Nat.reduceLT, Int.reduceEq, Int.reduceLT, Int.reduceLE, Int.reduceNeg, Int.reduceAdd, Int.reduceSub, Int.reduceToNat, ↓reduceIte, one_ne_zero_, zero_ne_one_, px_in32L, cd_247, cd_204, e0, e1]
  repeat' (first | (with_reducible apply And.intro) | (with_reducible refine px_br_intro (fun _ => ?_) (fun _ => ?_)))
  all_goals (try (first | (unfold px_in32; omega) | omega))
  refine lp_ga1 (M0 := M) (n := Mc 20 1) hTn.1 (by omega) (fun M1 a1 a2 => ?_) 0 (by omega) M (Int.le_refl 0) ⟨fun i i0 i1 => by omega, fun _ _ => rfl⟩ (fun _ _ => rfl)
  have k5 : M1 128 5 = Mc 20 1 := by rw [a1.2 5 (fun i _ _ => by omega)]; exact hTn.1
  refine px_go_ok (inl := [204]) 60 ?_
  simp only [px_go, px_Q0_at, px_sx_0, px_sx_s, px_cl, px_step, ↓px_ll, px_lg, f4_, ↓px_r1, ↓px_r2, ↓px_r4, ↓px_r5, ↓px_p1, ↓px_p2, ↓px_p3, ↓px_pop, px_k_0, px_k_s, px_k3_0, px_stk_, px_cats, px_ent, px_st1, px_st2, px_mask, ↓px_tsw, ↓px_lsw, ct_, mls_0, mls_1, mls_2, mls_3, mls_4, mls_5, kd_0, kd_1, kd_2, kd_3, ln_0, ln_1, ln_2, ln_3, gf_0, gf_1, gf_2, gf_3, gf_4, gf_7, gf_21, gf_63, dy_0, dy_1, dy_2, dy_3, dy_7, dy_21, px_brT, px_brF, true_and, and_true, and_false, false_and, and_self, true_implies, false_implies, or_true, true_or, or_false, false_or, eq_self, ne_eq, not_false_eq_true, not_true_eq_false, if_true, if_false, List.mem_cons, List.not_mem_nil, List.length_cons, List.length_nil, Nat.reduceEqDiff, Nat.reduceAdd, Nat.reduceSub, Nat.reduceLeDiff, Nat.reduceLT, Int.reduceEq, Int.reduceLT, Int.reduceLE, Int.reduceNeg, Int.reduceAdd, Int.reduceSub, Int.reduceToNat, ↓reduceIte, one_ne_zero_, zero_ne_one_, px_in32L, cd_247, cd_204, k5]
  refine px_br_intro (fun _ => ?_) (fun c => by omega)
  refine sp_relinks ⟨by decide, by decide⟩ (fun M2 b1' b2 => ?_)
  have l5 : M2 128 5 = Mc 20 1 := by rw [b1', if_neg (by decide)]; exact k5
  simp only [px_go, px_Q0_at, px_sx_0, px_sx_s, px_cl, px_step, ↓px_ll, px_lg, f4_, ↓px_r1, ↓px_r2, ↓px_r4, ↓px_r5, ↓px_p1, ↓px_p2, ↓px_p3, ↓px_pop, px_k_0, px_k_s, px_k3_0, px_stk_, px_cats, px_ent, px_st1, px_st2, px_mask, ↓px_tsw, ↓px_lsw, ct_, mls_0, mls_1, mls_2, mls_3, mls_4, mls_5, kd_0, kd_1, kd_2, kd_3, ln_0, ln_1, ln_2, ln_3, gf_0, gf_1, gf_2, gf_3, gf_4, gf_7, gf_21, gf_63, dy_0, dy_1, dy_2, dy_3, dy_7, dy_21, px_brT, px_brF, true_and, and_true, and_false, false_and, and_self, true_implies, false_implies, or_true, true_or, or_false, false_or, eq_self, ne_eq, not_false_eq_true, not_true_eq_false, if_true, if_false, List.mem_cons, List.not_mem_nil, List.length_cons, List.length_nil, Nat.reduceEqDiff, Nat.reduceAdd, Nat.reduceSub, Nat.reduceLeDiff, Nat.reduceLT, Int.reduceEq, Int.reduceLT, Int.reduceLE, Int.reduceNeg, Int.reduceAdd, Int.reduceSub, Int.reduceToNat, ↓reduceIte, one_ne_zero_, zero_ne_one_, px_in32L, cd_247, cd_204, l5]
  repeat' (first | (with_reducible apply And.intro) | (with_reducible refine px_br_intro (fun _ => ?_) (fun _ => ?_)))
  all_goals (try (first | (unfold px_in32; omega) | omega))
  refine lp_ga2 (M0 := px_up M2 128 5 (Mc 20 1 - 1)) (s := s) (m := Mc 20 1 - 1) (by rw [px_up_at, if_pos ⟨rfl, rfl⟩]) (by omega) (by omega) (fun M3 c1 c2 => ?_) (1294 + 186 * s) (by omega) _ (Int.le_refl _) (fun x => by rw [if_neg (by omega)]) (fun _ _ => rfl)
  have m5 : M3 128 5 = Mc 20 1 - 1 := by rw [c1, if_neg (by omega), px_up_at, if_pos ⟨rfl, rfl⟩]
  have lo : ∀ x, x < 1294 → x ≠ 5 → M3 128 x = M2 128 x := fun x x0 x1 => by rw [c1, if_neg (by omega), px_up_at, if_neg (fun z => x1 z.2)]
  have lo1 : ∀ x, x < 1294 → x ≠ 1 → x ≠ 2 → x ≠ 5 → M3 128 x = M 128 x := fun x x0 x1 x2 x3 => by rw [lo x x0 x3, b1', if_neg (by omega), a1.2 x (fun i i0 i1 => by omega)]
  have hi : ∀ x, 1294 ≤ x → M3 128 x = if 1294 + 186 * s ≤ x ∧ x < 1294 + 186 * (Mc 20 1 - 1) then M1 128 (x + 186) else M1 128 x := fun x x0 => by
    rw [c1]
    by_cases q : 1294 + 186 * s ≤ x ∧ x < 1294 + 186 * (Mc 20 1 - 1)
    · rw [if_pos q, if_pos q, px_up_at, if_neg (by omega), b1', if_neg (by omega)]
    · rw [if_neg q, if_neg q, px_up_at, if_neg (by omega), b1', if_neg (by omega)]
  refine px_go_ok (inl := [204]) 60 ?_
  simp only [px_go, px_Q0_at, px_sx_0, px_sx_s, px_cl, px_step, ↓px_ll, px_lg, f4_, ↓px_r1, ↓px_r2, ↓px_r4, ↓px_r5, ↓px_p1, ↓px_p2, ↓px_p3, ↓px_pop, px_k_0, px_k_s, px_k3_0, px_stk_, px_cats, px_ent, px_st1, px_st2, px_mask, ↓px_tsw, ↓px_lsw, ct_, mls_0, mls_1, mls_2, mls_3, mls_4, mls_5, kd_0, kd_1, kd_2, kd_3, ln_0, ln_1, ln_2, ln_3, gf_0, gf_1, gf_2, gf_3, gf_4, gf_7, gf_21, gf_63, dy_0, dy_1, dy_2, dy_3, dy_7, dy_21, px_brT, px_brF, true_and, and_true, and_false, false_and, and_self, true_implies, false_implies, or_true, true_or, or_false, false_or, eq_self, ne_eq, not_false_eq_true, not_true_eq_false, if_true, if_false, List.mem_cons, List.not_mem_nil, List.length_cons, List.length_nil, Nat.reduceEqDiff, Nat.reduceAdd, Nat.reduceSub, Nat.reduceLeDiff, Nat.reduceLT, Int.reduceEq, Int.reduceLT, Int.reduceLE, Int.reduceNeg, Int.reduceAdd, Int.reduceSub, Int.reduceToNat, ↓reduceIte, one_ne_zero_, zero_ne_one_, px_in32L, cd_247, cd_204, m5]
  repeat' (first | (with_reducible apply And.intro) | (with_reducible refine px_br_intro (fun _ => ?_) (fun _ => ?_)))
  all_goals (try (first | (unfold px_in32; omega) | omega))
  have hrus : rus (M3 128) (Mc 62) := fun c c0 c1' => by
    have e : rC (M3 128) c 0 = rC (M 128) c 0 := lo1 _ (by omega) (by omega) (by omega) (by omega)
    rw [e]; exact hT.1.2.1 c c0 c1'
  have hdp : dpt (Mc 62) (fun c => rC (M3 128) c 5) := fun c c0 c1' c2 => by
    have := rok_dpt (tieC_rok hT.1).1 c c0 c1' c2
    have e : rC (M3 128) c 5 = rC (M 128) c 5 := lo1 _ (by omega) (by omega) (by omega) (by omega)
    dsimp only at this ⊢
    rw [e]; exact this
  have hrls : rls (M3 128) (Mc 62) := by
    have hr := TE_rls hT
    refine ⟨by rw [m5]; omega, fun e e0 e1 => ?_⟩
    rw [m5] at e1
    have hc := ga_cells (k := if e < s then e else e + 1) hs (show Mc 20 1 ≤ 10 by omega) a1 hi e0 e1 rfl
    have hk : 0 ≤ (if e < s then e else e + 1) ∧ (if e < s then e else e + 1) < M 128 5 := by split <;> omega
    generalize (if e < s then e else e + 1) = k at *
    have hrk := hr.2 k hk.1 hk.2
    have e17 : rE (M3 128) e 17 = rE (M 128) k 17 := hc.1 17 (by decide) (by decide) (by decide) (by decide)
    rw [e17]
    refine ⟨hrk.1, hrk.2.1, fun j j0 j1 => ?_⟩
    have h3 := hrk.2.2 j j0 j1
    have he : ∀ y, 0 ≤ y → y < 14 → M3 128 (1294 + 186 * e + 18 + 14 * j + y) = M 128 (1294 + 186 * k + 18 + 14 * j + y) := fun y y0 y1 => by
      have := hc.1 (18 + 14 * j + y) (by omega) (by omega) (by omega) (by omega)
      rw [show 1294 + 186 * e + 18 + 14 * j + y = 1294 + 186 * e + (18 + 14 * j + y) by omega, this]
      congr 1; omega
    have e1 : rpl (M3 128) e j = rpl (M 128) k j := fp_congr (fun y y0 y1 => he y y0 (by omega)) h3.1.2.2.1
    have e2 : rcf (M3 128) e j = rcf (M 128) k j := he 13 (by decide) (by decide)
    rw [e1, e2]
    exact ⟨pok_congr (fun y y0 y1 => he y y0 (by omega)) h3.1 (by omega), h3.2⟩
  refine sp_collects hrls hrus hdp (fun M4 f1 f2 f3 => ?_)
  have hfin := ga_TE hT hnum hs hd a1 hi m5 (fun x x0 x1 => lo1 x x1 (by omega) (by omega) (by omega)) f2 f3
  simp only [px_go, px_Q0_at, px_sx_0, px_sx_s, px_cl, px_step, ↓px_ll, px_lg, f4_, ↓px_r1, ↓px_r2, ↓px_r4, ↓px_r5, ↓px_p1, ↓px_p2, ↓px_p3, ↓px_pop, px_k_0, px_k_s, px_k3_0, px_stk_, px_cats, px_ent, px_st1, px_st2, px_mask, ↓px_tsw, ↓px_lsw, ct_, mls_0, mls_1, mls_2, mls_3, mls_4, mls_5, kd_0, kd_1, kd_2, kd_3, ln_0, ln_1, ln_2, ln_3, gf_0, gf_1, gf_2, gf_3, gf_4, gf_7, gf_21, gf_63, dy_0, dy_1, dy_2, dy_3, dy_7, dy_21, px_brT, px_brF, true_and, and_true, and_false, false_and, and_self, true_implies, false_implies, or_true, true_or, or_false, false_or, eq_self, ne_eq, not_false_eq_true, not_true_eq_false, if_true, if_false, List.mem_cons, List.not_mem_nil, List.length_cons, List.length_nil, Nat.reduceEqDiff, Nat.reduceAdd, Nat.reduceSub, Nat.reduceLeDiff, Nat.reduceLT, Int.reduceEq, Int.reduceLT, Int.reduceLE, Int.reduceNeg, Int.reduceAdd, Int.reduceSub, Int.reduceToNat, ↓reduceIte, one_ne_zero_, zero_ne_one_, px_in32L, cd_247, cd_204]
  rw [← hfin.2]
  refine h M4 hfin.1 ?_ ?_ (fun x x0 x1 x2 x3 => by rw [f2 x (fun c _ _ => by omega)]; exact lo1 x (by omega) x1 x2 x3) (fun b b0 => by rw [f1 b b0, c2 b b0, row_ne b0, b2 b b0, a2 b b0])
  · rw [f2 1 (fun c _ _ => by omega), lo 1 (by decide) (by decide), b1', if_pos (by decide), a1.2 1 (fun i _ _ => by omega), h1, hd.2.2.2.2.2.1]
  · rw [f2 2 (fun c _ _ => by omega), lo 2 (by decide) (by decide), b1', if_pos (by decide), a1.2 2 (fun i _ _ => by omega), h2, hd.2.2.2.2.2.2.1]
set_option maxHeartbeats 600000 in
set_option maxRecDepth 100000 in
theorem sp_rdrop {Mc : px_mem} {num : Int} {pl : Int → Int → List Int} {nm : Int → List Int} (hT : TE Mc pl nm (M 128)) (hnum : numI Mc) (h1 : M 128 1 = Mc 4 4) (h2 : M 128 2 = Mc 4 5) (hm2 : slot Mc num < 0 → Q (some (0, -2)) M) (hm3 : 0 ≤ slot Mc num → Mc (Mc 21 (slot Mc num)) 6 = 1 → Q (some (0, -3)) M) (h : 0 ≤ slot Mc num → Mc (Mc 21 (slot Mc num)) 6 ≠ 1 → ∃ Mc' d, drpC Mc Mc' (slot Mc num) d ∧ ∀ M', TE Mc' (shp pl (slot Mc num)) (shp nm (slot Mc num)) (M' 128) → M' 128 1 = Mc' 4 4 → M' 128 2 = Mc' 4 5 → (∀ x, x < 654 → x ≠ 1 → x ≠ 2 → x ≠ 5 → M' 128 x = M 128 x) → (∀ b, b ≠ 128 → M' b = M b) → Q (some (0, d)) M') : px_Ok 248 [(2, 127), (0, num)] LAY M Q := by
  have hsb := slot_bd Mc num
  have hTn := TE_n hT
  refine px_ok_go (inl := [204]) (ls0 := [(2, 127), (0, num), (9, 0)]) 60 (by decide) (Nat.le_of_ble_eq_true rfl) rfl ?_
  simp only [px_go, px_Q0_at, px_sx_0, px_sx_s, px_cl, px_step, ↓px_ll, px_lg, f4_, ↓px_r1, ↓px_r2, ↓px_r4, ↓px_r5, ↓px_p1, ↓px_p2, ↓px_p3, ↓px_pop, px_k_0, px_k_s, px_k3_0, px_stk_, px_cats, px_ent, px_st1, px_st2, px_mask, ↓px_tsw, ↓px_lsw, ct_, mls_0, mls_1, mls_2, mls_3, mls_4, mls_5, kd_0, kd_1, kd_2, kd_3, ln_0, ln_1, ln_2, ln_3, gf_0, gf_1, gf_2, gf_3, gf_4, gf_7, gf_21, gf_63, dy_0, dy_1, dy_2, dy_3, dy_7, dy_21, px_brT, px_brF, true_and, and_true, and_false, false_and, and_self, true_implies, false_implies, or_true, true_or, or_false, false_or, eq_self, ne_eq, not_false_eq_true, not_true_eq_false, if_true, if_false, List.mem_cons, List.not_mem_nil, List.length_cons, List.length_nil, Nat.reduceEqDiff, Nat.reduceAdd, Nat.reduceSub, Nat.reduceLeDiff, Nat.reduceLT, Int.reduceEq, Int.reduceLT, Int.reduceLE, Int.reduceNeg, Int.reduceAdd, Int.reduceSub, Int.reduceToNat, ↓reduceIte, one_ne_zero_, zero_ne_one_, px_in32L, cd_248, cd_204]
  repeat' (first | (with_reducible apply And.intro) | (with_reducible refine px_br_intro (fun _ => ?_) (fun _ => ?_)))
  all_goals (try (first | (unfold px_in32; omega) | omega))
  refine sp_slotT hT ?_
  simp only [px_go, px_Q0_at, px_sx_0, px_sx_s, px_cl, px_step, ↓px_ll, px_lg, f4_, ↓px_r1, ↓px_r2, ↓px_r4, ↓px_r5, ↓px_p1, ↓px_p2, ↓px_p3, ↓px_pop, px_k_0, px_k_s, px_k3_0, px_stk_, px_cats, px_ent, px_st1, px_st2, px_mask, ↓px_tsw, ↓px_lsw, ct_, mls_0, mls_1, mls_2, mls_3, mls_4, mls_5, kd_0, kd_1, kd_2, kd_3, ln_0, ln_1, ln_2, ln_3, gf_0, gf_1, gf_2, gf_3, gf_4, gf_7, gf_21, gf_63, dy_0, dy_1, dy_2, dy_3, dy_7, dy_21, px_brT, px_brF, true_and, and_true, and_false, false_and, and_self, true_implies, false_implies, or_true, true_or, or_false, false_or, eq_self, ne_eq, not_false_eq_true, not_true_eq_false, if_true, if_false, List.mem_cons, List.not_mem_nil, List.length_cons, List.length_nil, Nat.reduceEqDiff, Nat.reduceAdd, Nat.reduceSub, Nat.reduceLeDiff, Nat.reduceLT, Int.reduceEq, Int.reduceLT, Int.reduceLE, Int.reduceNeg, Int.reduceAdd, Int.reduceSub, Int.reduceToNat, ↓reduceIte, one_ne_zero_, zero_ne_one_, px_in32L, cd_248, cd_204]
  generalize slot Mc num = s at *
  refine px_br_intro (fun c1 => ?_) (fun c1 => ?_)
  · exact hm2 (by omega)
  · have hs : 0 ≤ s ∧ s < Mc 20 1 := by omega
    have e3 : M 128 (1294 + 186 * s + 3) = Mc (Mc 21 s) 6 := (TE_e hT hs.1 hs.2).2.2.2.1
    rw [e3]
    repeat' (first | (with_reducible apply And.intro) | (with_reducible refine px_br_intro (fun _ => ?_) (fun _ => ?_)))
    all_goals (try (first | (unfold px_in32; omega) | omega))
    · rename_i c2
      exact hm3 hs.1 c2
    · rename_i c2
      obtain ⟨Mc', d, hd, hx⟩ := h hs.1 c2
      refine sp_goesAway hT hnum hs hd h1 h2 (fun M' a1 a2 a3 a4 a5 => ?_)
      simp only [px_go, px_Q0_at, px_sx_0, px_sx_s, px_cl, px_step, ↓px_ll, px_lg, f4_, ↓px_r1, ↓px_r2, ↓px_r4, ↓px_r5, ↓px_p1, ↓px_p2, ↓px_p3, ↓px_pop, px_k_0, px_k_s, px_k3_0, px_stk_, px_cats, px_ent, px_st1, px_st2, px_mask, ↓px_tsw, ↓px_lsw, ct_, mls_0, mls_1, mls_2, mls_3, mls_4, mls_5, kd_0, kd_1, kd_2, kd_3, ln_0, ln_1, ln_2, ln_3, gf_0, gf_1, gf_2, gf_3, gf_4, gf_7, gf_21, gf_63, dy_0, dy_1, dy_2, dy_3, dy_7, dy_21, px_brT, px_brF, true_and, and_true, and_false, false_and, and_self, true_implies, false_implies, or_true, true_or, or_false, false_or, eq_self, ne_eq, not_false_eq_true, not_true_eq_false, if_true, if_false, List.mem_cons, List.not_mem_nil, List.length_cons, List.length_nil, Nat.reduceEqDiff, Nat.reduceAdd, Nat.reduceSub, Nat.reduceLeDiff, Nat.reduceLT, Int.reduceEq, Int.reduceLT, Int.reduceLE, Int.reduceNeg, Int.reduceAdd, Int.reduceSub, Int.reduceToNat, ↓reduceIte, one_ne_zero_, zero_ne_one_, px_in32L, cd_248, cd_204]
      exact hx M' a1 a2 a3 a4 a5
set_option maxHeartbeats 600000 in
set_option maxRecDepth 100000 in
theorem lp_rthin {M0 : px_mem} {Ms : Nat → px_mem} {ps ns : Nat → Int} {K : Nat} {n0 : Int} (hn0 : n0 ≤ 10) (hK : (K : Int) ≤ n0) (hch : ∀ i : Nat, i < K → ∃ d, thst (Ms i) (ps i) (Ms (i + 1)) (ps (i + 1)) d ∧ ns (i + 1) = ns i + d) (h : ∀ M' pl nm, TE (Ms K) pl nm (M' 128) → numI (Ms K) → M' 128 1 = Ms K 4 4 → M' 128 2 = Ms K 4 5 → (∀ x, x < 654 → x ≠ 1 → x ≠ 2 → x ≠ 5 → M' 128 x = M0 128 x) → (∀ b, b ≠ 128 → M' b = M0 b) → Q (some (0, ns K)) M') (i : Int) (hk_i : i ≤ (K:Int)) : ∀ (M : px_mem) (pl : Int → Int → List Int) (nm : Int → List Int), 0 ≤ i → TE (Ms i.toNat) pl nm (M 128) → numI (Ms i.toNat) → M 128 1 = Ms i.toNat 4 4 → M 128 2 = Ms i.toNat 4 5 → Ms i.toNat 20 1 = n0 - i + ps i.toNat → (0 ≤ ps i.toNat ∧ ps i.toNat ≤ i) → (0 ≤ ns i.toNat ∧ ns i.toNat ≤ 40 * i) → (∀ x, x < 654 → x ≠ 1 → x ≠ 2 → x ≠ 5 → M 128 x = M0 128 x) → (∀ b, b ≠ 128 → M b = M0 b) → px_WP 249 0 0 (px_Q0 LAY Q) 29 [(2, 127), (9, 0), (0, ns i.toNat), (0, (K : Int)), (0, ps i.toNat), (0, i)] [] LAY M 0 0 := by
  refine up_ind (P := fun i => ∀ (M : px_mem) (pl : Int → Int → List Int) (nm : Int → List Int), 0 ≤ i → TE (Ms i.toNat) pl nm (M 128) → numI (Ms i.toNat) → M 128 1 = Ms i.toNat 4 4 → M 128 2 = Ms i.toNat 4 5 → Ms i.toNat 20 1 = n0 - i + ps i.toNat → (0 ≤ ps i.toNat ∧ ps i.toNat ≤ i) → (0 ≤ ns i.toNat ∧ ns i.toNat ≤ 40 * i) → (∀ x, x < 654 → x ≠ 1 → x ≠ 2 → x ≠ 5 → M 128 x = M0 128 x) → (∀ b, b ≠ 128 → M b = M0 b) → px_WP 249 0 0 (px_Q0 LAY Q) 29 [(2, 127), (9, 0), (0, ns i.toNat), (0, (K : Int)), (0, ps i.toNat), (0, i)] [] LAY M 0 0) ((K:Int)) (fun i hk_i ih => ?_) i hk_i
  intro M pl nm i0 hT hnum h1 h2 hsz hpi hns hlo hfr
  have hTn := TE_n hT
  have esl : ∀ q : i < (K : Int), M 128 (1294 + 186 * ps i.toNat + 3) = Ms i.toNat (Ms i.toNat 21 (ps i.toNat)) 6 := fun q => (TE_e hT hpi.1 (by omega)).2.2.2.1
  have e1 : (i + 1).toNat = i.toNat + 1 := by omega
  refine px_go_ok (inl := [204]) 60 ?_
  simp only [px_go, px_Q0_at, px_sx_0, px_sx_s, px_cl, px_step, ↓px_ll, px_lg, f4_, ↓px_r1, ↓px_r2, ↓px_r4, ↓px_r5, ↓px_p1, ↓px_p2, ↓px_p3, ↓px_pop, px_k_0, px_k_s, px_k3_0, px_stk_, px_cats, px_ent, px_st1, px_st2, px_mask, ↓px_tsw, ↓px_lsw, ct_, mls_0, mls_1, mls_2, mls_3, mls_4, mls_5, kd_0, kd_1, kd_2, kd_3, ln_0, ln_1, ln_2, ln_3, gf_0, gf_1, gf_2, gf_3, gf_4, gf_7, gf_21, gf_63, dy_0, dy_1, dy_2, dy_3, dy_7, dy_21, px_brT, px_brF, true_and, and_true, and_false, false_and, and_self, true_implies, false_implies, or_true, true_or, or_false, false_or, eq_self, ne_eq, not_false_eq_true, not_true_eq_false, if_true, if_false, List.mem_cons, List.not_mem_nil, List.length_cons, List.length_nil, Nat.reduceEqDiff, Nat.reduceAdd, Nat.reduceSub, Nat.reduceLeDiff, Nat.reduceLT, Int.reduceEq, Int.reduceLT, Int.reduceLE, Int.reduceNeg, Int.reduceAdd, Int.reduceSub, Int.reduceToNat, ↓reduceIte, one_ne_zero_, zero_ne_one_, px_in32L, cd_249, cd_204]
  repeat' (first | (with_reducible apply And.intro) | (with_reducible refine px_br_intro (fun _ => ?_) (fun _ => ?_)))
  all_goals (try (first | (unfold px_in32; omega) | omega))
  · rename_i c1
    have ek : i.toNat = K := by omega
    rw [ek] at hT hnum h1 h2 ⊢
    exact h M pl nm hT hnum h1 h2 hlo hfr
  · rename_i c1 c2
    rw [esl (by omega)] at c2
    obtain ⟨d, hd, hn⟩ := hch i.toNat (by omega)
    rcases hd with ⟨z1, z2, z3, z4⟩ | ⟨z1, z2, z3⟩
    · have := ih (by omega) M pl nm (by omega) (by rw [e1, z2]; exact hT) (by rw [e1, z2]; exact hnum) (by rw [e1, z2]; exact h1) (by rw [e1, z2]; exact h2) (by rw [e1, z2, z3]; omega) (by rw [e1, z3]; omega) (by rw [e1, hn, z4]; omega) hlo hfr
      rw [e1, hn, z4, z3, Int.add_zero] at this
      exact this
    · omega
  · rename_i c1 c2
    rw [esl (by omega)] at c2
    have hps : 0 ≤ ps i.toNat ∧ ps i.toNat < Ms i.toNat 20 1 := by omega
    have h01 := (hT.2.1.2 (ps i.toNat) hps.1 hps.2).2.2.2.2.1
    obtain ⟨d, hd, hn⟩ := hch i.toNat (by omega)
    rcases hd with ⟨z1, z2, z3, z4⟩ | ⟨z1, z2, z3⟩
    · omega
    · have hdd := drp_d z2
      refine sp_goesAway hT hnum hps z2 h1 h2 (fun M1 a1 a2 a3 a4 a5 => ?_)
      simp only [px_go, px_Q0_at, px_sx_0, px_sx_s, px_cl, px_step, ↓px_ll, px_lg, f4_, ↓px_r1, ↓px_r2, ↓px_r4, ↓px_r5, ↓px_p1, ↓px_p2, ↓px_p3, ↓px_pop, px_k_0, px_k_s, px_k3_0, px_stk_, px_cats, px_ent, px_st1, px_st2, px_mask, ↓px_tsw, ↓px_lsw, ct_, mls_0, mls_1, mls_2, mls_3, mls_4, mls_5, kd_0, kd_1, kd_2, kd_3, ln_0, ln_1, ln_2, ln_3, gf_0, gf_1, gf_2, gf_3, gf_4, gf_7, gf_21, gf_63, dy_0, dy_1, dy_2, dy_3, dy_7, dy_21, px_brT, px_brF, true_and, and_true, and_false, false_and, and_self, true_implies, false_implies, or_true, true_or, or_false, false_or, eq_self, ne_eq, not_false_eq_true, not_true_eq_false, if_true, if_false, List.mem_cons, List.not_mem_nil, List.length_cons, List.length_nil, Nat.reduceEqDiff, Nat.reduceAdd, Nat.reduceSub, Nat.reduceLeDiff, Nat.reduceLT, Int.reduceEq, Int.reduceLT, Int.reduceLE, Int.reduceNeg, Int.reduceAdd, Int.reduceSub, Int.reduceToNat, ↓reduceIte, one_ne_zero_, zero_ne_one_, px_in32L, cd_249, cd_204]
      repeat' (first | (with_reducible apply And.intro) | (with_reducible refine px_br_intro (fun _ => ?_) (fun _ => ?_)))
      all_goals (try (first | (unfold px_in32; omega) | omega))
      have hinv := drp_inv z2 hT.2.1 hnum hT.1.1 hps
      have hsz2 := z2.2.1
      have := ih (by omega) M1 _ _ (by omega) (by rw [e1]; exact a1) (by rw [e1]; exact hinv.2.1) (by rw [e1]; exact a2) (by rw [e1]; exact a3) (by rw [e1, z3]; omega) (by rw [e1, z3]; omega) (by rw [e1, hn]; omega) (fun x x0 x1 x2 x3 => by rw [a4 x x0 x1 x2 x3, hlo x x0 x1 x2 x3]) (fun b b0 => by rw [a5 b b0, hfr b b0])
      rw [e1, hn, z3] at this
      exact this
set_option maxHeartbeats 600000 in
set_option maxRecDepth 100000 in
theorem sp_rthin {Mc : px_mem} {latest : Int} {pl : Int → Int → List Int} {nm : Int → List Int} (hT : TE Mc pl nm (M 128)) (hnum : numI Mc) (h1 : M 128 1 = Mc 4 4) (h2 : M 128 2 = Mc 4 5) (h0 : ¬ (0 ≤ latest ∧ latest ≤ 10) → Q (some (0, -1)) M) (h : (0 ≤ latest ∧ latest ≤ 10) → ∃ Mc' p n, thtr Mc (Mc 20 1 - latest).toNat Mc' p n ∧ ∀ M' pl nm, TE Mc' pl nm (M' 128) → numI Mc' → M' 128 1 = Mc' 4 4 → M' 128 2 = Mc' 4 5 → (∀ x, x < 654 → x ≠ 1 → x ≠ 2 → x ≠ 5 → M' 128 x = M 128 x) → (∀ b, b ≠ 128 → M' b = M b) → Q (some (0, n)) M') : px_Ok 249 [(2, 127), (0, latest)] LAY M Q := by
  have hTn := TE_n hT
  have h5 := hTn.1
  refine px_ok_go (inl := [170]) (ls0 := [(2, 127), (0, latest), (9, 0), (9, 0), (9, 0), (9, 0)]) 60 (by decide) (Nat.le_of_ble_eq_true rfl) rfl ?_
  simp only [px_go, px_Q0_at, px_sx_0, px_sx_s, px_cl, px_step, ↓px_ll, px_lg, f4_, ↓px_r1, ↓px_r2, ↓px_r4, ↓px_r5, ↓px_p1, ↓px_p2, ↓px_p3, ↓px_pop, px_k_0, px_k_s, px_k3_0, px_stk_, px_cats, px_ent, px_st1, px_st2, px_mask, ↓px_tsw, ↓px_lsw, ct_, mls_0, mls_1, mls_2, mls_3, mls_4, mls_5, kd_0, kd_1, kd_2, kd_3, ln_0, ln_1, ln_2, ln_3, gf_0, gf_1, gf_2, gf_3, gf_4, gf_7, gf_21, gf_63, dy_0, dy_1, dy_2, dy_3, dy_7, dy_21, px_brT, px_brF, true_and, and_true, and_false, false_and, and_self, true_implies, false_implies, or_true, true_or, or_false, false_or, eq_self, ne_eq, not_false_eq_true, not_true_eq_false, if_true, if_false, List.mem_cons, List.not_mem_nil, List.length_cons, List.length_nil, Nat.reduceEqDiff, Nat.reduceAdd, Nat.reduceSub, Nat.reduceLeDiff, Nat.reduceLT, Int.reduceEq, Int.reduceLT, Int.reduceLE, Int.reduceNeg, Int.reduceAdd, Int.reduceSub, Int.reduceToNat, ↓reduceIte, one_ne_zero_, zero_ne_one_, px_in32L, cd_249, cd_170, h5]
  repeat' (first | (with_reducible apply And.intro) | (with_reducible refine px_br_intro (fun _ => ?_) (fun _ => ?_)))
  all_goals (try (first | (unfold px_in32; omega) | omega))
  · rename_i c1
    exact h0 (fun z => by omega)
  · rename_i c1 c2
    exact h0 (fun z => by omega)
  · rename_i c1 c2
    obtain ⟨Mc', p, n, ht, hx⟩ := h ⟨by omega, by omega⟩
    obtain ⟨Ms, ps, ns, m0, p0, n0, m1, p1, n1, hch⟩ := thtr_chain _ _ _ _ ht
    by_cases q : 0 ≤ Mc 20 1 - latest
    · have := lp_rthin (M0 := M) (Q := Q) (Ms := Ms) (ps := ps) (ns := ns) (K := (Mc 20 1 - latest).toNat) (n0 := Mc 20 1) (by omega) (by omega) hch (fun M' pl nm t1 t2 t3 t4 t5 t6 => by
        rw [m1] at t1 t2 t3 t4
        rw [n1]
        exact hx M' pl nm t1 t2 t3 t4 t5 t6) 0 (by omega) M pl nm (Int.le_refl 0) (by show TE (Ms 0) pl nm _; rw [m0]; exact hT) (by show numI (Ms 0); rw [m0]; exact hnum) (by show _ = Ms 0 4 4; rw [m0]; exact h1) (by show _ = Ms 0 4 5; rw [m0]; exact h2) (by show Ms 0 20 1 = _ - 0 + ps 0; rw [m0, p0]; omega) (by show 0 ≤ ps 0 ∧ ps 0 ≤ 0; rw [p0]; decide) (by show 0 ≤ ns 0 ∧ ns 0 ≤ 40 * 0; rw [n0]; decide) (fun _ _ _ _ _ => rfl) (fun _ _ => rfl)
      have e0 : (0 : Int).toNat = 0 := rfl
      rw [e0, n0, p0, Int.toNat_of_nonneg q] at this
      exact this
    · refine px_go_ok (inl := [204]) 60 ?_
      simp only [px_go, px_Q0_at, px_sx_0, px_sx_s, px_cl, px_step, ↓px_ll, px_lg, f4_, ↓px_r1, ↓px_r2, ↓px_r4, ↓px_r5, ↓px_p1, ↓px_p2, ↓px_p3, ↓px_pop, px_k_0, px_k_s, px_k3_0, px_stk_, px_cats, px_ent, px_st1, px_st2, px_mask, ↓px_tsw, ↓px_lsw, ct_, mls_0, mls_1, mls_2, mls_3, mls_4, mls_5, kd_0, kd_1, kd_2, kd_3, ln_0, ln_1, ln_2, ln_3, gf_0, gf_1, gf_2, gf_3, gf_4, gf_7, gf_21, gf_63, dy_0, dy_1, dy_2, dy_3, dy_7, dy_21, px_brT, px_brF, true_and, and_true, and_false, false_and, and_self, true_implies, false_implies, or_true, true_or, or_false, false_or, eq_self, ne_eq, not_false_eq_true, not_true_eq_false, if_true, if_false, List.mem_cons, List.not_mem_nil, List.length_cons, List.length_nil, Nat.reduceEqDiff, Nat.reduceAdd, Nat.reduceSub, Nat.reduceLeDiff, Nat.reduceLT, Int.reduceEq, Int.reduceLT, Int.reduceLE, Int.reduceNeg, Int.reduceAdd, Int.reduceSub, Int.reduceToNat, ↓reduceIte, one_ne_zero_, zero_ne_one_, px_in32L, cd_249, cd_204, cd_170]
      refine px_br_intro (fun _ => ?_) (fun c => by omega)
      have hz : (Mc 20 1 - latest).toNat = 0 := by omega
      rw [hz] at m1 n1
      rw [m0] at m1
      rw [n0] at n1
      have := hx M pl nm (by rw [← m1]; exact hT) (by rw [← m1]; exact hnum) (by rw [← m1]; exact h1) (by rw [← m1]; exact h2) (fun _ _ _ _ _ => rfl) (fun _ _ => rfl)
      rw [← n1] at this
      exact this
end PS
