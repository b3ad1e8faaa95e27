set_option maxRecDepth 100000 in
/-- X11_dropFound -/
theorem cd_126 : px_at 126 0 = some (1, [], .aload_n 1, []) ∧ px_at 126 1 = some (4, [], .getfield 225, [2, 3, 0, 0, 35]) ∧ px_at 126 4 = some (5, [], .istore_n 2, []) ∧ px_at 126 5 = some (6, [], .aload_n 1, []) ∧ px_at 126 6 = some (9, [], .getfield 228, [2, 4, 0, 0, 38]) ∧ px_at 126 9 = some (10, [], .istore_n 3, []) ∧ px_at 126 10 = some (11, [], .aload_n 0, []) ∧ px_at 126 11 = some (14, [], .getfield 26, [10, 2, 2, 1, 116]) ∧ px_at 126 14 = some (15, [], .iload_n 2, []) ∧ px_at 126 15 = some (16, [], .iload_n 3, []) ∧ px_at 126 16 = some (19, [], .invokevirtual 229, [50, 2, 3, 109]) ∧ px_at 126 19 = some (20, [], .aload_n 0, []) ∧ px_at 126 20 = some (23, [], .getfield 19, [10, 1, 2, 1, 115]) ∧ px_at 126 23 = some (26, [], .getfield 156, [7, 4, 0, 0, 16]) ∧ px_at 126 26 = some (27, [], .iload_n 2, []) ∧ px_at 126 27 = some (30, [], .if_icmp .ne 11, [38]) ∧ px_at 126 30 = some (31, [], .aload_n 0, []) ∧ px_at 126 31 = some (34, [], .getfield 19, [10, 1, 2, 1, 115]) ∧ px_at 126 34 = some (35, [], .iload_n 3, []) ∧ px_at 126 35 = some (38, [], .putfield 156, [7, 4, 0, 0, 16]) ∧ px_at 126 38 = some (39, [], .aload_n 0, []) ∧ px_at 126 39 = some (42, [], .getfield 19, [10, 1, 2, 1, 115]) ∧ px_at 126 42 = some (45, [], .getfield 159, [7, 5, 0, 0, 19]) ∧ px_at 126 45 = some (46, [], .iload_n 2, []) ∧ px_at 126 46 = some (49, [], .if_icmp .ne 11, [57]) ∧ px_at 126 49 = some (50, [], .aload_n 0, []) ∧ px_at 126 50 = some (53, [], .getfield 19, [10, 1, 2, 1, 115]) ∧ px_at 126 53 = some (54, [], .iload_n 3, []) ∧ px_at 126 54 = some (57, [], .putfield 159, [7, 5, 0, 0, 19]) ∧ px_at 126 57 = some (58, [], .aload_n 0, []) ∧ px_at 126 58 = some (61, [], .getfield 49, [10, 5, 2, 1, 119]) ∧ px_at 126 61 = some (62, [], .aload_n 0, []) ∧ px_at 126 62 = some (65, [], .getfield 26, [10, 2, 2, 1, 116]) ∧ px_at 126 65 = some (66, [], .aload_n 0, []) ∧ px_at 126 66 = some (69, [], .getfield 42, [10, 4, 2, 1, 118]) ∧ px_at 126 69 = some (72, [], .invokevirtual 233, [109, 2, 9, 110]) ∧ px_at 126 72 = some (73, [], .aload_n 0, []) ∧ px_at 126 73 = some (76, [], .getfield 42, [10, 4, 2, 1, 118]) ∧ px_at 126 76 = some (77, [], .aload_n 0, []) ∧ px_at 126 77 = some (80, [], .getfield 49, [10, 5, 2, 1, 119]) ∧ px_at 126 80 = some (83, [], .getfield 237, [9, 3, 2, 1, 96]) ∧ px_at 126 83 = some (86, [], .invokevirtual 239, [23, 1, 1, 113]) ∧ px_at 126 86 = some (87, [], .ireturn, [0]) := ⟨rfl, rfl, rfl, rfl, rfl, rfl, rfl, rfl, rfl, rfl, rfl, rfl, rfl, rfl, rfl, rfl, rfl, rfl, rfl, rfl, rfl, rfl, rfl, rfl, rfl, rfl, rfl, rfl, rfl, rfl, rfl, rfl, rfl, rfl, rfl, rfl, rfl, rfl, rfl, rfl, rfl, rfl, rfl⟩
/-! EditionVault: drop and thin -/
/-- nothing hangs on it -/
def ntC (dd bs : Int → Int) (N : Int) (nf : Int → Int) (cf : Int → Int → Int) (c : Int) : Prop := ∀ i, 0 ≤ i → ¬ fullS dd bs (fun c => i < N ∧ lsE nf cf i c) 3 c
theorem ntC_base {dd bs : Int → Int} {N : Int} {nf : Int → Int} {cf : Int → Int → Int} {c : Int} (h : dpt dd bs) (c0 : 0 ≤ c) (c1 : c < 40) (c2 : 0 ≤ dd c) (hb : 0 ≤ bs c) (hn : ¬ ntC dd bs N nf cf c) : ¬ ntC dd bs N nf cf (bs c) := by
  intro z
  refine hn (fun i i0 q => z i i0 ?_)
  rw [fullS_eq h hb]
  exact Or.inr ⟨c, c0, c1, c2, rfl, q⟩
theorem ntC_listed {dd bs : Int → Int} {N : Int} {nf : Int → Int} {cf : Int → Int → Int} {i c : Int} (h : dpt dd bs) (c0 : 0 ≤ c) (i0 : 0 ≤ i) (i1 : i < N) (hl : lsE nf cf i c) : ¬ ntC dd bs N nf cf c := by
  intro z
  refine z i i0 ?_
  rw [fullS_eq h c0]
  exact Or.inl ⟨i1, hl⟩
theorem ci_gone {M M' : px_mem} {p : Int → Prop} (hci : ci M) (hg : gone M M' p 40) (hf : ∀ b, 53 ≤ b → b < 106 → b ≠ 54 → b ≠ 55 → b ≠ 62 → M' b = M b) (hb : ∀ c, 0 ≤ c → c < 40 → 0 ≤ M 62 c → ¬ p c → 0 ≤ M 61 c → ¬ p (M 61 c)) : ci M' := by
  obtain ⟨i1, i2, i3, i4, i5⟩ := hci
  obtain ⟨g1, g2⟩ := hg
  have f : ∀ b, 57 ≤ b → b ≤ 61 → M' b = M b := fun b b0 b1 => hf b (by omega) (by omega) (by omega) (by omega) (by omega)
  have hu : ∀ c, 0 ≤ c → c < 40 → 0 ≤ M' 62 c → 0 ≤ M 62 c ∧ ¬ p c ∧ M' 62 c = M 62 c := fun c c0 c1 c2 => by
    have g := g1 c
    by_cases q : 0 ≤ M 62 c ∧ p c
    · have := g.1 ⟨c0, c1, q⟩; omega
    · have e := g.2 (fun z => q z.2.2)
      rw [e] at c2
      exact ⟨c2, fun z => q ⟨c2, z⟩, e⟩
  refine ⟨fun c c0 c1 c2 => ?_, ?_, ⟨fun c c0 c1 c2 x x0 x1 => ?_, fun x x0 x1 => ?_⟩, fun c c0 c1 => ?_, fun c c0 c1 c2 => ?_⟩
  · obtain ⟨u1, u2, u3⟩ := hu c c0 c1 c2
    have hk := cokC (i1 c c0 c1 u1)
    show _ ≤ 3 ∧ 0 ≤ M' 57 c ∧ M' 57 c ≤ 40 ∧ 0 ≤ M' 58 c ∧ M' 58 c < 65521 ∧ 0 ≤ M' 59 c ∧ 0 ≤ M' 60 c ∧ M' 60 c ≤ M' 57 c ∧ M' 59 c + M' 60 c ≤ 400 ∧
      ((M' 61 c = -2 ∧ M' 62 c = 0 ∧ M' 60 c = M' 57 c) ∨ (0 ≤ M' 61 c ∧ M' 61 c < 40 ∧ 0 ≤ M' 62 (M' 61 c) ∧ M' 62 c = M' 62 (M' 61 c) + 1))
    rw [f 57 (by decide) (by decide), f 58 (by decide) (by decide), f 59 (by decide) (by decide), f 60 (by decide) (by decide), f 61 (by decide) (by decide), u3]
    have hbb := hb c c0 c1 u1 u2
    have e2 : 0 ≤ M 61 c → M' 62 (M 61 c) = M 62 (M 61 c) := fun q => (g1 (M 61 c)).2 (fun z => hbb q z.2.2.2)
    omega
  · rw [hf 53 (by decide) (by decide) (by decide) (by decide) (by decide)]; exact i2
  · obtain ⟨u1, u2, u3⟩ := hu c c0 c1 c2
    have hk := cokC (i1 c c0 c1 u1)
    rw [f 59 (by decide) (by decide)] at x0 x1
    rw [f 60 (by decide) (by decide)] at x1
    have o := i3.1 c c0 c1 u1 x x0 x1
    rw [(g2 x (by omega) (by omega)).2 (fun z => u2 (by rw [o] at z; exact z.2.2))]
    exact o
  · have o := i3.2 x x0 x1
    have g := g2 x x0 x1
    by_cases q : 0 ≤ M 54 x ∧ M 54 x < 40 ∧ p (M 54 x)
    · exact Or.inl (g.1 q)
    · rw [g.2 q]
      rcases o with o | o
      · exact Or.inl o
      · right
        rw [f 59 (by decide) (by decide), f 60 (by decide) (by decide), (g1 (M 54 x)).2 (fun z => q ⟨z.1, z.2.1, z.2.2.2⟩)]
        exact o
  · have g := g1 c
    by_cases q : 0 ≤ M 62 c ∧ p c
    · rw [g.1 ⟨c0, c1, q⟩]; exact Int.le_refl _
    · rw [g.2 (fun z => q z.2.2)]; exact i4 c c0 c1
  · obtain ⟨u1, u2, u3⟩ := hu c c0 c1 c2
    exact gd_keep (i5 c c0 c1 u1) f (hf 53 (by decide) (by decide) (by decide) (by decide) (by decide)) (hf _ (by omega) (by omega) (by omega) (by omega) (by omega)) (by rw [hf 104 (by decide) (by decide) (by decide) (by decide) (by decide)]) (by rw [hf 105 (by decide) (by decide) (by decide) (by decide) (by decide)])
def shp {α : Type} (f : Int → α) (p : Int) : Int → α := fun i => if i < p then f i else f (i + 1)
/-- an edition has gone, with all that hung on it alone; d contents -/
def drpC (M M' : px_mem) (p d : Int) : Prop :=
  (∀ i, 0 ≤ i → i < 10 → M' 21 i = shf (M 21) p (M 20 1) i) ∧ M' 20 1 = M 20 1 - 1 ∧ (∀ j, j ≠ 1 → M' 20 j = M 20 j) ∧
  (∀ i, 0 ≤ i → i < M 20 1 - 1 → M' (M' 21 i) 4 = rlk (M (M 21 p) 3) (M (M 21 p) 4) (M (M' 21 i) 4)) ∧
  (∀ i, 0 ≤ i → i < M 20 1 - 1 → M' (M' 21 i) 5 = rlk (M (M 21 p) 3) (M (M 21 p) 4) (M (M' 21 i) 5)) ∧
  M' 4 4 = rlk (M (M 21 p) 3) (M (M 21 p) 4) (M 4 4) ∧ M' 4 5 = rlk (M (M 21 p) 3) (M (M 21 p) 4) (M 4 5) ∧ (∀ j, j ≠ 4 → j ≠ 5 → M' 4 j = M 4 j) ∧
  gone M M' (ntC (M 62) (M 61) (M' 20 1) (nfC M') (cfC M')) 40 ∧ d = sm 40 (fun c => b1 (0 ≤ M 62 c ∧ ntC (M 62) (M 61) (M' 20 1) (nfC M') (cfC M') c)) ∧ ci M' ∧
  (∀ b j, b ≠ 4 → b ≠ 20 → b ≠ 21 → b ≠ 54 → b ≠ 62 → ¬ (111 ≤ b ∧ b ≤ 114) → (j ≠ 4 ∧ j ≠ 5) ∨ ¬ (isE b ∧ b < 52) → M' b j = M b j)
theorem shf_lo {f : Int → Int} {p n i : Int} (hi : i < n - 1) (hp : p < n) : shf f p n i = shp f p i := by
  unfold shf shp
  by_cases e : i < p
  · rw [if_pos e, if_pos e]
  · rw [if_neg e, if_neg e, if_pos hi]
theorem empty_in {s : Int} (h : 0 ≤ s) : s = 0 ↔ ∀ i, 0 ≤ i → ¬ inS s i := by
  constructor
  · rintro rfl i _; exact zero_in i
  · intro q; exact inS_ext h (Int.le_refl 0) (fun i i0 => ⟨fun z => absurd z (q i i0), fun z => absurd z (zero_in i)⟩)
section PS
variable {M : px_mem} {Q : Option pv → px_mem → Prop}
set_option maxHeartbeats 600000 in
set_option maxRecDepth 100000 in
theorem sp_dropFound {p : Int} {pl : Int → Int → List Int} {nm : Int → List Int} (hed : edA M pl nm) (hnum : numI M) (hci : ci M) (hp : 0 ≤ p ∧ p < M 20 1) (h : ∀ M' d, drpC M M' p d → Q (some (0, d)) M') : px_Ok 126 [(2, 1), (2, M 21 p)] LAY M Q := by
  have hw := hed.1
  have hn := hw.2.2
  have hE := hw.1 p hp.1 (by omega)
  have hel := isE_lay hE.1
  have heg := isE_gf hE.1
  have hsl := slot_num hnum hp.1 hp.2
  refine px_ok_go (inl := []) (ls0 := [(2, 1), (2, M 21 p), (9, 0), (9, 0)]) 60 (by decide) (Nat.le_of_ble_eq_true rfl) rfl ?_
  simp only [px_go, px_Q0_at, px_sx_0, px_sx_s, px_cl, px_step, ↓px_ll, px_lg, f4_, ↓px_r1, ↓px_r2, ↓px_r4, ↓px_r5, ↓px_p1, ↓px_p2, ↓px_p3, ↓px_pop, px_k_0, px_k_s, px_k3_0, px_stk_, px_cats, px_ent, px_st1, px_st2, px_mask, ↓px_tsw, ↓px_lsw, ct_, mls_0, mls_1, mls_2, mls_3, mls_4, mls_5, kd_0, kd_1, kd_2, kd_3, ln_0, ln_1, ln_2, ln_3, gf_0, gf_1, gf_2, gf_3, gf_4, gf_7, gf_21, gf_63, dy_0, dy_1, dy_2, dy_3, dy_7, dy_21, px_brT, px_brF, true_and, and_true, and_false, false_and, and_self, true_implies, false_implies, or_true, true_or, or_false, false_or, eq_self, ne_eq, not_false_eq_true, not_true_eq_false, if_true, if_false, List.mem_cons, List.not_mem_nil, List.length_cons, List.length_nil, Nat.reduceEqDiff, Nat.reduceAdd, Nat.reduceSub, Nat.reduceLeDiff, Nat.reduceLT, Int.reduceEq, Int.reduceLT, Int.reduceLE, Int.reduceNeg, Int.reduceAdd, Int.reduceSub, Int.reduceToNat, ↓reduceIte, one_ne_zero_, zero_ne_one_, px_in32L, cd_126, hel, heg]
  repeat' (first | (with_reducible apply And.intro) | (with_reducible refine px_br_intro (fun _ => ?_) (fun _ => ?_)))
  all_goals (try (first | (unfold px_in32; omega) | omega))
  refine sp_take hw hsl hp.1 (fun M1 a1 a2 a3 a4 a5 a6 => ?_)
  have hfe : ∀ b j, b ≠ 20 → b ≠ 21 → ¬ isE b → M1 b j = M b j := fun b j b0 b1 b2 => a6 b j b0 b1 (Or.inr (fun z => b2 z.1))
  have nE : ∀ b : Int, b % 3 ≠ 1 ∨ b < 22 ∨ 118 < b ∨ (52 ≤ b ∧ b < 118) → ¬ isE b := fun b hb z => by have := isE_m z; omega
  have hrow : ∀ b, b ≠ 20 → b ≠ 21 → ¬ isE b → M1 b = M b := fun b b0 b1 b2 => funext (fun j => hfe b j b0 b1 b2)
  have g4 := hrow 4 (by decide) (by decide) (nE 4 (by decide))
  generalize hnu : M (M 21 p) 3 = num at *
  generalize hhe : M (M 21 p) 4 = heir at *
  -- what follows, for the memory with the stage's two numbers set anew
  have key : ∀ M2 : px_mem, (∀ b, b ≠ 4 → M2 b = M1 b) → (∀ j, j ≠ 4 → j ≠ 5 → M2 4 j = M1 4 j) → M2 4 4 = rlk num heir (M 4 4) → M2 4 5 = rlk num heir (M 4 5) → px_Ok 109 [(2, 110), (2, 20), (2, 56)] LAY M2 (fun r M3 => r = none ∧ px_Ok 23 [(2, 56), (2, 114)] LAY M3 (fun r M4 => ∃ d, r = some (0, d) ∧ Q (some (0, d)) M4)) := fun M2 f1 f2 f3 f4 => by
    have hw2 : edW M2 := by
      have := shf_edW hw hp.1 hp.2 a2 a1
      unfold edW; rw [f1 20 (by decide), f1 21 (by decide)]; exact this
    have hc2 : ∀ b, 53 ≤ b → b < 106 → M2 b = M b := fun b b0 b1 => by rw [f1 b (by omega), hrow b (by omega) (by omega) (nE b (by omega))]
    have hci2 : ci M2 := ci_congr (fun b b0 b1 _ => hc2 b b0 b1) hci
    have hs : ∀ i, 0 ≤ i → i < M 20 1 - 1 → M2 21 i = shp (M 21) p i := fun i i0 i1 => by rw [f1 21 (by decide), a1 i i0 (by omega), shf_lo i1 hp.2]
    have hEi : ∀ i, 0 ≤ i → i < M 20 1 → isE (M 21 i) ∧ M 21 i < 52 := fun i i0 i1 => hw.1 i i0 (by omega)
    have hsE : ∀ i, 0 ≤ i → i < M 20 1 - 1 → isE (shp (M 21) p i) ∧ shp (M 21) p i < 52 := fun i i0 i1 => by
      unfold shp
      split
      · exact hEi i i0 (by omega)
      · exact hEi (i + 1) (by omega) (by omega)
    have hnf : ∀ i, 0 ≤ i → i < M 20 1 - 1 → nfC M2 i = shp (nfC M) p i ∧ ∀ j, cfC M2 i j = shp (cfC M) p i j := fun i i0 i1 => by
      have he := hsE i i0 i1
      have hm := isE_m he.1
      have e1 : nfC M2 i = M (shp (M 21) p i) 2 := by
        unfold nfC
        rw [hs i i0 i1, f1 _ (by omega)]
        exact a6 _ 2 (by omega) (by omega) (Or.inl (by decide))
      have e2 : ∀ j, cfC M2 i j = M (shp (M 21) p i + 2) j := fun j => by
        unfold cfC
        rw [hs i i0 i1, f1 _ (by omega)]
        exact hfe _ j (by omega) (by omega) (nE _ (by omega))
      refine ⟨by rw [e1]; unfold shp nfC; split <;> rfl, fun j => by rw [e2 j]; unfold shp cfC; split <;> rfl⟩
    have h20 : M2 20 1 = M 20 1 - 1 := by rw [f1 20 (by decide)]; exact a2
    have hla := edA_lsA hed
    have hls2 : lsA M2 := fun i i0 i1 => by
      rw [h20] at i1
      have e := hnf i i0 i1
      rw [e.1]
      unfold shp
      split
      · refine ⟨(hla i i0 (by omega)).1, (hla i i0 (by omega)).2.1, fun j j0 j1 => ?_⟩
        rw [e.2 j]; unfold shp; rw [if_pos (by assumption)]; exact (hla i i0 (by omega)).2.2 j j0 j1
      · refine ⟨(hla (i + 1) (by omega) (by omega)).1, (hla (i + 1) (by omega) (by omega)).2.1, fun j j0 j1 => ?_⟩
        rw [e.2 j]; unfold shp; rw [if_neg (by assumption)]; exact (hla (i + 1) (by omega) (by omega)).2.2 j j0 j1
    refine sp_tally hw2 hls2 hci2 (fun M3 ht => ⟨rfl, ?_⟩)
    obtain ⟨t1, t2, t3, t4, t5⟩ := ht
    have hc3 : ∀ b, 53 ≤ b → b < 106 → M3 b = M b := fun b b0 b1 => by rw [t5 b (by omega), hc2 b b0 b1]
    have hci3 : ci M3 := ci_congr (fun b b0 b1 _ => hc3 b b0 b1) hci
    have hp3 : ∀ c, 0 ≤ c → c < 40 → 0 ≤ M3 62 c → 0 ≤ M3 59 c ∧ 0 ≤ M3 60 c ∧ M3 59 c + M3 60 c ≤ 400 := fun c c0 c1 c2 => by have := cokC (hci3.1 c c0 c1 c2); omega
    refine sp_loseUntied rfl rfl (by decide) hci3.2.2.1 hp3 (fun M4 g1 g2 => ⟨_, rfl, ?_⟩)
    have hnt : ∀ c, 0 ≤ c → c < 40 → (M3 114 c = 0 ↔ ntC (M 62) (M 61) (M2 20 1) (nfC M2) (cfC M2) c) := fun c c0 c1 => by
      have t := t4 c c0 c1
      rw [empty_in t.1.1]
      unfold ntC
      rw [hc2 62 (by decide) (by decide), hc2 61 (by decide) (by decide)] at t
      exact forall_congr' (fun i => forall_congr' (fun i0 => not_congr (t.2 i i0)))
    have e4 : ∀ b, b ≠ 54 → b ≠ 62 → ¬ (111 ≤ b ∧ b ≤ 114) → M4 b = M2 b := fun b b0 b1 b2 => by rw [g2 b b0 b1, t5 b b2]
    have eN : M4 20 1 = M2 20 1 := by rw [e4 20 (by decide) (by decide) (by decide)]
    have enf : ∀ i, 0 ≤ i → i < M2 20 1 → nfC M4 i = nfC M2 i ∧ ∀ j, cfC M4 i j = cfC M2 i j := fun i i0 i1 => by
      have he := hw2.1 i i0 (by have := hw2.2.2; omega)
      have hm := isE_m he.1
      unfold nfC cfC
      rw [e4 21 (by decide) (by decide) (by decide), e4 _ (by omega) (by omega) (by omega)]
      exact ⟨rfl, fun j => by rw [e4 _ (by omega) (by omega) (by omega)]⟩
    have hlsE : ∀ i c, 0 ≤ i → i < M2 20 1 → (lsE (nfC M4) (cfC M4) i c ↔ lsE (nfC M2) (cfC M2) i c) := fun i c i0 i1 => by
      have e := enf i i0 i1
      unfold lsE
      rw [e.1]
      exact exists_congr (fun j => by rw [e.2 j])
    have hntc : ∀ c, ntC (M 62) (M 61) (M4 20 1) (nfC M4) (cfC M4) c ↔ ntC (M 62) (M 61) (M2 20 1) (nfC M2) (cfC M2) c := fun c => by
      unfold ntC
      refine forall_congr' (fun i => forall_congr' (fun i0 => not_congr ?_))
      have : (fun c => i < M4 20 1 ∧ lsE (nfC M4) (cfC M4) i c) = (fun c => i < M2 20 1 ∧ lsE (nfC M2) (cfC M2) i c) := funext (fun c => propext (by
        rw [eN]
        exact and_congr_right (fun q => hlsE i c i0 q)))
      rw [this]
    have g1' : gone M M4 (ntC (M 62) (M 61) (M4 20 1) (nfC M4) (cfC M4)) 40 := by
      unfold gone at g1 ⊢
      rw [hc3 62 (by decide) (by decide), hc3 54 (by decide) (by decide)] at g1
      refine ⟨fun x => ⟨fun z => (g1.1 x).1 ⟨z.1, z.2.1, z.2.2.1, (hnt x z.1 z.2.1).mpr ((hntc x).mp z.2.2.2)⟩, fun z => (g1.1 x).2 (fun w => z ⟨w.1, w.2.1, w.2.2.1, (hntc x).mpr ((hnt x w.1 w.2.1).mp w.2.2.2)⟩)⟩, fun x x0 x1 => ⟨fun z => (g1.2 x x0 x1).1 ⟨z.1, z.2.1, (hnt _ z.1 z.2.1).mpr ((hntc _).mp z.2.2)⟩, fun z => (g1.2 x x0 x1).2 (fun w => z ⟨w.1, w.2.1, (hntc _).mpr ((hnt _ w.1 w.2.1).mp w.2.2)⟩)⟩⟩
    have e21 : ∀ i, M4 21 i = M1 21 i := fun i => by rw [e4 21 (by decide) (by decide) (by decide), f1 21 (by decide)]
    have hee : ∀ i, 0 ≤ i → i < M 20 1 - 1 → M4 (M4 21 i) = M1 (M1 21 i) := fun i i0 i1 => by
      have he := hw2.1 i i0 (by omega)
      rw [f1 21 (by decide)] at he
      have hm := isE_m he.1
      rw [e21 i, e4 _ (by omega) (by omega) (by omega), f1 _ (by omega)]
    refine h M4 _ ⟨fun i i0 i1 => by rw [e21]; exact a1 i i0 i1, by rw [eN, h20], fun j j0 => by rw [e4 20 (by decide) (by decide) (by decide), f1 20 (by decide)]; exact a3 j j0, fun i i0 i1 => ?_, fun i i0 i1 => ?_, ?_, ?_, fun j j4 j5 => ?_, g1', ?_, ?_, fun b j b0 b1 b2 b3 b4 b5 q => ?_⟩
    · rw [hnu, hhe, hee i i0 i1, a4 i i0 i1, e21 i]
    · rw [hnu, hhe, hee i i0 i1, a5 i i0 i1, e21 i]
    · rw [hnu, hhe, e4 4 (by decide) (by decide) (by decide)]; exact f3
    · rw [hnu, hhe, e4 4 (by decide) (by decide) (by decide)]; exact f4
    · rw [e4 4 (by decide) (by decide) (by decide), f2 j j4 j5, g4]
    · rw [hc3 62 (by decide) (by decide)]
      exact sm_congr (fun c c0 c1 => by
        by_cases q : 0 ≤ M 62 c ∧ M3 114 c = 0
        · rw [b1_t q, b1_t ⟨q.1, (hntc c).mpr ((hnt c c0 c1).mp q.2)⟩]
        · rw [b1_f q, b1_f (fun z => q ⟨z.1, (hnt c c0 c1).mpr ((hntc c).mp z.2)⟩)])
    · exact ci_gone hci g1' (fun b b0 b1 b2 b3 b4 => by rw [e4 b b2 b4 (by omega), hc2 b b0 b1]) (fun c c0 c1 c2 c3 c4 => ntC_base (ci_dpt hci) c0 c1 c2 c4 c3)
    · rw [e4 b b3 b4 b5, f1 b b0]; exact a6 b j b1 b2 q
  have e44 : M1 4 4 = M 4 4 := by rw [g4]
  have e45 : M1 4 5 = M 4 5 := by rw [g4]
  simp only [px_go, px_Q0_at, px_sx_0, px_sx_s, px_cl, px_step, ↓px_ll, px_lg, f4_, ↓px_r1, ↓px_r2, ↓px_r4, ↓px_r5, ↓px_p1, ↓px_p2, ↓px_p3, ↓px_pop, px_k_0, px_k_s, px_k3_0, px_stk_, px_cats, px_ent, px_st1, px_st2, px_mask, ↓px_tsw, ↓px_lsw, ct_, mls_0, mls_1, mls_2, mls_3, mls_4, mls_5, kd_0, kd_1, kd_2, kd_3, ln_0, ln_1, ln_2, ln_3, gf_0, gf_1, gf_2, gf_3, gf_4, gf_7, gf_21, gf_63, dy_0, dy_1, dy_2, dy_3, dy_7, dy_21, px_brT, px_brF, true_and, and_true, and_false, false_and, and_self, true_implies, false_implies, or_true, true_or, or_false, false_or, eq_self, ne_eq, not_false_eq_true, not_true_eq_false, if_true, if_false, List.mem_cons, List.not_mem_nil, List.length_cons, List.length_nil, Nat.reduceEqDiff, Nat.reduceAdd, Nat.reduceSub, Nat.reduceLeDiff, Nat.reduceLT, Int.reduceEq, Int.reduceLT, Int.reduceLE, Int.reduceNeg, Int.reduceAdd, Int.reduceSub, Int.reduceToNat, ↓reduceIte, one_ne_zero_, zero_ne_one_, px_in32L, cd_126, px_up_at, e44, e45]
  repeat' (first | (with_reducible apply And.intro) | (with_reducible refine px_br_intro (fun _ => ?_) (fun _ => ?_)))
  · rename_i c1 c2
    refine (key _ (fun b b0 => by rw [row_ne b0, row_ne b0]) (fun j j4 j5 => by rw [px_up_at, if_neg (fun z => j5 z.2), px_up_at, if_neg (fun z => j4 z.2)]) (by rw [px_up_at, if_neg (by decide), px_up_at, if_pos ⟨rfl, rfl⟩]; unfold rlk; rw [if_pos c1]) (by rw [px_up_at, if_pos ⟨rfl, rfl⟩]; unfold rlk; rw [if_pos c2])).mono (fun r M3 q => ?_)
    obtain ⟨rfl, q⟩ := q
    simp only [px_go, px_Q0_at, px_sx_0, px_sx_s, px_cl, px_step, ↓px_ll, px_lg, f4_, ↓px_r1, ↓px_r2, ↓px_r4, ↓px_r5, ↓px_p1, ↓px_p2, ↓px_p3, ↓px_pop, px_k_0, px_k_s, px_k3_0, px_stk_, px_cats, px_ent, px_st1, px_st2, px_mask, ↓px_tsw, ↓px_lsw, ct_, mls_0, mls_1, mls_2, mls_3, mls_4, mls_5, kd_0, kd_1, kd_2, kd_3, ln_0, ln_1, ln_2, ln_3, gf_0, gf_1, gf_2, gf_3, gf_4, gf_7, gf_21, gf_63, dy_0, dy_1, dy_2, dy_3, dy_7, dy_21, px_brT, px_brF, true_and, and_true, and_false, false_and, and_self, true_implies, false_implies, or_true, true_or, or_false, false_or, eq_self, ne_eq, not_false_eq_true, not_true_eq_false, if_true, if_false, List.mem_cons, List.not_mem_nil, List.length_cons, List.length_nil, Nat.reduceEqDiff, Nat.reduceAdd, Nat.reduceSub, Nat.reduceLeDiff, Nat.reduceLT, Int.reduceEq, Int.reduceLT, Int.reduceLE, Int.reduceNeg, Int.reduceAdd, Int.reduceSub, Int.reduceToNat, ↓reduceIte, one_ne_zero_, zero_ne_one_, px_in32L, cd_126]
    refine q.mono (fun r M4 q => ?_)
    obtain ⟨d, rfl, q⟩ := q
    simp only [px_go, px_Q0_at, px_sx_0, px_sx_s, px_cl, px_step, ↓px_ll, px_lg, f4_, ↓px_r1, ↓px_r2, ↓px_r4, ↓px_r5, ↓px_p1, ↓px_p2, ↓px_p3, ↓px_pop, px_k_0, px_k_s, px_k3_0, px_stk_, px_cats, px_ent, px_st1, px_st2, px_mask, ↓px_tsw, ↓px_lsw, ct_, mls_0, mls_1, mls_2, mls_3, mls_4, mls_5, kd_0, kd_1, kd_2, kd_3, ln_0, ln_1, ln_2, ln_3, gf_0, gf_1, gf_2, gf_3, gf_4, gf_7, gf_21, gf_63, dy_0, dy_1, dy_2, dy_3, dy_7, dy_21, px_brT, px_brF, true_and, and_true, and_false, false_and, and_self, true_implies, false_implies, or_true, true_or, or_false, false_or, eq_self, ne_eq, not_false_eq_true, not_true_eq_false, if_true, if_false, List.mem_cons, List.not_mem_nil, List.length_cons, List.length_nil, Nat.reduceEqDiff, Nat.reduceAdd, Nat.reduceSub, Nat.reduceLeDiff, Nat.reduceLT, Int.reduceEq, Int.reduceLT, Int.reduceLE, Int.reduceNeg, Int.reduceAdd, Int.reduceSub, Int.reduceToNat, ↓reduceIte, one_ne_zero_, zero_ne_one_, px_in32L, cd_126]
    exact q
  · rename_i c1 c2
    refine (key _ (fun b b0 => row_ne b0) (fun j j4 j5 => by rw [px_up_at, if_neg (fun z => j4 z.2)]) (by rw [px_up_at, if_pos ⟨rfl, rfl⟩]; unfold rlk; rw [if_pos c1]) (by rw [px_up_at, if_neg (by decide), e45]; unfold rlk; rw [if_neg c2])).mono (fun r M3 q => ?_)
    obtain ⟨rfl, q⟩ := q
    simp only [px_go, px_Q0_at, px_sx_0, px_sx_s, px_cl, px_step, ↓px_ll, px_lg, f4_, ↓px_r1, ↓px_r2, ↓px_r4, ↓px_r5, ↓px_p1, ↓px_p2, ↓px_p3, ↓px_pop, px_k_0, px_k_s, px_k3_0, px_stk_, px_cats, px_ent, px_st1, px_st2, px_mask, ↓px_tsw, ↓px_lsw, ct_, mls_0, mls_1, mls_2, mls_3, mls_4, mls_5, kd_0, kd_1, kd_2, kd_3, ln_0, ln_1, ln_2, ln_3, gf_0, gf_1, gf_2, gf_3, gf_4, gf_7, gf_21, gf_63, dy_0, dy_1, dy_2, dy_3, dy_7, dy_21, px_brT, px_brF, true_and, and_true, and_false, false_and, and_self, true_implies, false_implies, or_true, true_or, or_false, false_or, eq_self, ne_eq, not_false_eq_true, not_true_eq_false, if_true, if_false, List.mem_cons, List.not_mem_nil, List.length_cons, List.length_nil, Nat.reduceEqDiff, Nat.reduceAdd, Nat.reduceSub, Nat.reduceLeDiff, Nat.reduceLT, Int.reduceEq, Int.reduceLT, Int.reduceLE, Int.reduceNeg, Int.reduceAdd, Int.reduceSub, Int.reduceToNat, ↓reduceIte, one_ne_zero_, zero_ne_one_, px_in32L, cd_126]
    refine q.mono (fun r M4 q => ?_)
    obtain ⟨d, rfl, q⟩ := q
    simp only [px_go, px_Q0_at, px_sx_0, px_sx_s, px_cl, px_step, ↓px_ll, px_lg, f4_, ↓px_r1, ↓px_r2, ↓px_r4, ↓px_r5, ↓px_p1, ↓px_p2, ↓px_p3, ↓px_pop, px_k_0, px_k_s, px_k3_0, px_stk_, px_cats, px_ent, px_st1, px_st2, px_mask, ↓px_tsw, ↓px_lsw, ct_, mls_0, mls_1, mls_2, mls_3, mls_4, mls_5, kd_0, kd_1, kd_2, kd_3, ln_0, ln_1, ln_2, ln_3, gf_0, gf_1, gf_2, gf_3, gf_4, gf_7, gf_21, gf_63, dy_0, dy_1, dy_2, dy_3, dy_7, dy_21, px_brT, px_brF, true_and, and_true, and_false, false_and, and_self, true_implies, false_implies, or_true, true_or, or_false, false_or, eq_self, ne_eq, not_false_eq_true, not_true_eq_false, if_true, if_false, List.mem_cons, List.not_mem_nil, List.length_cons, List.length_nil, Nat.reduceEqDiff, Nat.reduceAdd, Nat.reduceSub, Nat.reduceLeDiff, Nat.reduceLT, Int.reduceEq, Int.reduceLT, Int.reduceLE, Int.reduceNeg, Int.reduceAdd, Int.reduceSub, Int.reduceToNat, ↓reduceIte, one_ne_zero_, zero_ne_one_, px_in32L, cd_126]
    exact q
  · rename_i c1 c2
    refine (key _ (fun b b0 => row_ne b0) (fun j j4 j5 => by rw [px_up_at, if_neg (fun z => j5 z.2)]) (by rw [px_up_at, if_neg (by decide), e44]; unfold rlk; rw [if_neg c1]) (by rw [px_up_at, if_pos ⟨rfl, rfl⟩]; unfold rlk; rw [if_pos c2])).mono (fun r M3 q => ?_)
    obtain ⟨rfl, q⟩ := q
    simp only [px_go, px_Q0_at, px_sx_0, px_sx_s, px_cl, px_step, ↓px_ll, px_lg, f4_, ↓px_r1, ↓px_r2, ↓px_r4, ↓px_r5, ↓px_p1, ↓px_p2, ↓px_p3, ↓px_pop, px_k_0, px_k_s, px_k3_0, px_stk_, px_cats, px_ent, px_st1, px_st2, px_mask, ↓px_tsw, ↓px_lsw, ct_, mls_0, mls_1, mls_2, mls_3, mls_4, mls_5, kd_0, kd_1, kd_2, kd_3, ln_0, ln_1, ln_2, ln_3, gf_0, gf_1, gf_2, gf_3, gf_4, gf_7, gf_21, gf_63, dy_0, dy_1, dy_2, dy_3, dy_7, dy_21, px_brT, px_brF, true_and, and_true, and_false, false_and, and_self, true_implies, false_implies, or_true, true_or, or_false, false_or, eq_self, ne_eq, not_false_eq_true, not_true_eq_false, if_true, if_false, List.mem_cons, List.not_mem_nil, List.length_cons, List.length_nil, Nat.reduceEqDiff, Nat.reduceAdd, Nat.reduceSub, Nat.reduceLeDiff, Nat.reduceLT, Int.reduceEq, Int.reduceLT, Int.reduceLE, Int.reduceNeg, Int.reduceAdd, Int.reduceSub, Int.reduceToNat, ↓reduceIte, one_ne_zero_, zero_ne_one_, px_in32L, cd_126]
    refine q.mono (fun r M4 q => ?_)
    obtain ⟨d, rfl, q⟩ := q
    simp only [px_go, px_Q0_at, px_sx_0, px_sx_s, px_cl, px_step, ↓px_ll, px_lg, f4_, ↓px_r1, ↓px_r2, ↓px_r4, ↓px_r5, ↓px_p1, ↓px_p2, ↓px_p3, ↓px_pop, px_k_0, px_k_s, px_k3_0, px_stk_, px_cats, px_ent, px_st1, px_st2, px_mask, ↓px_tsw, ↓px_lsw, ct_, mls_0, mls_1, mls_2, mls_3, mls_4, mls_5, kd_0, kd_1, kd_2, kd_3, ln_0, ln_1, ln_2, ln_3, gf_0, gf_1, gf_2, gf_3, gf_4, gf_7, gf_21, gf_63, dy_0, dy_1, dy_2, dy_3, dy_7, dy_21, px_brT, px_brF, true_and, and_true, and_false, false_and, and_self, true_implies, false_implies, or_true, true_or, or_false, false_or, eq_self, ne_eq, not_false_eq_true, not_true_eq_false, if_true, if_false, List.mem_cons, List.not_mem_nil, List.length_cons, List.length_nil, Nat.reduceEqDiff, Nat.reduceAdd, Nat.reduceSub, Nat.reduceLeDiff, Nat.reduceLT, Int.reduceEq, Int.reduceLT, Int.reduceLE, Int.reduceNeg, Int.reduceAdd, Int.reduceSub, Int.reduceToNat, ↓reduceIte, one_ne_zero_, zero_ne_one_, px_in32L, cd_126]
    exact q
  · rename_i c1 c2
    refine (key M1 (fun b b0 => rfl) (fun j j4 j5 => rfl) (by rw [e44]; unfold rlk; rw [if_neg c1]) (by rw [e45]; unfold rlk; rw [if_neg c2])).mono (fun r M3 q => ?_)
    obtain ⟨rfl, q⟩ := q
    simp only [px_go, px_Q0_at, px_sx_0, px_sx_s, px_cl, px_step, ↓px_ll, px_lg, f4_, ↓px_r1, ↓px_r2, ↓px_r4, ↓px_r5, ↓px_p1, ↓px_p2, ↓px_p3, ↓px_pop, px_k_0, px_k_s, px_k3_0, px_stk_, px_cats, px_ent, px_st1, px_st2, px_mask, ↓px_tsw, ↓px_lsw, ct_, mls_0, mls_1, mls_2, mls_3, mls_4, mls_5, kd_0, kd_1, kd_2, kd_3, ln_0, ln_1, ln_2, ln_3, gf_0, gf_1, gf_2, gf_3, gf_4, gf_7, gf_21, gf_63, dy_0, dy_1, dy_2, dy_3, dy_7, dy_21, px_brT, px_brF, true_and, and_true, and_false, false_and, and_self, true_implies, false_implies, or_true, true_or, or_false, false_or, eq_self, ne_eq, not_false_eq_true, not_true_eq_false, if_true, if_false, List.mem_cons, List.not_mem_nil, List.length_cons, List.length_nil, Nat.reduceEqDiff, Nat.reduceAdd, Nat.reduceSub, Nat.reduceLeDiff, Nat.reduceLT, Int.reduceEq, Int.reduceLT, Int.reduceLE, Int.reduceNeg, Int.reduceAdd, Int.reduceSub, Int.reduceToNat, ↓reduceIte, one_ne_zero_, zero_ne_one_, px_in32L, cd_126]
    refine q.mono (fun r M4 q => ?_)
    obtain ⟨d, rfl, q⟩ := q
    simp only [px_go, px_Q0_at, px_sx_0, px_sx_s, px_cl, px_step, ↓px_ll, px_lg, f4_, ↓px_r1, ↓px_r2, ↓px_r4, ↓px_r5, ↓px_p1, ↓px_p2, ↓px_p3, ↓px_pop, px_k_0, px_k_s, px_k3_0, px_stk_, px_cats, px_ent, px_st1, px_st2, px_mask, ↓px_tsw, ↓px_lsw, ct_, mls_0, mls_1, mls_2, mls_3, mls_4, mls_5, kd_0, kd_1, kd_2, kd_3, ln_0, ln_1, ln_2, ln_3, gf_0, gf_1, gf_2, gf_3, gf_4, gf_7, gf_21, gf_63, dy_0, dy_1, dy_2, dy_3, dy_7, dy_21, px_brT, px_brF, true_and, and_true, and_false, false_and, and_self, true_implies, false_implies, or_true, true_or, or_false, false_or, eq_self, ne_eq, not_false_eq_true, not_true_eq_false, if_true, if_false, List.mem_cons, List.not_mem_nil, List.length_cons, List.length_nil, Nat.reduceEqDiff, Nat.reduceAdd, Nat.reduceSub, Nat.reduceLeDiff, Nat.reduceLT, Int.reduceEq, Int.reduceLT, Int.reduceLE, Int.reduceNeg, Int.reduceAdd, Int.reduceSub, Int.reduceToNat, ↓reduceIte, one_ne_zero_, zero_ne_one_, px_in32L, cd_126]
    exact q
end PS
