set_option maxRecDepth 100000 in
/-- X11_isStageUnchanged -/
theorem cd_121 : px_at 121 0 = some (1, [], .aload_n 0, []) ∧ px_at 121 1 = some (4, [], .getfield 26, [10, 2, 2, 1, 116]) ∧ px_at 121 4 = some (5, [], .aload_n 0, []) ∧ px_at 121 5 = some (8, [], .getfield 19, [10, 1, 2, 1, 115]) ∧ px_at 121 8 = some (11, [], .getfield 156, [7, 4, 0, 0, 16]) ∧ px_at 121 11 = some (14, [], .invokevirtual 162, [47, 1, 3, 61]) ∧ px_at 121 14 = some (15, [], .astore_n 1, []) ∧ px_at 121 15 = some (16, [], .aload_n 1, []) ∧ px_at 121 16 = some (19, [], .ifnull 29, [45]) ∧ px_at 121 19 = some (20, [], .aload_n 0, []) ∧ px_at 121 20 = some (23, [], .getfield 19, [10, 1, 2, 1, 115]) ∧ px_at 121 23 = some (26, [], .getfield 159, [7, 5, 0, 0, 19]) ∧ px_at 121 26 = some (28, [], .bipush (-2), []) ∧ px_at 121 28 = some (31, [], .if_icmp .ne 17, [45]) ∧ px_at 121 31 = some (32, [], .aload_n 1, []) ∧ px_at 121 32 = some (35, [], .getfield 166, [2, 2, 0, 0, 33]) ∧ px_at 121 35 = some (36, [], .aload_n 0, []) ∧ px_at 121 36 = some (39, [], .getfield 19, [10, 1, 2, 1, 115]) ∧ px_at 121 39 = some (42, [], .getfield 129, [7, 3, 0, 0, 13]) ∧ px_at 121 42 = some (45, [], .if_icmp .eq 5, [47]) ∧ px_at 121 45 = some (46, [], .iconst 0, []) ∧ px_at 121 46 = some (47, [], .ireturn, [4]) ∧ px_at 121 47 = some (48, [], .iconst 0, []) ∧ px_at 121 48 = some (49, [], .istore_n 2, []) ∧ px_at 121 49 = some (50, [1, 1, 1, 0], .iload_n 2, []) ∧ px_at 121 50 = some (51, [], .aload_n 0, []) ∧ px_at 121 51 = some (54, [], .getfield 19, [10, 1, 2, 1, 115]) ∧ px_at 121 54 = some (57, [], .getfield 129, [7, 3, 0, 0, 13]) ∧ px_at 121 57 = some (60, [], .if_icmp .ge 78, [135]) ∧ px_at 121 60 = some (61, [], .aload_n 1, []) ∧ px_at 121 61 = some (64, [], .getfield 169, [2, 1, 2, 1, 28]) ∧ px_at 121 64 = some (65, [], .iload_n 2, []) ∧ px_at 121 65 = some (66, [], .iaload, []) ∧ px_at 121 66 = some (67, [], .istore_n 3, []) ∧ px_at 121 67 = some (68, [], .aload_n 1, []) ∧ px_at 121 68 = some (71, [], .getfield 171, [2, 0, 2, 1, 23]) ∧ px_at 121 71 = some (72, [], .iload_n 2, []) ∧ px_at 121 72 = some (73, [], .laload, []) ∧ px_at 121 73 = some (74, [], .aload_n 0, []) ∧ px_at 121 74 = some (77, [], .getfield 19, [10, 1, 2, 1, 115]) ∧ px_at 121 77 = some (80, [], .getfield 175, [7, 0, 2, 1, 6]) ∧ px_at 121 80 = some (81, [], .iload_n 2, []) ∧ px_at 121 81 = some (82, [], .laload, []) ∧ px_at 121 82 = some (83, [], .lcmp, []) ∧ px_at 121 83 = some (86, [], .ifCond .ne 44, [127]) ∧ px_at 121 86 = some (87, [], .aload_n 0, []) ∧ px_at 121 87 = some (90, [], .getfield 42, [10, 4, 2, 1, 118]) ∧ px_at 121 90 = some (93, [], .getfield 176, [1, 8, 2, 1, 84]) ∧ px_at 121 93 = some (94, [], .iload_n 3, []) ∧ px_at 121 94 = some (95, [], .baload, []) ∧ px_at 121 95 = some (98, [], .ifCond .eq 32, [127]) ∧ px_at 121 98 = some (99, [], .aload_n 0, []) ∧ px_at 121 99 = some (102, [], .getfield 42, [10, 4, 2, 1, 118]) ∧ px_at 121 102 = some (103, [], .iload_n 3, []) ∧ px_at 121 103 = some (104, [], .aload_n 0, []) ∧ px_at 121 104 = some (107, [], .getfield 19, [10, 1, 2, 1, 115]) ∧ px_at 121 107 = some (110, [], .getfield 180, [7, 2, 2, 1, 10]) ∧ px_at 121 110 = some (111, [], .iload_n 2, []) ∧ px_at 121 111 = some (112, [], .aaload, []) ∧ px_at 121 112 = some (113, [], .aload_n 0, []) ∧ px_at 121 113 = some (116, [], .getfield 19, [10, 1, 2, 1, 115]) ∧ px_at 121 116 = some (119, [], .getfield 183, [7, 1, 2, 1, 8]) ∧ px_at 121 119 = some (120, [], .iload_n 2, []) ∧ px_at 121 120 = some (121, [], .iaload, []) ∧ px_at 121 121 = some (124, [], .invokevirtual 186, [10, 3, 1, 64]) ∧ px_at 121 124 = some (127, [], .ifCond .ne 5, [129]) ∧ px_at 121 127 = some (128, [], .iconst 0, []) ∧ px_at 121 128 = some (129, [], .ireturn, [4]) ∧ px_at 121 129 = some (132, [], .iinc 2 1, []) ∧ px_at 121 132 = some (135, [], .goto (-83), [49]) ∧ px_at 121 135 = some (136, [], .iconst 1, []) ∧ px_at 121 136 = some (137, [], .ireturn, [4]) := ⟨rfl, rfl, rfl, rfl, rfl, rfl, rfl, rfl, rfl, rfl, rfl, rfl, rfl, rfl, rfl, rfl, rfl, rfl, rfl, rfl, rfl, rfl, rfl, rfl, rfl, rfl, rfl, rfl, rfl, rfl, rfl, rfl, rfl, rfl, rfl, rfl, rfl, rfl, rfl, rfl, rfl, rfl, rfl, rfl, rfl, rfl, rfl, rfl, rfl, rfl, rfl, rfl, rfl, rfl, rfl, rfl, rfl, rfl, rfl, rfl, rfl, rfl, rfl, rfl, rfl, rfl, rfl, rfl, rfl, rfl, rfl, rfl⟩
set_option maxRecDepth 100000 in
/-- X11_keepStage -/
theorem cd_122 : px_at 122 0 = some (1, [], .iconst 0, []) ∧ px_at 122 1 = some (2, [], .istore_n 1, []) ∧ px_at 122 2 = some (3, [1, 1, 0], .iload_n 1, []) ∧ px_at 122 3 = some (4, [], .aload_n 0, []) ∧ px_at 122 4 = some (7, [], .getfield 19, [10, 1, 2, 1, 115]) ∧ px_at 122 7 = some (10, [], .getfield 129, [7, 3, 0, 0, 13]) ∧ px_at 122 10 = some (13, [], .if_icmp .ge 78, [88]) ∧ px_at 122 13 = some (14, [], .aload_n 0, []) ∧ px_at 122 14 = some (17, [], .getfield 42, [10, 4, 2, 1, 118]) ∧ px_at 122 17 = some (18, [], .aload_n 0, []) ∧ px_at 122 18 = some (21, [], .getfield 19, [10, 1, 2, 1, 115]) ∧ px_at 122 21 = some (24, [], .getfield 180, [7, 2, 2, 1, 10]) ∧ px_at 122 24 = some (25, [], .iload_n 1, []) ∧ px_at 122 25 = some (26, [], .aaload, []) ∧ px_at 122 26 = some (27, [], .aload_n 0, []) ∧ px_at 122 27 = some (30, [], .getfield 19, [10, 1, 2, 1, 115]) ∧ px_at 122 30 = some (33, [], .getfield 183, [7, 1, 2, 1, 8]) ∧ px_at 122 33 = some (34, [], .iload_n 1, []) ∧ px_at 122 34 = some (35, [], .iaload, []) ∧ px_at 122 35 = some (38, [], .invokevirtual 190, [11, 2, 1, 69]) ∧ px_at 122 38 = some (39, [], .istore_n 2, []) ∧ px_at 122 39 = some (40, [], .iload_n 2, []) ∧ px_at 122 40 = some (43, [], .ifCond .ge 29, [69]) ∧ px_at 122 43 = some (44, [], .aload_n 0, []) ∧ px_at 122 44 = some (47, [], .getfield 42, [10, 4, 2, 1, 118]) ∧ px_at 122 47 = some (48, [], .aload_n 0, []) ∧ px_at 122 48 = some (51, [], .getfield 19, [10, 1, 2, 1, 115]) ∧ px_at 122 51 = some (54, [], .getfield 180, [7, 2, 2, 1, 10]) ∧ px_at 122 54 = some (55, [], .iload_n 1, []) ∧ px_at 122 55 = some (56, [], .aaload, []) ∧ px_at 122 56 = some (57, [], .aload_n 0, []) ∧ px_at 122 57 = some (60, [], .getfield 19, [10, 1, 2, 1, 115]) ∧ px_at 122 60 = some (63, [], .getfield 183, [7, 1, 2, 1, 8]) ∧ px_at 122 63 = some (64, [], .iload_n 1, []) ∧ px_at 122 64 = some (65, [], .iaload, []) ∧ px_at 122 65 = some (68, [], .invokevirtual 194, [18, 2, 1, 71]) ∧ px_at 122 68 = some (69, [], .istore_n 2, []) ∧ px_at 122 69 = some (70, [], .iload_n 2, []) ∧ px_at 122 70 = some (73, [], .ifCond .ge 5, [75]) ∧ px_at 122 73 = some (74, [], .iconst 0, []) ∧ px_at 122 74 = some (75, [], .ireturn, [4]) ∧ px_at 122 75 = some (76, [], .aload_n 0, []) ∧ px_at 122 76 = some (79, [], .getfield 71, [10, 9, 2, 1, 123]) ∧ px_at 122 79 = some (80, [], .iload_n 1, []) ∧ px_at 122 80 = some (81, [], .iload_n 2, []) ∧ px_at 122 81 = some (82, [], .iastore, []) ∧ px_at 122 82 = some (85, [], .iinc 1 1, []) ∧ px_at 122 85 = some (88, [], .goto (-83), [2]) ∧ px_at 122 88 = some (89, [], .iconst 1, []) ∧ px_at 122 89 = some (90, [], .ireturn, [4]) := ⟨rfl, rfl, rfl, rfl, rfl, rfl, rfl, rfl, rfl, rfl, rfl, rfl, rfl, rfl, rfl, rfl, rfl, rfl, rfl, rfl, rfl, rfl, rfl, rfl, rfl, rfl, rfl, rfl, rfl, rfl, rfl, rfl, rfl, rfl, rfl, rfl, rfl, rfl, rfl, rfl, rfl, rfl, rfl, rfl, rfl, rfl, rfl, rfl, rfl, rfl⟩
/-! EditionVault: commit; bytes as lists -/
theorem lst_inj {f g : Int → Int} {m n : Int} (hm : 0 ≤ m) (hn : 0 ≤ n) : lst f m = lst g n ↔ (m = n ∧ ∀ j, 0 ≤ j → j < n → f j = g j) := by
  constructor
  · intro h
    have hl := congrArg List.length h
    rw [lst_lenN, lst_lenN] at hl
    have e : m = n := by omega
    subst e
    refine ⟨rfl, fun j j0 j1 => ?_⟩
    have h1 := lst_get (f := f) (n := m) (k := j.toNat) (by omega)
    have h2 := lst_get (f := g) (n := m) (k := j.toNat) (by omega)
    rw [h, h2, Int.toNat_of_nonneg j0] at h1
    exact (Option.some.inj h1).symm
  · rintro ⟨rfl, h⟩
    exact lst_congr h
theorem rl_congr {D D' B B' : Int → Int} {n m i f : Int} (hD : ∀ j, 0 ≤ j → j < n → D' j = D j) (hB : ∀ j, 0 ≤ j → j < m → B' j = B j) (i0 : 0 ≤ i) (f0 : 0 ≤ f) : rl D' B' n m i f = rl D B n m i f := by
  unfold rl
  refine fnd_congr (fun t t0 t1 => ?_)
  by_cases c1 : n ≤ i + t
  · exact ⟨fun _ => Or.inl c1, fun _ => Or.inl c1⟩
  · by_cases c2 : m ≤ f + t
    · exact ⟨fun _ => Or.inr (Or.inl c2), fun _ => Or.inr (Or.inl c2)⟩
    · rw [hD _ (by omega) (by omega), hB _ (by omega) (by omega)]
theorem isB_congr {D D' B B' : Int → Int} {n m i k p l : Int} (hD : ∀ j, 0 ≤ j → j < n → D' j = D j) (hB : ∀ j, 0 ≤ j → j < m → B' j = B j) (i0 : 0 ≤ i) (h : isB D' B' n m i k p l) : isB D B n m i k p l := by
  obtain ⟨a, b⟩ := h
  refine ⟨fun f f0 f1 => by rw [← rl_congr hD hB i0 f0]; exact a f f0 f1, ?_⟩
  rcases b with b | ⟨b1, b2, b3, b4, b5⟩
  · exact Or.inl b
  · exact Or.inr ⟨b1, b2, b3, by rw [← rl_congr hD hB i0 b2]; exact b4, fun f f0 f1 => by rw [← rl_congr hD hB i0 f0]; exact b5 f f0 f1⟩
theorem gN_congr {D D' B B' : Int → Int} {n m : Int} (hm : 0 ≤ m) (hD : ∀ j, 0 ≤ j → j < n → D' j = D j) (hB : ∀ j, 0 ≤ j → j < m → B' j = B j) : ∀ (f : Nat) (i : Int) (o c : List Int), 0 ≤ i → gN D' B' n m f i o c = gN D B n m f i o c := by
  intro f
  induction f with
  | zero => intro i o c _; rfl
  | succ f ih =>
    intro i o c i0
    rw [gN_s, gN_s]
    have u := isB_uniq (isB_congr hD hB i0 (bs_spec D' B' n m i hm)) (bs_spec D B n m i hm)
    by_cases c1 : n ≤ i
    · rw [if_pos c1, if_pos c1]
    · rw [if_neg c1, if_neg c1, u.1, u.2]
      by_cases c2 : 3 ≤ bsL D B n m i
      · rw [if_pos c2, if_pos c2, ih _ _ _ (by omega)]
      · rw [if_neg c2, if_neg c2, ih _ _ _ (by omega), hD i i0 (by omega)]
theorem mkp_congr {D D' B B' : Int → Int} {n m : Int} (hm : 0 ≤ m) (hD : ∀ j, 0 ≤ j → j < n → D' j = D j) (hB : ∀ j, 0 ≤ j → j < m → B' j = B j) : mkp D' B' n m = mkp D B n m := gN_congr hm hD hB 41 0 [] [] (Int.le_refl 0)
/-- pieces and marks of lists of bytes -/
noncomputable def pcl (b l : List Int) : List Int := mkp (nth b) (nth l) (b.length : Int) (l.length : Int)
def mkl (b : List Int) : Int := mk (nth b) (b.length : Int)
theorem pcl_lst {f g : Int → Int} {n m : Int} (hn : 0 ≤ n) (hm : 0 ≤ m) : mkp f g n m = pcl (lst f n) (lst g m) := by
  unfold pcl
  rw [lst_len hn, lst_len hm]
  exact (mkp_congr hm (fun j j0 j1 => nth_lst j0 j1) (fun j j0 j1 => nth_lst j0 j1)).symm
theorem mkl_lst {f : Int → Int} {n : Int} (hn : 0 ≤ n) : mk f n = mkl (lst f n) := by
  unfold mkl
  rw [lst_len hn]
  exact mk_congr (fun j j0 j1 => (nth_lst j0 j1).symm)
/-- what is read of a content, in the class -/
def rdC (M : px_mem) (c : Int) : List Int := lst (M (64 + c)) (M 57 c)
def isFb (M : px_mem) (b : List Int) (c : Int) : Prop := 0 ≤ M 62 c ∧ M 105 c ≠ 0 ∧ rdC M c = b
theorem isF_b {M : px_mem} {v n c : Int} (hw : cw (cC M) (M 62)) (c0 : 0 ≤ c) (c1 : c < 40) (hn : 0 ≤ n) : isF M v n c ↔ isFb M (lst (M v) n) c := by
  unfold isF isFb rdC
  constructor
  · rintro ⟨a, b, d, e⟩
    exact ⟨a, b, (lst_inj (by omega) hn).mpr ⟨d, e⟩⟩
  · rintro ⟨a, b, d⟩
    have := cokC (hw c c0 c1 a)
    obtain ⟨d1, d2⟩ := (lst_inj (by omega) hn).mp d
    exact ⟨a, b, d1, d2⟩
def isBl (M : px_mem) (b : List Int) (bb l : Int) : Prop := isBB (fun x => 0 ≤ M 62 x ∧ M 62 x < 3 ∧ M 105 x ≠ 0) (fun x => ((pcl b (rdC M x)).length : Int)) (b.length : Int) 40 bb l
theorem isBest_l {M : px_mem} {v n bb l : Int} (hw : cw (cC M) (M 62)) (hn : 0 ≤ n) (h : isBest M v n 62 40 bb l) : isBl M (lst (M v) n) bb l := by
  unfold isBl
  rw [lst_len hn]
  refine isBB_congr (fun x x0 x1 => Iff.rfl) (fun x x0 x1 hx => ?_) h
  have := cokC (hw x x0 x1 hx.1)
  show ((pcl _ _).length : Int) = ((pcs M v n x).length : Int)
  unfold pcs rdC
  rw [pcl_lst hn (by omega)]
/-- one content kept anew -/
def knew (M M' : px_mem) (b : List Int) (c : Int) : Prop := ∃ bb l p P, fnd 40 (fun c => M 62 c < 0) = c ∧ 0 ≤ c ∧ c < 40 ∧ isBl M b bb l ∧ rmF (fun k => M 54 k < 0) l = p ∧ 0 ≤ p ∧ lst P l = (if bb < 0 then b else pcl b (rdC M bb)) ∧ kept M M' c (b.length : Int) (mkl b) bb l p P ∧ ci M' ∧ (∀ x, 0 ≤ x → x < 40 → x ≠ c → M' (64 + x) = M (64 + x) ∧ M' 104 x = M 104 x ∧ M' 105 x = M 105 x)
def kfail (M : px_mem) (b : List Int) : Prop := fnd 40 (fun c => M 62 c < 0) = -1 ∨ ∃ bb l, isBl M b bb l ∧ rmF (fun k => M 54 k < 0) l = -1
def kfl (M : px_mem) (b : List Int) : Prop := fnd 40 (isFb M b) = -1 ∧ kfail M b
/-- one file of the stage is kept: found, or anew -/
def kst (M M' : px_mem) (b : List Int) (i c : Int) : Prop := M' 126 i = c ∧ (∀ j, j ≠ i → M' 126 j = M 126 j) ∧ 0 ≤ c ∧ c < 40 ∧ ((fnd 40 (isFb M b) = c ∧ ∀ x, x ≠ 126 → M' x = M x) ∨ (fnd 40 (isFb M b) = -1 ∧ knew M M' b c))
def ktr (g : Int → fe) (M : px_mem) : Nat → px_mem → Prop
  | 0, M' => M' = M
  | k + 1, M' => ∃ M2 c, ktr g M k M2 ∧ kst M2 M' (g (k : Int)).2 k c
/-- what stays while contents are kept -/
def kmon (M0 M : px_mem) : Prop :=
  (∀ c, 0 ≤ c → c < 40 → 0 ≤ M0 62 c → M 62 c = M0 62 c ∧ (∀ b, 57 ≤ b → b ≤ 61 → M b c = M0 b c) ∧ M (64 + c) = M0 (64 + c) ∧ M 104 c = M0 104 c ∧ M 105 c = M0 105 c) ∧
  (∀ c, 0 ≤ c → c < 40 → M 62 c < 0 → M 62 c = M0 62 c) ∧
  (∀ x, 0 ≤ x → x < 400 → (0 ≤ M0 54 x → M 54 x = M0 54 x) ∧ (M0 54 x < 0 → M 54 x = M0 54 x ∨ (0 ≤ M 54 x ∧ M 54 x < 40 ∧ M0 62 (M 54 x) < 0))) ∧
  (∀ b, b ≠ 53 → b ≠ 54 → ¬ (57 ≤ b ∧ b ≤ 62) → ¬ (64 ≤ b ∧ b ≤ 107) → b ≠ 126 → M b = M0 b)
theorem kmon_refl (M : px_mem) : kmon M M := ⟨fun _ _ _ _ => ⟨rfl, fun _ _ _ => rfl, rfl, rfl, rfl⟩, fun _ _ _ _ => rfl, fun _ _ _ => ⟨fun _ => rfl, fun _ => Or.inl rfl⟩, fun _ _ _ _ _ _ => rfl⟩
theorem kmon_same {M0 M M' : px_mem} (h : kmon M0 M) (hf : ∀ x, x ≠ 126 → ¬ (106 ≤ x ∧ x ≤ 107) → M' x = M x) : kmon M0 M' := by
  obtain ⟨a, b, c, d⟩ := h
  refine ⟨fun x x0 x1 x2 => ?_, fun x x0 x1 => ?_, fun x x0 x1 => ?_, fun y y0 y1 y2 y3 y4 => by rw [hf y y4 (by omega)]; exact d y y0 y1 y2 y3 y4⟩
  · have := a x x0 x1 x2
    rw [hf 62 (by decide) (by decide), hf (64 + x) (by omega) (by omega), hf 104 (by decide) (by decide), hf 105 (by decide) (by decide)]
    exact ⟨this.1, fun y y0 y1 => by rw [hf y (by omega) (by omega)]; exact this.2.1 y y0 y1, this.2.2⟩
  · rw [hf 62 (by decide) (by decide)]; exact b x x0 x1
  · rw [hf 54 (by decide) (by decide)]; exact c x x0 x1
theorem kmon_new {M0 M M' : px_mem} {b : List Int} {c : Int} (hb : b.length ≤ 40) (h : kmon M0 M) (hk : knew M M' b c) (hf : ∀ x, x ≠ 53 → x ≠ 54 → ¬ (57 ≤ x ∧ x ≤ 62) → ¬ (64 ≤ x ∧ x ≤ 107) → x ≠ 126 → M' x = M x) : kmon M0 M' := by
  obtain ⟨a, b', o, d⟩ := h
  obtain ⟨bb, l, p, P, k1, k2, k3, k4, k5, k6, k7, ⟨q57, q58, q59, q60, q61, q62, q53, q54⟩, k9, k10⟩ := hk
  have hfree : M 62 c < 0 := by
    rcases fnd_spec 40 (fun c => M 62 c < 0) with q | q
    · omega
    · rw [k1] at q; exact q.2.2.1
  have h0c : M0 62 c < 0 := by
    rcases Int.lt_or_le (M0 62 c) 0 with q | q
    · exact q
    · have := (a c k2 k3 q).1; omega
  have hl := isBB_l k4 (fun x => Int.natCast_nonneg _) (Int.natCast_nonneg _)
  refine ⟨fun x x0 x1 x2 => ?_, fun x x0 x1 x2 => ?_, fun x x0 x1 => ?_, fun y y0 y1 y2 y3 y4 => by rw [hf y y0 y1 y2 y3 y4]; exact d y y0 y1 y2 y3 y4⟩
  · have e : x ≠ c := fun z => by rw [z] at x2; omega
    have h1 := a x x0 x1 x2
    have h2 := k10 x x0 x1 e
    refine ⟨by rw [q62 x, if_neg e]; exact h1.1, fun y y0 y1 => ?_, by rw [h2.1]; exact h1.2.2.1, by rw [h2.2.1]; exact h1.2.2.2.1, by rw [h2.2.2]; exact h1.2.2.2.2⟩
    rw [← h1.2.1 y y0 y1]
    rcases (by omega : y = 57 ∨ y = 58 ∨ y = 59 ∨ y = 60 ∨ y = 61) with z | z | z | z | z <;> subst z
    · rw [q57 x, if_neg e]
    · rw [q58 x, if_neg e]
    · rw [q59 x, if_neg e]
    · rw [q60 x, if_neg e]
    · rw [q61 x, if_neg e]
  · rw [q62 x] at x2 ⊢
    by_cases e : x = c
    · rw [if_pos e] at x2
      rcases k4 with z | z
      · rw [if_pos (by omega)] at x2; omega
      · rw [if_neg (by omega)] at x2
        have := z.2.2.1.1
        omega
    · rw [if_neg e] at x2 ⊢; exact b' x x0 x1 x2
  · have h1 := o x x0 x1
    rw [q54 x]
    by_cases e : p ≤ x ∧ x < p + l
    · rw [if_pos e]
      have hs := rmF_spec (p := fun k => M 54 k < 0) (n := l) (by omega)
      rw [k5] at hs
      have hx : M 54 x < 0 := by
        rcases hs with z | z | z
        · omega
        · exact z.2.2 x e.1 e.2
        · omega
      refine ⟨fun z => ?_, fun _ => Or.inr ⟨k2, k3, h0c⟩⟩
      have := h1.1 z; omega
    · rw [if_neg e]; exact h1
theorem isBl_rng {M : px_mem} {b : List Int} {bb l : Int} (h : isBl M b bb l) : 0 ≤ l ∧ l ≤ b.length ∧ (bb < 0 → bb = -2 ∧ l = b.length) ∧ bb < 40 := by
  have := isBB_l h (fun x => Int.natCast_nonneg _) (Int.natCast_nonneg _)
  omega
section PS
variable {M : px_mem} {Q : Option pv → px_mem → Prop}
/-- keepNew, of a row that holds these bytes -/
theorem sp_keepNew2 {v : Int} {b : List Int} (hci : ci M) (hv : 8 ≤ v ∧ v < 20) (hb : b.length ≤ 40 ∧ ∀ x ∈ b, 0 ≤ x ∧ x < 256) (hl : lst (M v) (b.length : Int) = b) (h0 : ∀ M', kfail M b → (∀ b, b ≠ 106 → b ≠ 107 → M' b = M b) → Q (some (0, -1)) M') (h1 : ∀ M' c, knew M M' b c → (∀ x, x ≠ 53 → x ≠ 54 → ¬ (57 ≤ x ∧ x ≤ 62) → ¬ (64 ≤ x ∧ x ≤ 107) → M' x = M x) → Q (some (0, c)) M') : px_Ok 18 [(2, 56), (2, v), (0, (b.length : Int))] LAY M Q := by
  have hbv : ∀ j, 0 ≤ j → j < (b.length : Int) → 0 ≤ M v j ∧ M v j < 256 := fun j j0 j1 => hb.2 _ (by rw [← hl]; exact lst_mem.mpr ⟨j, j0, j1, rfl⟩)
  refine sp_keepNew hci hv ⟨by omega, by omega⟩ hbv (fun e => h0 M (Or.inl e) (fun _ _ _ => rfl)) (fun M' bb l e1 e2 e3 => h0 M' (Or.inr ⟨bb, l, by have := isBest_l hci.1 (by omega) e1; rw [hl] at this; exact this, e2⟩) e3) (fun M' c bb l p P a1 a2 a3 a4 a5 a6 a7 a8 a9 a10 a11 a12 a13 => h1 M' c ?_ (fun x x0 x1 x2 x3 => a12 x x0 x1 x2 (by omega) (by omega)))
  have hB := isBest_l hci.1 (by omega) a5
  rw [hl] at hB
  have hr := isBl_rng hB
  refine ⟨bb, l, p, P, a1, a2, a3, hB, a6, a7, ?_, ?_, a11, fun x x0 x1 x2 => ⟨a12 _ (by omega) (by omega) (by omega) (by omega) (by omega), a13 x x2⟩⟩
  · by_cases e : bb < 0
    · rw [if_pos e, a8 e, (hr.2.2.1 e).2]; exact hl
    · rw [if_neg e, a9 (by omega)]
      unfold pcs
      have hx : 0 ≤ M 62 bb := by
        rcases hB with z | z
        · omega
        · exact z.2.2.1.1
      have := cokC (hci.1 bb (by omega) hr.2.2.2 hx)
      rw [pcl_lst (by omega) (by omega), hl]
      rfl
  · rw [mkl_lst (by omega), hl] at a10; exact a10
theorem kst_frame {M M' : px_mem} {b : List Int} {i c : Int} (h : kst M M' b i c) (hf : ∀ x, x ≠ 53 → x ≠ 54 → ¬ (57 ≤ x ∧ x ≤ 62) → ¬ (64 ≤ x ∧ x ≤ 107) → x ≠ 126 → M' x = M x) : True := trivial
set_option maxHeartbeats 600000 in
set_option maxRecDepth 100000 in
theorem lp_keepStage {M0 : px_mem} {N : Int} {g : Int → fe} (hst : stC M0 N g) (h1 : ∀ M', ktr g M0 N.toNat M' → ci M' → kmon M0 M' → Q (some (0, 1)) M') (h0 : ∀ M' M1 (k : Nat), (k : Int) < N → ktr g M0 k M1 → kfl M1 (g (k : Int)).2 → ci M' → kmon M0 M' → Q (some (0, 0)) M') (k : Int) (hk_k : k ≤ N) : ∀ (M : px_mem), 0 ≤ k → ktr g M0 k.toNat M → ci M → kmon M0 M → px_WP 122 0 0 (px_Q0 LAY Q) 2 [(2, 1), (0, k), (9, 0)] [] LAY M 0 0 := by
  refine up_ind (P := fun k => ∀ (M : px_mem), 0 ≤ k → ktr g M0 k.toNat M → ci M → kmon M0 M → px_WP 122 0 0 (px_Q0 LAY Q) 2 [(2, 1), (0, k), (9, 0)] [] LAY M 0 0) (N) (fun k hk_k ih => ?_) k hk_k
  intro M k0 htr hci hmon
  have hfr := hmon.2.2.2
  have f4 := hfr 4 (by decide) (by decide) (by decide) (by decide) (by decide)
  have f43 : M 4 3 = N := by rw [f4]; exact hst.1
  have hN := hst.2.1
  have hN2 := hst.2.2.1
  refine px_go_ok (inl := []) 60 ?_
  simp only [px_go, px_Q0_at, px_sx_0, px_sx_s, px_cl, px_step, ↓px_ll, px_lg, f4_, ↓px_r1, ↓px_r2, ↓px_r4, ↓px_r5, ↓px_p1, ↓px_p2, ↓px_p3, ↓px_pop, px_k_0, px_k_s, px_k3_0, px_stk_, px_cats, px_ent, px_st1, px_st2, px_mask, ↓px_tsw, ↓px_lsw, ct_, mls_0, mls_1, mls_2, mls_3, mls_4, mls_5, kd_0, kd_1, kd_2, kd_3, ln_0, ln_1, ln_2, ln_3, gf_0, gf_1, gf_2, gf_3, gf_4, gf_7, gf_21, gf_63, dy_0, dy_1, dy_2, dy_3, dy_7, dy_21, px_brT, px_brF, true_and, and_true, and_false, false_and, and_self, true_implies, false_implies, or_true, true_or, or_false, false_or, eq_self, ne_eq, not_false_eq_true, not_true_eq_false, if_true, if_false, List.mem_cons, List.not_mem_nil, List.length_cons, List.length_nil, Nat.reduceEqDiff, Nat.reduceAdd, Nat.reduceSub, Nat.reduceLeDiff, Nat.reduceLT, Int.reduceEq, Int.reduceLT, Int.reduceLE, Int.reduceNeg, Int.reduceAdd, Int.reduceSub, Int.reduceToNat, ↓reduceIte, one_ne_zero_, zero_ne_one_, px_in32L, cd_122, f43]
  repeat' (first | (with_reducible apply And.intro) | (with_reducible refine px_br_intro (fun _ => ?_) (fun _ => ?_)))
  all_goals (try (first | (unfold px_in32; omega) | omega))
  · rename_i c1
    have e : k = N := by omega
    subst e
    exact h1 M htr hci hmon
  · rename_i c1
    have hst2 : stC M N g := stF_frame hst (fun b b0 b1 => hfr b (by omega) (by omega) (by omega) (by omega) (by omega))
    have fk := hst2.2.2.2.2 k k0 (by omega)
    have hrow := hst2.2.2.2.1.1 k k0 (by omega)
    have hrl := row_lay (v := M 7 k) (Or.inl hrow)
    have hlen : (g k).2.length ≤ 40 := by have := fk.2.2.1; have := fk.2.2.2.1; omega
    have hb : lst (M (M 7 k)) ((g k).2.length : Int) = (g k).2 := by rw [← fk.2.2.1]; exact fk.2.2.2.2.1
    rw [fk.2.2.1]
    refine sp_wholeWith (by omega) hrl.1 (by omega) (by omega) ?_
    have eidx : idx 40 (isF M (M 7 k) ((g k).2.length : Int)) = idx 40 (isFb M (g k).2) := idx_congr (fun c c0 c1 => by rw [isF_b hci.1 c0 c1 (by omega), hb])
    rw [eidx]
    have hsp := fnd_spec 40 (isFb M (g k).2)
    have hid : idx 40 (isFb M (g k).2) = if fnd 40 (isFb M (g k).2) = -1 then -2 else fnd 40 (isFb M (g k).2) := rfl
    generalize hx : fnd 40 (isFb M (g k).2) = x at *
    rw [hid]
    have htr2 : ∀ M' c, kst M M' (g k).2 k c → ktr g M0 (k + 1).toNat M' := fun M' c hc => by
      rw [show (k + 1).toNat = k.toNat + 1 by omega]
      refine ⟨M, c, htr, ?_⟩
      rw [Int.toNat_of_nonneg k0]; exact hc
    by_cases e : x = -1
    · rw [if_pos e]
      simp only [px_go, px_Q0_at, px_sx_0, px_sx_s, px_cl, px_step, ↓px_ll, px_lg, f4_, ↓px_r1, ↓px_r2, ↓px_r4, ↓px_r5, ↓px_p1, ↓px_p2, ↓px_p3, ↓px_pop, px_k_0, px_k_s, px_k3_0, px_stk_, px_cats, px_ent, px_st1, px_st2, px_mask, ↓px_tsw, ↓px_lsw, ct_, mls_0, mls_1, mls_2, mls_3, mls_4, mls_5, kd_0, kd_1, kd_2, kd_3, ln_0, ln_1, ln_2, ln_3, gf_0, gf_1, gf_2, gf_3, gf_4, gf_7, gf_21, gf_63, dy_0, dy_1, dy_2, dy_3, dy_7, dy_21, px_brT, px_brF, true_and, and_true, and_false, false_and, and_self, true_implies, false_implies, or_true, true_or, or_false, false_or, eq_self, ne_eq, not_false_eq_true, not_true_eq_false, if_true, if_false, List.mem_cons, List.not_mem_nil, List.length_cons, List.length_nil, Nat.reduceEqDiff, Nat.reduceAdd, Nat.reduceSub, Nat.reduceLeDiff, Nat.reduceLT, Int.reduceEq, Int.reduceLT, Int.reduceLE, Int.reduceNeg, Int.reduceAdd, Int.reduceSub, Int.reduceToNat, ↓reduceIte, one_ne_zero_, zero_ne_one_, px_in32L, cd_122]
      repeat' (first | (with_reducible apply And.intro) | (with_reducible refine px_br_intro (fun _ => ?_) (fun _ => ?_)))
      all_goals (try (first | (unfold px_in32; omega) | omega))
      rw [fk.2.2.1]
      refine sp_keepNew2 hci hrow ⟨hlen, fk.2.2.2.2.2⟩ hb (fun M' q1 q2 => ?_) (fun M' c q1 q2 => ?_)
      · simp only [px_go, px_Q0_at, px_sx_0, px_sx_s, px_cl, px_step, ↓px_ll, px_lg, f4_, ↓px_r1, ↓px_r2, ↓px_r4, ↓px_r5, ↓px_p1, ↓px_p2, ↓px_p3, ↓px_pop, px_k_0, px_k_s, px_k3_0, px_stk_, px_cats, px_ent, px_st1, px_st2, px_mask, ↓px_tsw, ↓px_lsw, ct_, mls_0, mls_1, mls_2, mls_3, mls_4, mls_5, kd_0, kd_1, kd_2, kd_3, ln_0, ln_1, ln_2, ln_3, gf_0, gf_1, gf_2, gf_3, gf_4, gf_7, gf_21, gf_63, dy_0, dy_1, dy_2, dy_3, dy_7, dy_21, px_brT, px_brF, true_and, and_true, and_false, false_and, and_self, true_implies, false_implies, or_true, true_or, or_false, false_or, eq_self, ne_eq, not_false_eq_true, not_true_eq_false, if_true, if_false, List.mem_cons, List.not_mem_nil, List.length_cons, List.length_nil, Nat.reduceEqDiff, Nat.reduceAdd, Nat.reduceSub, Nat.reduceLeDiff, Nat.reduceLT, Int.reduceEq, Int.reduceLT, Int.reduceLE, Int.reduceNeg, Int.reduceAdd, Int.reduceSub, Int.reduceToNat, ↓reduceIte, one_ne_zero_, zero_ne_one_, px_in32L, cd_122]
        repeat' (first | (with_reducible apply And.intro) | (with_reducible refine px_br_intro (fun _ => ?_) (fun _ => ?_)))
        all_goals (try (first | (unfold px_in32; omega) | omega))
        refine h0 M' M k.toNat (by omega) htr (by rw [Int.toNat_of_nonneg k0]; exact ⟨hx.trans e, q1⟩) (ci_congr (fun b b0 b1 b2 => q2 b (by omega) (by omega)) hci) (kmon_same hmon (fun y y0 y1 => q2 y (by omega) (by omega)))
      · have hc := q1
        obtain ⟨_, _, _, _, _, z0, z1, _⟩ := hc
        simp only [px_go, px_Q0_at, px_sx_0, px_sx_s, px_cl, px_step, ↓px_ll, px_lg, f4_, ↓px_r1, ↓px_r2, ↓px_r4, ↓px_r5, ↓px_p1, ↓px_p2, ↓px_p3, ↓px_pop, px_k_0, px_k_s, px_k3_0, px_stk_, px_cats, px_ent, px_st1, px_st2, px_mask, ↓px_tsw, ↓px_lsw, ct_, mls_0, mls_1, mls_2, mls_3, mls_4, mls_5, kd_0, kd_1, kd_2, kd_3, ln_0, ln_1, ln_2, ln_3, gf_0, gf_1, gf_2, gf_3, gf_4, gf_7, gf_21, gf_63, dy_0, dy_1, dy_2, dy_3, dy_7, dy_21, px_brT, px_brF, true_and, and_true, and_false, false_and, and_self, true_implies, false_implies, or_true, true_or, or_false, false_or, eq_self, ne_eq, not_false_eq_true, not_true_eq_false, if_true, if_false, List.mem_cons, List.not_mem_nil, List.length_cons, List.length_nil, Nat.reduceEqDiff, Nat.reduceAdd, Nat.reduceSub, Nat.reduceLeDiff, Nat.reduceLT, Int.reduceEq, Int.reduceLT, Int.reduceLE, Int.reduceNeg, Int.reduceAdd, Int.reduceSub, Int.reduceToNat, ↓reduceIte, one_ne_zero_, zero_ne_one_, px_in32L, cd_122]
        repeat' (first | (with_reducible apply And.intro) | (with_reducible refine px_br_intro (fun _ => ?_) (fun _ => ?_)))
        all_goals (try (first | (unfold px_in32; omega) | omega))
        have hk : knew M (px_up M' 126 k c) (g k).2 c := by
          obtain ⟨bb, l, p, P, w1, w2, w3, w4, w5, w6, w7, ⟨v1, v2, v3, v4, v5, v6, v7, v8⟩, w9, w10⟩ := q1
          have ff : ∀ b, b ≠ 126 → px_up M' 126 k c b = M' b := fun b b0 => row_ne b0
          refine ⟨bb, l, p, P, w1, w2, w3, w4, w5, w6, w7, ⟨?_, ?_, ?_, ?_, ?_, ?_, ?_, ?_⟩, ci_congr (fun b b0 b1 b2 => ff b (by omega)) w9, fun y y0 y1 y2 => ?_⟩
          · rw [ff 57 (by decide)]; exact v1
          · rw [ff 58 (by decide)]; exact v2
          · rw [ff 59 (by decide)]; exact v3
          · rw [ff 60 (by decide)]; exact v4
          · rw [ff 61 (by decide)]; exact v5
          · rw [ff 62 (by decide)]; exact v6
          · rw [ff 53 (by decide)]; exact v7
          · rw [ff 54 (by decide)]; exact v8
          · rw [ff _ (by omega), ff 104 (by decide), ff 105 (by decide)]; exact w10 y y0 y1 y2
        have hci2 := hk
        obtain ⟨_, _, _, _, _, _, _, _, _, _, _, _, hci3, _⟩ := hci2
        refine ih (by omega) _ (by omega) (htr2 _ c ⟨by rw [px_up_at, if_pos ⟨rfl, rfl⟩], fun j j0 => by rw [px_up_at, if_neg (fun q => j0 q.2), q2 126 (by decide) (by decide) (by decide) (by decide)], z0, z1, Or.inr ⟨by rw [hx]; exact e, hk⟩⟩) hci3 (kmon_new hlen hmon hk (fun y y0 y1 y2 y3 y4 => by rw [row_ne y4]; exact q2 y y0 y1 y2 y3))
    · rw [if_neg e]
      simp only [px_go, px_Q0_at, px_sx_0, px_sx_s, px_cl, px_step, ↓px_ll, px_lg, f4_, ↓px_r1, ↓px_r2, ↓px_r4, ↓px_r5, ↓px_p1, ↓px_p2, ↓px_p3, ↓px_pop, px_k_0, px_k_s, px_k3_0, px_stk_, px_cats, px_ent, px_st1, px_st2, px_mask, ↓px_tsw, ↓px_lsw, ct_, mls_0, mls_1, mls_2, mls_3, mls_4, mls_5, kd_0, kd_1, kd_2, kd_3, ln_0, ln_1, ln_2, ln_3, gf_0, gf_1, gf_2, gf_3, gf_4, gf_7, gf_21, gf_63, dy_0, dy_1, dy_2, dy_3, dy_7, dy_21, px_brT, px_brF, true_and, and_true, and_false, false_and, and_self, true_implies, false_implies, or_true, true_or, or_false, false_or, eq_self, ne_eq, not_false_eq_true, not_true_eq_false, if_true, if_false, List.mem_cons, List.not_mem_nil, List.length_cons, List.length_nil, Nat.reduceEqDiff, Nat.reduceAdd, Nat.reduceSub, Nat.reduceLeDiff, Nat.reduceLT, Int.reduceEq, Int.reduceLT, Int.reduceLE, Int.reduceNeg, Int.reduceAdd, Int.reduceSub, Int.reduceToNat, ↓reduceIte, one_ne_zero_, zero_ne_one_, px_in32L, cd_122]
      repeat' (first | (with_reducible apply And.intro) | (with_reducible refine px_br_intro (fun _ => ?_) (fun _ => ?_)))
      all_goals (try (first | (unfold px_in32; omega) | omega))
      · rename_i c2
        refine ih (by omega) _ (by omega) (htr2 _ x ⟨by rw [px_up_at, if_pos ⟨rfl, rfl⟩], fun j j0 => by rw [px_up_at, if_neg (fun q => j0 q.2)], c2, by omega, Or.inl ⟨hx, fun y y0 => row_ne y0⟩⟩) (ci_congr (fun b b0 b1 b2 => row_ne (by omega)) hci) (kmon_same hmon (fun y y0 y1 => row_ne y0))
set_option maxHeartbeats 600000 in
set_option maxRecDepth 100000 in
theorem sp_keepStage {N : Int} {g : Int → fe} (hst : stC M N g) (hci : ci M) (h1 : ∀ M', ktr g M N.toNat M' → ci M' → kmon M M' → Q (some (0, 1)) M') (h0 : ∀ M' M1 (k : Nat), (k : Int) < N → ktr g M k M1 → kfl M1 (g (k : Int)).2 → ci M' → kmon M M' → Q (some (0, 0)) M') : px_Ok 122 [(2, 1)] LAY M Q := by
  refine px_ok_go (inl := []) (ls0 := [(2, 1), (9, 0), (9, 0)]) 60 (by decide) (Nat.le_of_ble_eq_true rfl) rfl ?_
  simp only [px_go, px_Q0_at, px_sx_0, px_sx_s, px_cl, px_step, ↓px_ll, px_lg, f4_, ↓px_r1, ↓px_r2, ↓px_r4, ↓px_r5, ↓px_p1, ↓px_p2, ↓px_p3, ↓px_pop, px_k_0, px_k_s, px_k3_0, px_stk_, px_cats, px_ent, px_st1, px_st2, px_mask, ↓px_tsw, ↓px_lsw, ct_, mls_0, mls_1, mls_2, mls_3, mls_4, mls_5, kd_0, kd_1, kd_2, kd_3, ln_0, ln_1, ln_2, ln_3, gf_0, gf_1, gf_2, gf_3, gf_4, gf_7, gf_21, gf_63, dy_0, dy_1, dy_2, dy_3, dy_7, dy_21, px_brT, px_brF, true_and, and_true, and_false, false_and, and_self, true_implies, false_implies, or_true, true_or, or_false, false_or, eq_self, ne_eq, not_false_eq_true, not_true_eq_false, if_true, if_false, List.mem_cons, List.not_mem_nil, List.length_cons, List.length_nil, Nat.reduceEqDiff, Nat.reduceAdd, Nat.reduceSub, Nat.reduceLeDiff, Nat.reduceLT, Int.reduceEq, Int.reduceLT, Int.reduceLE, Int.reduceNeg, Int.reduceAdd, Int.reduceSub, Int.reduceToNat, ↓reduceIte, one_ne_zero_, zero_ne_one_, px_in32L, cd_122]
  repeat' (first | (with_reducible apply And.intro) | (with_reducible refine px_br_intro (fun _ => ?_) (fun _ => ?_)))
  all_goals (try (first | (unfold px_in32; omega) | omega))
  exact lp_keepStage hst h1 h0 0 hst.2.1 M (Int.le_refl 0) rfl hci (kmon_refl M)
/-- the stage is as an edition's list -/
def asS (M : px_mem) (e N : Int) (pl : Int → List Int) (g : Int → fe) : Prop := M e 2 = N ∧ ∀ i, 0 ≤ i → i < N → pl i = (g i).1 ∧ M 105 (M (e + 2) i) ≠ 0 ∧ rdC M (M (e + 2) i) = (g i).2
set_option maxHeartbeats 600000 in
set_option maxRecDepth 100000 in
theorem lp_unch {N e : Int} {pl : Int → List Int} {g : Int → fe} (he : isE e) (hst : stC M N g) (hls : lsC M e pl) (heN : M e 2 = N) (hlen : ∀ c, 0 ≤ c → c < 40 → (∃ j, 0 ≤ j ∧ j < M e 2 ∧ M (e + 2) j = c) → 0 ≤ M 57 c) (h1 : asS M e N pl g → Q (some (0, 1)) M) (h0 : ¬ asS M e N pl g → Q (some (0, 0)) M) (k : Int) (hk_k : k ≤ N) : 0 ≤ k → (∀ i, 0 ≤ i → i < k → pl i = (g i).1 ∧ M 105 (M (e + 2) i) ≠ 0 ∧ rdC M (M (e + 2) i) = (g i).2) → px_WP 121 0 0 (px_Q0 LAY Q) 49 [(2, 1), (2, e), (0, k), (9, 0)] [] LAY M 0 0 := by
  refine up_ind (P := fun k => 0 ≤ k → (∀ i, 0 ≤ i → i < k → pl i = (g i).1 ∧ M 105 (M (e + 2) i) ≠ 0 ∧ rdC M (M (e + 2) i) = (g i).2) → px_WP 121 0 0 (px_Q0 LAY Q) 49 [(2, 1), (2, e), (0, k), (9, 0)] [] LAY M 0 0) (N) (fun k hk_k ih => ?_) k hk_k
  intro k0 hl
  have hel := isE_lay he
  have heg := isE_gf he
  have hM := hst.1
  have hN2 := hst.2.2.1
  have hcj := fun q => (hls.2.2 k k0 q).2.2
  have hlc := (lcmp_lt (M (e + 1) k) (M 5 k)).2.1
  refine px_go_ok (inl := []) 60 ?_
  simp only [px_go, px_Q0_at, px_sx_0, px_sx_s, px_cl, px_step, ↓px_ll, px_lg, f4_, ↓px_r1, ↓px_r2, ↓px_r4, ↓px_r5, ↓px_p1, ↓px_p2, ↓px_p3, ↓px_pop, px_k_0, px_k_s, px_k3_0, px_stk_, px_cats, px_ent, px_st1, px_st2, px_mask, ↓px_tsw, ↓px_lsw, ct_, mls_0, mls_1, mls_2, mls_3, mls_4, mls_5, kd_0, kd_1, kd_2, kd_3, ln_0, ln_1, ln_2, ln_3, gf_0, gf_1, gf_2, gf_3, gf_4, gf_7, gf_21, gf_63, dy_0, dy_1, dy_2, dy_3, dy_7, dy_21, px_brT, px_brF, true_and, and_true, and_false, false_and, and_self, true_implies, false_implies, or_true, true_or, or_false, false_or, eq_self, ne_eq, not_false_eq_true, not_true_eq_false, if_true, if_false, List.mem_cons, List.not_mem_nil, List.length_cons, List.length_nil, Nat.reduceEqDiff, Nat.reduceAdd, Nat.reduceSub, Nat.reduceLeDiff, Nat.reduceLT, Int.reduceEq, Int.reduceLT, Int.reduceLE, Int.reduceNeg, Int.reduceAdd, Int.reduceSub, Int.reduceToNat, ↓reduceIte, one_ne_zero_, zero_ne_one_, px_in32L, cd_121, hel, heg, hM]
  repeat' (first | (with_reducible apply And.intro) | (with_reducible refine px_br_intro (fun _ => ?_) (fun _ => ?_)))
  all_goals (try (first | (unfold px_in32; omega) | omega))
  · rename_i c1
    exact h1 ⟨heN, fun i i0 i1 => hl i i0 (by omega)⟩
  · rename_i c1 c2 c3
    exact h0 (fun z => (z.2 k k0 (by omega)).2.1 c3)
  · rename_i c1 c2 c3
    have fk := hst.2.2.2.2 k k0 (by omega)
    have hj := hls.2.2 k k0 (by omega)
    have hrow := hst.2.2.2.1.1 k k0 (by omega)
    have hrl := row_lay (v := M 7 k) (Or.inl hrow)
    have hl57 := hlen _ hj.2.2.1 hj.2.2.2 ⟨k, k0, by omega, rfl⟩
    have hp : pl k = (g k).1 := by
      have := hlc.mp c2
      rw [hj.2.1, fk.2.1] at this
      exact enc_inj hj.1.1 fk.1.1 hj.1.2 fk.1.2 this
    have hiff : (M 57 (M (e + 2) k) = M 6 k ∧ ∀ j, 0 ≤ j → j < M 6 k → M (64 + M (e + 2) k) j = M (M 7 k) j) ↔ rdC M (M (e + 2) k) = (g k).2 := by
      rw [← fk.2.2.2.2.1]
      exact (lst_inj hl57 (by have := fk.2.2.1; omega)).symm
    refine sp_hasBytes (by have := fk.2.2.1; omega) hj.2.2 hrl.1 (by have := fk.2.2.2.1; omega) fk.2.2.2.1 (fun z => ?_) (fun z => ?_)
    · simp only [px_go, px_Q0_at, px_sx_0, px_sx_s, px_cl, px_step, ↓px_ll, px_lg, f4_, ↓px_r1, ↓px_r2, ↓px_r4, ↓px_r5, ↓px_p1, ↓px_p2, ↓px_p3, ↓px_pop, px_k_0, px_k_s, px_k3_0, px_stk_, px_cats, px_ent, px_st1, px_st2, px_mask, ↓px_tsw, ↓px_lsw, ct_, mls_0, mls_1, mls_2, mls_3, mls_4, mls_5, kd_0, kd_1, kd_2, kd_3, ln_0, ln_1, ln_2, ln_3, gf_0, gf_1, gf_2, gf_3, gf_4, gf_7, gf_21, gf_63, dy_0, dy_1, dy_2, dy_3, dy_7, dy_21, px_brT, px_brF, true_and, and_true, and_false, false_and, and_self, true_implies, false_implies, or_true, true_or, or_false, false_or, eq_self, ne_eq, not_false_eq_true, not_true_eq_false, if_true, if_false, List.mem_cons, List.not_mem_nil, List.length_cons, List.length_nil, Nat.reduceEqDiff, Nat.reduceAdd, Nat.reduceSub, Nat.reduceLeDiff, Nat.reduceLT, Int.reduceEq, Int.reduceLT, Int.reduceLE, Int.reduceNeg, Int.reduceAdd, Int.reduceSub, Int.reduceToNat, ↓reduceIte, one_ne_zero_, zero_ne_one_, px_in32L, cd_121, hel, heg, hM]
      repeat' (first | (with_reducible apply And.intro) | (with_reducible refine px_br_intro (fun _ => ?_) (fun _ => ?_)))
      all_goals (try (first | (unfold px_in32; omega) | omega))
      refine ih (by omega) (by omega) (fun i i0 i1 => ?_)
      by_cases q : i = k
      · rw [q]; exact ⟨hp, c3, hiff.mp z⟩
      · exact hl i i0 (by omega)
    · simp only [px_go, px_Q0_at, px_sx_0, px_sx_s, px_cl, px_step, ↓px_ll, px_lg, f4_, ↓px_r1, ↓px_r2, ↓px_r4, ↓px_r5, ↓px_p1, ↓px_p2, ↓px_p3, ↓px_pop, px_k_0, px_k_s, px_k3_0, px_stk_, px_cats, px_ent, px_st1, px_st2, px_mask, ↓px_tsw, ↓px_lsw, ct_, mls_0, mls_1, mls_2, mls_3, mls_4, mls_5, kd_0, kd_1, kd_2, kd_3, ln_0, ln_1, ln_2, ln_3, gf_0, gf_1, gf_2, gf_3, gf_4, gf_7, gf_21, gf_63, dy_0, dy_1, dy_2, dy_3, dy_7, dy_21, px_brT, px_brF, true_and, and_true, and_false, false_and, and_self, true_implies, false_implies, or_true, true_or, or_false, false_or, eq_self, ne_eq, not_false_eq_true, not_true_eq_false, if_true, if_false, List.mem_cons, List.not_mem_nil, List.length_cons, List.length_nil, Nat.reduceEqDiff, Nat.reduceAdd, Nat.reduceSub, Nat.reduceLeDiff, Nat.reduceLT, Int.reduceEq, Int.reduceLT, Int.reduceLE, Int.reduceNeg, Int.reduceAdd, Int.reduceSub, Int.reduceToNat, ↓reduceIte, one_ne_zero_, zero_ne_one_, px_in32L, cd_121, hel, heg, hM]
      exact h0 (fun w => z (hiff.mpr (w.2 k k0 (by omega)).2.2))
  · rename_i c1 c2
    have fk := hst.2.2.2.2 k k0 (by omega)
    have hj := hls.2.2 k k0 (by omega)
    refine h0 (fun z => c2 (hlc.mpr ?_))
    rw [hj.2.1, fk.2.1, (z.2 k k0 (by omega)).1]
end PS
