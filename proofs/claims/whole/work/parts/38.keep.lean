/-! EditionVault.Contents: a new one is kept -/
set_option maxRecDepth 100000 in
/-- X1_keepNew -/
theorem cd_18 : px_at 18 0 = some (1, [], .aload_n 0, []) ∧ px_at 18 1 = some (4, [], .invokevirtual 99, [19, 0, 1, 72]) ∧ px_at 18 4 = some (5, [], .istore_n 3, []) ∧ px_at 18 5 = some (6, [], .iload_n 3, []) ∧ px_at 18 6 = some (9, [], .ifCond .ge 5, [11]) ∧ px_at 18 9 = some (10, [], .iconst (-1), []) ∧ px_at 18 10 = some (11, [], .ireturn, [0]) ∧ px_at 18 11 = some (12, [], .aload_n 0, []) ∧ px_at 18 12 = some (13, [], .aload_n 1, []) ∧ px_at 18 13 = some (14, [], .iload_n 2, []) ∧ px_at 18 14 = some (15, [], .aload_n 0, []) ∧ px_at 18 15 = some (18, [], .getfield 27, [1, 5, 2, 1, 76]) ∧ px_at 18 18 = some (21, [], .invokevirtual 103, [17, 3, 1, 73]) ∧ px_at 18 21 = some (23, [], .istore 4, []) ∧ px_at 18 23 = some (25, [], .iload 4, []) ∧ px_at 18 25 = some (28, [], .ifCond .ge 7, [32]) ∧ px_at 18 28 = some (29, [], .iload_n 2, []) ∧ px_at 18 29 = some (32, [], .goto 10, [39]) ∧ px_at 18 32 = some (33, [], .aload_n 0, []) ∧ px_at 18 33 = some (36, [], .getfield 45, [1, 10, 2, 1, 86]) ∧ px_at 18 36 = some (39, [], .getfield 95, [5, 1, 0, 0, 63]) ∧ px_at 18 39 = some (41, [], .istore 5, []) ∧ px_at 18 41 = some (42, [], .aload_n 0, []) ∧ px_at 18 42 = some (45, [], .getfield 55, [1, 9, 2, 1, 85]) ∧ px_at 18 45 = some (47, [], .iload 5, []) ∧ px_at 18 47 = some (50, [], .invokevirtual 107, [78, 1, 6, 78]) ∧ px_at 18 50 = some (52, [], .istore 6, []) ∧ px_at 18 52 = some (54, [], .iload 6, []) ∧ px_at 18 54 = some (57, [], .ifCond .ge 5, [59]) ∧ px_at 18 57 = some (58, [], .iconst (-1), []) ∧ px_at 18 58 = some (59, [], .ireturn, [0]) ∧ px_at 18 59 = some (60, [], .aload_n 0, []) ∧ px_at 18 60 = some (63, [], .getfield 55, [1, 9, 2, 1, 85]) ∧ px_at 18 63 = some (65, [], .iload 6, []) ∧ px_at 18 65 = some (67, [], .iload 4, []) ∧ px_at 18 67 = some (70, [], .ifCond .ge 7, [74]) ∧ px_at 18 70 = some (71, [], .aload_n 1, []) ∧ px_at 18 71 = some (74, [], .goto 10, [81]) ∧ px_at 18 74 = some (75, [], .aload_n 0, []) ∧ px_at 18 75 = some (78, [], .getfield 45, [1, 10, 2, 1, 86]) ∧ px_at 18 78 = some (81, [], .getfield 111, [5, 0, 2, 1, 61]) ∧ px_at 18 81 = some (83, [], .iload 5, []) ∧ px_at 18 83 = some (86, [], .invokevirtual 114, [80, 3, 6, 79]) ∧ px_at 18 86 = some (87, [], .aload_n 0, []) ∧ px_at 18 87 = some (90, [], .getfield 55, [1, 9, 2, 1, 85]) ∧ px_at 18 90 = some (92, [], .iload 6, []) ∧ px_at 18 92 = some (94, [], .iload 5, []) ∧ px_at 18 94 = some (95, [], .iload_n 3, []) ∧ px_at 18 95 = some (98, [], .invokevirtual 118, [81, 3, 6, 81]) ∧ px_at 18 98 = some (99, [], .aload_n 0, []) ∧ px_at 18 99 = some (102, [], .getfield 9, [1, 0, 2, 1, 66]) ∧ px_at 18 102 = some (103, [], .iload_n 3, []) ∧ px_at 18 103 = some (104, [], .iload_n 2, []) ∧ px_at 18 104 = some (105, [], .iastore, []) ∧ px_at 18 105 = some (106, [], .aload_n 0, []) ∧ px_at 18 106 = some (109, [], .getfield 15, [1, 1, 2, 1, 69]) ∧ px_at 18 109 = some (110, [], .iload_n 3, []) ∧ px_at 18 110 = some (111, [], .aload_n 1, []) ∧ px_at 18 111 = some (112, [], .iload_n 2, []) ∧ px_at 18 112 = some (115, [], .invokestatic 78, [6, 2, 1, 82]) ∧ px_at 18 115 = some (116, [], .iastore, []) ∧ px_at 18 116 = some (117, [], .aload_n 0, []) ∧ px_at 18 117 = some (120, [], .getfield 18, [1, 2, 2, 1, 71]) ∧ px_at 18 120 = some (121, [], .iload_n 3, []) ∧ px_at 18 121 = some (123, [], .iload 6, []) ∧ px_at 18 123 = some (124, [], .iastore, []) ∧ px_at 18 124 = some (125, [], .aload_n 0, []) ∧ px_at 18 125 = some (128, [], .getfield 21, [1, 3, 2, 1, 72]) ∧ px_at 18 128 = some (129, [], .iload_n 3, []) ∧ px_at 18 129 = some (131, [], .iload 5, []) ∧ px_at 18 131 = some (132, [], .iastore, []) ∧ px_at 18 132 = some (133, [], .aload_n 0, []) ∧ px_at 18 133 = some (136, [], .getfield 24, [1, 4, 2, 1, 74]) ∧ px_at 18 136 = some (137, [], .iload_n 3, []) ∧ px_at 18 137 = some (139, [], .iload 4, []) ∧ px_at 18 139 = some (140, [], .iastore, []) ∧ px_at 18 140 = some (141, [], .aload_n 0, []) ∧ px_at 18 141 = some (144, [], .getfield 27, [1, 5, 2, 1, 76]) ∧ px_at 18 144 = some (145, [], .iload_n 3, []) ∧ px_at 18 145 = some (147, [], .iload 4, []) ∧ px_at 18 147 = some (150, [], .ifCond .ge 7, [154]) ∧ px_at 18 150 = some (151, [], .iconst 0, []) ∧ px_at 18 151 = some (154, [], .goto 12, [163]) ∧ px_at 18 154 = some (155, [], .aload_n 0, []) ∧ px_at 18 155 = some (158, [], .getfield 27, [1, 5, 2, 1, 76]) ∧ px_at 18 158 = some (160, [], .iload 4, []) ∧ px_at 18 160 = some (161, [], .iaload, []) ∧ px_at 18 161 = some (162, [], .iconst 1, []) ∧ px_at 18 162 = some (163, [], .iadd, []) ∧ px_at 18 163 = some (164, [], .iastore, []) ∧ px_at 18 164 = some (165, [], .aload_n 0, []) ∧ px_at 18 165 = some (166, [], .iload_n 3, []) ∧ px_at 18 166 = some (169, [], .invokevirtual 68, [13, 1, 1, 83]) ∧ px_at 18 169 = some (170, [], .iload_n 3, []) ∧ px_at 18 170 = some (171, [], .ireturn, [0]) := ⟨rfl, rfl, rfl, rfl, rfl, rfl, rfl, rfl, rfl, rfl, rfl, rfl, rfl, rfl, rfl, rfl, rfl, rfl, rfl, rfl, rfl, rfl, rfl, rfl, rfl, rfl, rfl, rfl, rfl, rfl, rfl, rfl, rfl, rfl, rfl, rfl, rfl, rfl, rfl, rfl, rfl, rfl, rfl, rfl, rfl, rfl, rfl, rfl, rfl, rfl, rfl, rfl, rfl, rfl, rfl, rfl, rfl, rfl, rfl, rfl, rfl, rfl, rfl, rfl, rfl, rfl, rfl, rfl, rfl, rfl, rfl, rfl, rfl, rfl, rfl, rfl, rfl, rfl, rfl, rfl, rfl, rfl, rfl, rfl, rfl, rfl, rfl, rfl, rfl, rfl, rfl, rfl, rfl, rfl, rfl⟩
/-- what the class has changed when it has kept one, but for what is read of it -/
def kept (M M2 : px_mem) (c n m b l p : Int) (P : Int → Int) : Prop :=
  (∀ x, M2 57 x = if x = c then n else M 57 x) ∧ (∀ x, M2 58 x = if x = c then m else M 58 x) ∧ (∀ x, M2 59 x = if x = c then p else M 59 x) ∧ (∀ x, M2 60 x = if x = c then l else M 60 x) ∧ (∀ x, M2 61 x = if x = c then b else M 61 x) ∧ (∀ x, M2 62 x = if x = c then (if b < 0 then 0 else M 62 b + 1) else M 62 x) ∧
  (∀ x, M2 53 x = if p ≤ x ∧ x < p + l then P (x - p) else M 53 x) ∧ (∀ x, M2 54 x = if p ≤ x ∧ x < p + l then c else M 54 x)
theorem kept_ok {M M2 : px_mem} {c n m b l p : Int} {P : Int → Int} (hci : ci M) (hc : 0 ≤ c ∧ c < 40 ∧ M 62 c < 0) (hn : 0 ≤ n ∧ n ≤ 40) (hm : 0 ≤ m ∧ m < 65521) (hb : (b = -2 ∧ l = n) ∨ (0 ≤ b ∧ b < 40 ∧ 0 ≤ M 62 b ∧ M 62 b < 3 ∧ l < n ∧ 0 ≤ l)) (hp : 0 ≤ p ∧ p + l ≤ 400) (hfree : ∀ x, p ≤ x → x < p + l → M 54 x < 0) (hP : ∀ k, 0 ≤ k → k < l → 0 ≤ P k ∧ P k < 256) (h : kept M M2 c n m b l p P) (h64 : ∀ x, 0 ≤ x → x < 40 → x ≠ c → M2 (64 + x) = M (64 + x) ∧ M2 104 x = M 104 x ∧ M2 105 x = M 105 x) : cw (cC M2) (M2 62) ∧ bw (M2 53) ∧ own M2 ∧ (∀ x, 0 ≤ x → x < 40 → -1 ≤ M2 62 x) ∧ ∀ x, 0 ≤ x → x < 40 → x ≠ c → 0 ≤ M 62 x → gd M2 x := by
  obtain ⟨i1, i2, i3, i4, i5⟩ := hci
  obtain ⟨k57, k58, k59, k60, k61, k62, k53, k54⟩ := h
  have hw : ∀ x, 0 ≤ x → x < 40 → 0 ≤ M 62 x → _ := fun x x0 x1 x2 => cokC (i1 x x0 x1 x2)
  refine ⟨fun x x0 x1 x2 => ?_, fun x x0 x1 => ?_, ⟨fun x x0 x1 x2 y y0 y1 => ?_, fun y y0 y1 => ?_⟩, fun x x0 x1 => ?_, fun x x0 x1 xc x2 => ?_⟩
  · show _ ≤ 3 ∧ 0 ≤ M2 57 x ∧ M2 57 x ≤ 40 ∧ 0 ≤ M2 58 x ∧ M2 58 x < 65521 ∧ 0 ≤ M2 59 x ∧ 0 ≤ M2 60 x ∧ M2 60 x ≤ M2 57 x ∧ M2 59 x + M2 60 x ≤ 400 ∧
      ((M2 61 x = -2 ∧ M2 62 x = 0 ∧ M2 60 x = M2 57 x) ∨ (0 ≤ M2 61 x ∧ M2 61 x < 40 ∧ 0 ≤ M2 62 (M2 61 x) ∧ M2 62 x = M2 62 (M2 61 x) + 1))
    have hx := hw x x0 x1
    have hk := k62 x
    rw [k57 x, k58 x, k59 x, k60 x, k61 x]
    by_cases e : x = c
    · subst e
      simp only [if_true] at hk ⊢
      rw [hk]
      have hkb := k62 b
      rcases hb with ⟨e1, e2⟩ | ⟨e1, e2, e3, e4, e5, e6⟩
      · simp only [show b < 0 by omega, if_true, true_and, and_true]
        omega
      · have e7 : ¬ b = x := fun z => by rw [z] at e3; omega
        rw [if_neg e7] at hkb
        rw [hkb]
        simp only [show ¬ b < 0 by omega, if_false, true_and, and_true]
        omega
    · rw [if_neg e] at hk ⊢
      have h3 := hx (by omega)
      simp only [if_neg e]
      rw [hk]
      have hkb := k62 (M 61 x)
      by_cases e5 : M 61 x = c
      · rw [e5] at h3; omega
      · rw [if_neg e5] at hkb
        rw [hkb]
        omega
  · rw [k53 x]
    by_cases e : p ≤ x ∧ x < p + l
    · rw [if_pos e]; exact hP _ (by omega) (by omega)
    · rw [if_neg e]; exact i2 x x0 x1
  · rw [k54 y]
    rw [k62 x] at x2
    rw [k59 x] at y0
    rw [k59 x, k60 x] at y1
    by_cases e : x = c
    · rw [if_pos e] at y0 y1
      rw [if_pos e] at y1
      rw [if_pos ⟨y0, y1⟩, e]
    · rw [if_neg e] at y0 x2
      rw [if_neg e, if_neg e] at y1
      have := i3.1 x x0 x1 x2 y y0 y1
      rw [if_neg (fun z => by have := hfree y z.1 z.2; omega)]
      exact this
  · have h2 := i3.2 y y0 y1
    rw [k54 y]
    by_cases e : p ≤ y ∧ y < p + l
    · rw [if_pos e]
      right
      rw [k62 c, if_pos rfl, k59 c, if_pos rfl, k60 c, if_pos rfl]
      rcases hb with hb | hb
      · rw [if_pos (by omega)]; omega
      · rw [if_neg (by omega)]; omega
    · rw [if_neg e]
      rcases h2 with h2 | h2
      · exact Or.inl h2
      · right
        have e5 : M 54 y ≠ c := fun z => by rw [z] at h2; omega
        rw [k62, if_neg e5, k59, if_neg e5, k60, if_neg e5]
        exact h2
  · rw [k62 x]
    by_cases e : x = c
    · rw [if_pos e]
      rcases hb with hb | hb
      · rw [if_pos (by omega)]; omega
      · rw [if_neg (by omega)]; omega
    · rw [if_neg e]; exact i4 x x0 x1
  · have h3 := h64 x x0 x1 xc
    refine gd_move (s := fun _ => 0) i1 x0 x1 x2 (i5 x x0 x1 x2) (fun y y0 y1 y2 => ?_) (fun y y0 y1 y2 z z0 z1 => ?_) h3.1 h3.2.1 h3.2.2
    · have e : y ≠ c := fun z => by rw [z] at y2; omega
      rw [k57 y, k58 y, k59 y, k60 y, k61 y]
      simp [e]
    · rw [Int.add_zero, k53 z, if_neg (fun w => by
        have := hfree z w.1 w.2
        have := i3.1 y y0 y1 y2 z z0 z1
        omega)]
