/-! EditionVault.Contents: mending; sizes anew -/
set_option maxRecDepth 100000 in
/-- X1_mendBy -/
theorem cd_24 : px_at 24 0 = some (1, [], .iload_n 3, []) ∧ px_at 24 1 = some (2, [], .aload_n 0, []) ∧ px_at 24 2 = some (5, [], .getfield 9, [1, 0, 2, 1, 66]) ∧ px_at 24 5 = some (6, [], .iload_n 1, []) ∧ px_at 24 6 = some (7, [], .iaload, []) ∧ px_at 24 7 = some (10, [], .if_icmp .ne 17, [24]) ∧ px_at 24 10 = some (11, [], .aload_n 2, []) ∧ px_at 24 11 = some (12, [], .iload_n 3, []) ∧ px_at 24 12 = some (15, [], .invokestatic 78, [6, 2, 1, 82]) ∧ px_at 24 15 = some (16, [], .aload_n 0, []) ∧ px_at 24 16 = some (19, [], .getfield 15, [1, 1, 2, 1, 69]) ∧ px_at 24 19 = some (20, [], .iload_n 1, []) ∧ px_at 24 20 = some (21, [], .iaload, []) ∧ px_at 24 21 = some (24, [], .if_icmp .eq 6, [27]) ∧ px_at 24 24 = some (26, [], .bipush (-3), []) ∧ px_at 24 26 = some (27, [], .ireturn, [0]) ∧ px_at 24 27 = some (28, [], .aload_n 0, []) ∧ px_at 24 28 = some (31, [], .getfield 24, [1, 4, 2, 1, 74]) ∧ px_at 24 31 = some (32, [], .iload_n 1, []) ∧ px_at 24 32 = some (33, [], .iaload, []) ∧ px_at 24 33 = some (35, [], .istore 4, []) ∧ px_at 24 35 = some (37, [], .iload 4, []) ∧ px_at 24 37 = some (40, [], .ifCond .ge 21, [58]) ∧ px_at 24 40 = some (41, [], .aload_n 0, []) ∧ px_at 24 41 = some (44, [], .getfield 55, [1, 9, 2, 1, 85]) ∧ px_at 24 44 = some (45, [], .aload_n 0, []) ∧ px_at 24 45 = some (48, [], .getfield 18, [1, 2, 2, 1, 71]) ∧ px_at 24 48 = some (49, [], .iload_n 1, []) ∧ px_at 24 49 = some (50, [], .iaload, []) ∧ px_at 24 50 = some (51, [], .aload_n 2, []) ∧ px_at 24 51 = some (52, [], .iload_n 3, []) ∧ px_at 24 52 = some (55, [], .invokevirtual 114, [80, 3, 6, 79]) ∧ px_at 24 55 = some (58, [], .goto 60, [115]) ∧ px_at 24 58 = some (59, [], .aload_n 0, []) ∧ px_at 24 59 = some (62, [], .getfield 39, [1, 8, 2, 1, 83]) ∧ px_at 24 62 = some (64, [], .iload 4, []) ∧ px_at 24 64 = some (65, [], .baload, []) ∧ px_at 24 65 = some (68, [], .ifCond .eq 20, [85]) ∧ px_at 24 68 = some (69, [], .aload_n 0, []) ∧ px_at 24 69 = some (71, [], .iload 4, []) ∧ px_at 24 71 = some (72, [], .aload_n 2, []) ∧ px_at 24 72 = some (73, [], .iload_n 3, []) ∧ px_at 24 73 = some (76, [], .invokevirtual 91, [16, 3, 1, 74]) ∧ px_at 24 76 = some (77, [], .aload_n 0, []) ∧ px_at 24 77 = some (80, [], .getfield 21, [1, 3, 2, 1, 72]) ∧ px_at 24 80 = some (81, [], .iload_n 1, []) ∧ px_at 24 81 = some (82, [], .iaload, []) ∧ px_at 24 82 = some (85, [], .if_icmp .eq 6, [88]) ∧ px_at 24 85 = some (87, [], .bipush (-4), []) ∧ px_at 24 87 = some (88, [], .ireturn, [0]) ∧ px_at 24 88 = some (89, [], .aload_n 0, []) ∧ px_at 24 89 = some (92, [], .getfield 55, [1, 9, 2, 1, 85]) ∧ px_at 24 92 = some (93, [], .aload_n 0, []) ∧ px_at 24 93 = some (96, [], .getfield 18, [1, 2, 2, 1, 71]) ∧ px_at 24 96 = some (97, [], .iload_n 1, []) ∧ px_at 24 97 = some (98, [], .iaload, []) ∧ px_at 24 98 = some (99, [], .aload_n 0, []) ∧ px_at 24 99 = some (102, [], .getfield 45, [1, 10, 2, 1, 86]) ∧ px_at 24 102 = some (105, [], .getfield 111, [5, 0, 2, 1, 61]) ∧ px_at 24 105 = some (106, [], .aload_n 0, []) ∧ px_at 24 106 = some (109, [], .getfield 45, [1, 10, 2, 1, 86]) ∧ px_at 24 109 = some (112, [], .getfield 95, [5, 1, 0, 0, 63]) ∧ px_at 24 112 = some (115, [], .invokevirtual 114, [80, 3, 6, 79]) ∧ px_at 24 115 = some (116, [], .aload_n 0, []) ∧ px_at 24 116 = some (119, [], .invokevirtual 131, [12, 0, 1, 134]) ∧ px_at 24 119 = some (120, [], .iconst 1, []) ∧ px_at 24 120 = some (121, [], .ireturn, [0]) := ⟨rfl, rfl, rfl, rfl, rfl, rfl, rfl, rfl, rfl, rfl, rfl, rfl, rfl, rfl, rfl, rfl, rfl, rfl, rfl, rfl, rfl, rfl, rfl, rfl, rfl, rfl, rfl, rfl, rfl, rfl, rfl, rfl, rfl, rfl, rfl, rfl, rfl, rfl, rfl, rfl, rfl, rfl, rfl, rfl, rfl, rfl, rfl, rfl, rfl, rfl, rfl, rfl, rfl, rfl, rfl, rfl, rfl, rfl, rfl, rfl, rfl, rfl, rfl, rfl, rfl, rfl, rfl⟩
set_option maxRecDepth 100000 in
/-- X1_sizeAnew -/
theorem cd_27 : px_at 27 0 = some (1, [], .iconst 0, []) ∧ px_at 27 1 = some (2, [], .istore_n 2, []) ∧ px_at 27 2 = some (3, [1, 1, 1, 0, 0], .iload_n 2, []) ∧ px_at 27 3 = some (5, [], .bipush 40, []) ∧ px_at 27 5 = some (8, [], .if_icmp .ge 16, [21]) ∧ px_at 27 8 = some (9, [], .aload_n 0, []) ∧ px_at 27 9 = some (12, [], .getfield 49, [1, 11, 2, 1, 87]) ∧ px_at 27 12 = some (13, [], .iload_n 2, []) ∧ px_at 27 13 = some (14, [], .iconst (-1), []) ∧ px_at 27 14 = some (15, [], .iastore, []) ∧ px_at 27 15 = some (18, [], .iinc 2 1, []) ∧ px_at 27 18 = some (21, [], .goto (-16), [2]) ∧ px_at 27 21 = some (22, [], .iconst 0, []) ∧ px_at 27 22 = some (23, [], .istore_n 2, []) ∧ px_at 27 23 = some (24, [], .iconst 0, []) ∧ px_at 27 24 = some (25, [], .istore_n 3, []) ∧ px_at 27 25 = some (26, [1, 1, 1, 1, 0], .iload_n 3, []) ∧ px_at 27 26 = some (28, [], .bipush 40, []) ∧ px_at 27 28 = some (31, [], .if_icmp .ge 115, [143]) ∧ px_at 27 31 = some (32, [], .aload_n 0, []) ∧ px_at 27 32 = some (33, [], .iload_n 3, []) ∧ px_at 27 33 = some (36, [], .invokevirtual 60, [7, 1, 1, 67]) ∧ px_at 27 36 = some (39, [], .ifCond .eq 101, [137]) ∧ px_at 27 39 = some (40, [], .aload_n 1, []) ∧ px_at 27 40 = some (41, [], .iload_n 3, []) ∧ px_at 27 41 = some (42, [], .iaload, []) ∧ px_at 27 42 = some (45, [], .ifCond .le 95, [137]) ∧ px_at 27 45 = some (46, [], .aload_n 0, []) ∧ px_at 27 46 = some (49, [], .getfield 39, [1, 8, 2, 1, 83]) ∧ px_at 27 49 = some (50, [], .iload_n 3, []) ∧ px_at 27 50 = some (51, [], .baload, []) ∧ px_at 27 51 = some (54, [], .ifCond .ne 6, [57]) ∧ px_at 27 54 = some (56, [], .bipush (-2), []) ∧ px_at 27 56 = some (57, [], .ireturn, [0]) ∧ px_at 27 57 = some (58, [], .aload_n 0, []) ∧ px_at 27 58 = some (59, [], .aload_n 0, []) ∧ px_at 27 59 = some (62, [], .getfield 32, [1, 6, 2, 1, 78]) ∧ px_at 27 62 = some (63, [], .iload_n 3, []) ∧ px_at 27 63 = some (64, [], .aaload, []) ∧ px_at 27 64 = some (65, [], .aload_n 0, []) ∧ px_at 27 65 = some (68, [], .getfield 9, [1, 0, 2, 1, 66]) ∧ px_at 27 68 = some (69, [], .iload_n 3, []) ∧ px_at 27 69 = some (70, [], .iaload, []) ∧ px_at 27 70 = some (71, [], .aload_n 0, []) ∧ px_at 27 71 = some (74, [], .getfield 49, [1, 11, 2, 1, 87]) ∧ px_at 27 74 = some (77, [], .invokevirtual 103, [17, 3, 1, 73]) ∧ px_at 27 77 = some (79, [], .istore 4, []) ∧ px_at 27 79 = some (80, [], .iload_n 2, []) ∧ px_at 27 80 = some (82, [], .iload 4, []) ∧ px_at 27 82 = some (85, [], .ifCond .ge 12, [94]) ∧ px_at 27 85 = some (86, [], .aload_n 0, []) ∧ px_at 27 86 = some (89, [], .getfield 9, [1, 0, 2, 1, 66]) ∧ px_at 27 89 = some (90, [], .iload_n 3, []) ∧ px_at 27 90 = some (91, [], .iaload, []) ∧ px_at 27 91 = some (94, [], .goto 10, [101]) ∧ px_at 27 94 = some (95, [], .aload_n 0, []) ∧ px_at 27 95 = some (98, [], .getfield 45, [1, 10, 2, 1, 86]) ∧ px_at 27 98 = some (101, [], .getfield 95, [5, 1, 0, 0, 63]) ∧ px_at 27 101 = some (102, [], .iadd, []) ∧ px_at 27 102 = some (103, [], .istore_n 2, []) ∧ px_at 27 103 = some (104, [], .iload_n 2, []) ∧ px_at 27 104 = some (107, [], .sipush 400, []) ∧ px_at 27 107 = some (110, [], .if_icmp .le 6, [113]) ∧ px_at 27 110 = some (112, [], .bipush (-3), []) ∧ px_at 27 112 = some (113, [], .ireturn, [0]) ∧ px_at 27 113 = some (114, [], .aload_n 0, []) ∧ px_at 27 114 = some (117, [], .getfield 49, [1, 11, 2, 1, 87]) ∧ px_at 27 117 = some (118, [], .iload_n 3, []) ∧ px_at 27 118 = some (120, [], .iload 4, []) ∧ px_at 27 120 = some (123, [], .ifCond .ge 7, [127]) ∧ px_at 27 123 = some (124, [], .iconst 0, []) ∧ px_at 27 124 = some (127, [], .goto 12, [136]) ∧ px_at 27 127 = some (128, [], .aload_n 0, []) ∧ px_at 27 128 = some (131, [], .getfield 49, [1, 11, 2, 1, 87]) ∧ px_at 27 131 = some (133, [], .iload 4, []) ∧ px_at 27 133 = some (134, [], .iaload, []) ∧ px_at 27 134 = some (135, [], .iconst 1, []) ∧ px_at 27 135 = some (136, [], .iadd, []) ∧ px_at 27 136 = some (137, [], .iastore, []) ∧ px_at 27 137 = some (140, [], .iinc 3 1, []) ∧ px_at 27 140 = some (143, [], .goto (-115), [25]) ∧ px_at 27 143 = some (144, [], .iload_n 2, []) ∧ px_at 27 144 = some (145, [], .ireturn, [0]) := ⟨rfl, rfl, rfl, rfl, rfl, rfl, rfl, rfl, rfl, rfl, rfl, rfl, rfl, rfl, rfl, rfl, rfl, rfl, rfl, rfl, rfl, rfl, rfl, rfl, rfl, rfl, rfl, rfl, rfl, rfl, rfl, rfl, rfl, rfl, rfl, rfl, rfl, rfl, rfl, rfl, rfl, rfl, rfl, rfl, rfl, rfl, rfl, rfl, rfl, rfl, rfl, rfl, rfl, rfl, rfl, rfl, rfl, rfl, rfl, rfl, rfl, rfl, rfl, rfl, rfl, rfl, rfl, rfl, rfl, rfl, rfl, rfl, rfl, rfl, rfl, rfl, rfl, rfl, rfl, rfl, rfl, rfl, rfl⟩
theorem isBB_congr {cand cand' : Int → Prop} {sz sz' : Int → Int} {n k b l : Int} (h1 : ∀ x, 0 ≤ x → x < k → (cand x ↔ cand' x)) (h2 : ∀ x, 0 ≤ x → x < k → cand x → sz' x = sz x) (h : isBB cand sz n k b l) : isBB cand' sz' n k b l := by
  rcases h with ⟨a1, a2, a3⟩ | ⟨a1, a2, a3, a4, a5, a6, a7⟩
  · refine Or.inl ⟨a1, a2, fun c c0 c1 hc => ?_⟩
    have := (h1 c c0 c1).mpr hc
    rw [h2 c c0 c1 this]; exact a3 c c0 c1 this
  · refine Or.inr ⟨a1, a2, (h1 b a1 a2).mp a3, by rw [h2 b a1 a2 a3]; exact a4, a5, fun c c0 c1 hc => ?_, fun c c0 c1 hc => ?_⟩
    · have := (h1 c c0 c1).mpr hc
      rw [h2 c c0 c1 this]; exact a6 c c0 c1 this
    · have := (h1 c c0 (by omega)).mpr hc
      rw [h2 c c0 (by omega) this]; exact a7 c c0 c1 this
theorem isBB_l {cand : Int → Prop} {sz : Int → Int} {n k b l : Int} (h : isBB cand sz n k b l) (hs : ∀ x, 0 ≤ sz x) (hn : 0 ≤ n) : 0 ≤ l ∧ l ≤ n ∧ (b < 0 → b = -2 ∧ l = n) ∧ b < k ∨ k ≤ 0 := by
  rcases h with ⟨a1, a2, a3⟩ | ⟨a1, a2, a3, a4, a5, a6, a7⟩
  · by_cases e : k ≤ 0
    · exact Or.inr e
    · left; omega
  · have := hs b
    left; omega
/-- what is chosen anew: depths D, sizes S -/
def selA (M : px_mem) (v c : Int) : Prop := 0 ≤ M 62 c ∧ 0 < M v c
def cndA (M : px_mem) (v : Int) (D : Int → Int) (c x : Int) : Prop := x < c ∧ selA M v x ∧ 0 ≤ D x ∧ D x < 3 ∧ M 105 x ≠ 0
def stepA (M : px_mem) (v : Int) (D S : Int → Int) (c : Int) : Prop := ∃ b, isBB (cndA M v D c) (fun x => ((pcs M (64 + c) (M 57 c) x).length : Int)) (M 57 c) 40 b (S c) ∧ D c = if b < 0 then 0 else D b + 1
def okA (M : px_mem) (v : Int) (D S : Int → Int) (k : Int) : Prop := ∀ c, 0 ≤ c → c < k → selA M v c → M 105 c ≠ 0 ∧ stepA M v D S c
noncomputable def sumA (M : px_mem) (v : Int) (S : Int → Int) (k : Int) : Int := sm k (fun c => if 0 ≤ M 62 c ∧ 0 < M v c then S c else 0)
def thrA (M : px_mem) (v r : Int) : Prop := ∃ (D S : Int → Int) (k : Int), 0 ≤ k ∧ k ≤ 40 ∧ okA M v D S k ∧
  ((k = 40 ∧ sumA M v S 40 ≤ 400 ∧ r = sumA M v S 40) ∨ (k < 40 ∧ sumA M v S k ≤ 400 ∧ selA M v k ∧ M 105 k = 0 ∧ r = -2) ∨ (0 < k ∧ sumA M v S (k - 1) ≤ 400 ∧ 400 < sumA M v S k ∧ selA M v (k - 1) ∧ r = -3))
theorem okA_ext {M : px_mem} {v k d l : Int} {D D' S : Int → Int} (k0 : 0 ≤ k) (h : okA M v D S k) (hD : ∀ x, 0 ≤ x → x < k → D' x = D x) (hk : selA M v k → M 105 k ≠ 0 ∧ (∃ b, isBB (cndA M v D k) (fun x => ((pcs M (64 + k) (M 57 k) x).length : Int)) (M 57 k) 40 b l ∧ D' k = if b < 0 then 0 else D b + 1)) : okA M v D' (fun x => if x = k then l else S x) (k + 1) := by
  intro c c0 c1 hs
  by_cases e : c = k
  · subst e
    obtain ⟨q1, b, q2, q3⟩ := hk hs
    refine ⟨q1, b, ?_, ?_⟩
    · simp only [if_true]
      refine isBB_congr (fun x x0 x1 => ?_) (fun _ _ _ _ => rfl) q2
      unfold cndA
      constructor
      · rintro ⟨a1, a2⟩; rw [hD x x0 a1]; exact ⟨a1, a2⟩
      · rintro ⟨a1, a2⟩; rw [hD x x0 a1] at a2; exact ⟨a1, a2⟩
    · rw [q3]
      by_cases e2 : b < 0
      · rw [if_pos e2, if_pos e2]
      · rw [if_neg e2, if_neg e2]
        rcases q2 with a | a
        · omega
        · rw [hD b a.1 a.2.2.1.1]
  · obtain ⟨q1, b, q2, q3⟩ := h c c0 (by omega) hs
    refine ⟨q1, b, ?_, ?_⟩
    · simp only [e, if_false]
      refine isBB_congr (fun x x0 x1 => ?_) (fun _ _ _ _ => rfl) q2
      unfold cndA
      constructor
      · rintro ⟨a1, a2⟩; rw [hD x x0 (by omega)]; exact ⟨a1, a2⟩
      · rintro ⟨a1, a2⟩; rw [hD x x0 (by omega)] at a2; exact ⟨a1, a2⟩
    · rw [hD c c0 (by omega), q3]
      by_cases e2 : b < 0
      · rw [if_pos e2, if_pos e2]
      · rw [if_neg e2, if_neg e2]
        rcases q2 with a | a
        · omega
        · have := a.2.2.1.1
          rw [hD b a.1 (by omega)]
theorem sumA_ext {M : px_mem} {v k l : Int} {S : Int → Int} (k0 : 0 ≤ k) : sumA M v (fun x => if x = k then l else S x) k = sumA M v S k ∧ (selA M v k → sumA M v (fun x => if x = k then l else S x) (k + 1) = sumA M v S k + l) ∧ (¬ selA M v k → sumA M v (fun x => if x = k then l else S x) (k + 1) = sumA M v S k) := by
  have e : sumA M v (fun x => if x = k then l else S x) k = sumA M v S k := sm_congr (fun c c0 c1 => by
    show (if _ then (if c = k then l else S c) else 0) = _
    rw [if_neg (show ¬ c = k by omega)])
  refine ⟨e, fun h => ?_, fun h => ?_⟩
  · unfold sumA at e ⊢
    unfold selA at h
    rw [sm_s k0, e, if_pos h]
    show _ + (if k = k then l else S k) = _
    rw [if_pos rfl]
  · unfold sumA at e ⊢
    unfold selA at h
    rw [sm_s k0, e, if_neg h, Int.add_zero]
section PS
variable {M : px_mem} {Q : Option pv → px_mem → Prop}
set_option maxHeartbeats 600000 in
set_option maxRecDepth 100000 in
theorem sp_mendBy {c v n : Int} (hci : ci M) (hc : 0 ≤ c ∧ c < 40) (hd : 0 ≤ M 62 c) (hk : px_kd LAY v = 0) (hl : n ≤ px_ln LAY v) (hl2 : px_ln LAY v < 1000) (hv : v < 53) (hn : 0 ≤ n ∧ n ≤ 40) (hbv : ∀ j, 0 ≤ j → j < n → 0 ≤ M v j ∧ M v j < 256) (h3 : ¬ (n = M 57 c ∧ mk (M v) n = M 58 c) → Q (some (0, -3)) M) (h4 : ∀ M', n = M 57 c → mk (M v) n = M 58 c → 0 ≤ M 61 c → (M 105 (M 61 c) = 0 ∨ ((pcs M v n (M 61 c)).length : Int) ≠ M 60 c) → (∀ b, b ≠ 106 → b ≠ 107 → M' b = M b) → Q (some (0, -4)) M') (h1 : ∀ M' P, n = M 57 c → mk (M v) n = M 58 c → (M 61 c < 0 → P = M v) → (0 ≤ M 61 c → M 105 (M 61 c) ≠ 0 ∧ ((pcs M v n (M 61 c)).length : Int) = M 60 c ∧ lst P (M 60 c) = pcs M v n (M 61 c)) → (∀ x, M' 53 x = if M 59 c ≤ x ∧ x < M 59 c + M 60 c then P (x - M 59 c) else M 53 x) → (∀ b, b ≠ 53 → ¬ (64 ≤ b ∧ b < 108) → M' b = M b) → ci M' → Q (some (0, 1)) M') : px_Ok 24 [(2, 56), (0, c), (2, v), (0, n)] LAY M Q := by
  have hci2 := hci
  obtain ⟨i1, i2, i3, i4, i5⟩ := hci2
  have hcc := cokC (i1 c hc.1 hc.2 hd)
  refine px_ok_go (inl := []) (ls0 := [(2, 56), (0, c), (2, v), (0, n), (9, 0)]) 60 (by decide) (Nat.le_of_ble_eq_true rfl) rfl ?_
  simp only [px_go, px_Q0_at, px_sx_0, px_sx_s, px_cl, px_step, ↓px_ll, px_lg, f4_, ↓px_r1, ↓px_r2, ↓px_r4, ↓px_r5, ↓px_p1, ↓px_p2, ↓px_p3, ↓px_pop, px_k_0, px_k_s, px_k3_0, px_stk_, px_cats, px_ent, px_st1, px_st2, px_mask, ↓px_tsw, ↓px_lsw, ct_, mls_0, mls_1, mls_2, mls_3, mls_4, mls_5, kd_0, kd_1, kd_2, kd_3, ln_0, ln_1, ln_2, ln_3, gf_0, gf_1, gf_2, gf_3, gf_4, gf_7, gf_21, gf_63, dy_0, dy_1, dy_2, dy_3, dy_7, dy_21, px_brT, px_brF, true_and, and_true, and_false, false_and, and_self, true_implies, false_implies, or_true, true_or, or_false, false_or, eq_self, ne_eq, not_false_eq_true, not_true_eq_false, if_true, if_false, List.mem_cons, List.not_mem_nil, List.length_cons, List.length_nil, Nat.reduceEqDiff, Nat.reduceAdd, Nat.reduceSub, Nat.reduceLeDiff, Nat.reduceLT, Int.reduceEq, Int.reduceLT, Int.reduceLE, Int.reduceNeg, Int.reduceAdd, Int.reduceSub, Int.reduceToNat, ↓reduceIte, one_ne_zero_, zero_ne_one_, px_in32L, cd_24]
  repeat' (first | (with_reducible apply And.intro) | (with_reducible refine px_br_intro (fun _ => ?_) (fun _ => ?_)))
  all_goals (try (first | (unfold px_in32; omega) | omega))
  · rename_i c1
    refine sp_markOf hn.1 hk hl (by omega) hbv ?_
    have hput : ∀ (M1 M2 : px_mem) (P : Int → Int), (∀ b, b ≠ 106 → b ≠ 107 → M1 b = M b) → (∀ j, 0 ≤ j → j < M 60 c → 0 ≤ P j ∧ P j < 256) → (∀ x, M2 53 x = if M 59 c ≤ x ∧ x < M 59 c + M 60 c then P (x - M 59 c) else M1 53 x) → (∀ b, b ≠ 53 → M2 b = M1 b) → cw (cC M2) (M2 62) ∧ bw (M2 53) ∧ (∀ M' , frR M' M2 → (∀ x, 0 ≤ x → x < 40 → 0 ≤ M2 62 x → gd M' x) → (∀ x, M' 53 x = if M 59 c ≤ x ∧ x < M 59 c + M 60 c then P (x - M 59 c) else M 53 x) ∧ (∀ b, b ≠ 53 → ¬ (64 ≤ b ∧ b < 108) → M' b = M b) ∧ ci M') := by
      intro M1 M2 P f1 hP p1 p2
      have f2 : ∀ b, b ≠ 53 → b ≠ 106 → b ≠ 107 → M2 b = M b := fun b b0 b1 b2 => by rw [p2 b b0, f1 b b1 b2]
      have p1' : ∀ x, M2 53 x = if M 59 c ≤ x ∧ x < M 59 c + M 60 c then P (x - M 59 c) else M 53 x := fun x => by rw [p1 x, f1 53 (by decide) (by decide)]
      have hcw : cw (cC M2) (M2 62) := by
        rw [f2 62 (by decide) (by decide) (by decide)]
        exact cw_congr (cC_congr (fun b b0 b1 => f2 b (by omega) (by omega) (by omega))) i1
      have hbw : bw (M2 53) := fun x x0 x1 => by
        rw [p1' x]
        split
        · exact hP _ (by omega) (by omega)
        · exact i2 x x0 x1
      refine ⟨hcw, hbw, fun M' g1 g2 => ?_⟩
      have f3 : ∀ b, b ≠ 53 → ¬ (64 ≤ b ∧ b < 108) → M' b = M b := fun b b0 b1 => by rw [g1 b (by omega) (by omega) (by omega), f2 b b0 (by omega) (by omega)]
      have e53 := g1 53 (by decide) (by decide) (by decide)
      refine ⟨fun x => by rw [e53]; exact p1' x, f3, ⟨frR_cw g1 hcw, by rw [e53]; exact hbw, ?_, ?_, ?_⟩⟩
      · have : ownG (M' 62) (M' 59) (M' 60) (M' 54) := by rw [f3 62 (by decide) (by decide), f3 59 (by decide) (by decide), f3 60 (by decide) (by decide), f3 54 (by decide) (by decide)]; exact i3
        exact this
      · rw [f3 62 (by decide) (by decide)]; exact i4
      · intro x x0 x1 x2
        exact g2 x x0 x1 (by rw [g1 62 (by decide) (by decide) (by decide)] at x2; exact x2)
    simp only [px_go, px_Q0_at, px_sx_0, px_sx_s, px_cl, px_step, ↓px_ll, px_lg, f4_, ↓px_r1, ↓px_r2, ↓px_r4, ↓px_r5, ↓px_p1, ↓px_p2, ↓px_p3, ↓px_pop, px_k_0, px_k_s, px_k3_0, px_stk_, px_cats, px_ent, px_st1, px_st2, px_mask, ↓px_tsw, ↓px_lsw, ct_, mls_0, mls_1, mls_2, mls_3, mls_4, mls_5, kd_0, kd_1, kd_2, kd_3, ln_0, ln_1, ln_2, ln_3, gf_0, gf_1, gf_2, gf_3, gf_4, gf_7, gf_21, gf_63, dy_0, dy_1, dy_2, dy_3, dy_7, dy_21, px_brT, px_brF, true_and, and_true, and_false, false_and, and_self, true_implies, false_implies, or_true, true_or, or_false, false_or, eq_self, ne_eq, not_false_eq_true, not_true_eq_false, if_true, if_false, List.mem_cons, List.not_mem_nil, List.length_cons, List.length_nil, Nat.reduceEqDiff, Nat.reduceAdd, Nat.reduceSub, Nat.reduceLeDiff, Nat.reduceLT, Int.reduceEq, Int.reduceLT, Int.reduceLE, Int.reduceNeg, Int.reduceAdd, Int.reduceSub, Int.reduceToNat, ↓reduceIte, one_ne_zero_, zero_ne_one_, px_in32L, cd_24]
    repeat' (first | (with_reducible apply And.intro) | (with_reducible refine px_br_intro (fun _ => ?_) (fun _ => ?_)))
    all_goals (try (first | (unfold px_in32; omega) | omega))
    · rename_i c2 c3 c4
      exact h4 M c1 c2 c3 (Or.inl c4) (fun _ _ _ => rfl)
    · rename_i c2 c3 c4
      have hb := cokC (i1 (M 61 c) (by omega) (by omega) (by omega))
      refine sp_piecesBy ⟨by omega, by omega⟩ hk hl (by omega) hn.1 hn.2 (by omega) hbv (fun M1 e1 e2 e3 => ?_)
      have f60 := e3 60 (by decide) (by decide)
      have f59 := e3 59 (by decide) (by decide)
      simp only [px_go, px_Q0_at, px_sx_0, px_sx_s, px_cl, px_step, ↓px_ll, px_lg, f4_, ↓px_r1, ↓px_r2, ↓px_r4, ↓px_r5, ↓px_p1, ↓px_p2, ↓px_p3, ↓px_pop, px_k_0, px_k_s, px_k3_0, px_stk_, px_cats, px_ent, px_st1, px_st2, px_mask, ↓px_tsw, ↓px_lsw, ct_, mls_0, mls_1, mls_2, mls_3, mls_4, mls_5, kd_0, kd_1, kd_2, kd_3, ln_0, ln_1, ln_2, ln_3, gf_0, gf_1, gf_2, gf_3, gf_4, gf_7, gf_21, gf_63, dy_0, dy_1, dy_2, dy_3, dy_7, dy_21, px_brT, px_brF, true_and, and_true, and_false, false_and, and_self, true_implies, false_implies, or_true, true_or, or_false, false_or, eq_self, ne_eq, not_false_eq_true, not_true_eq_false, if_true, if_false, List.mem_cons, List.not_mem_nil, List.length_cons, List.length_nil, Nat.reduceEqDiff, Nat.reduceAdd, Nat.reduceSub, Nat.reduceLeDiff, Nat.reduceLT, Int.reduceEq, Int.reduceLT, Int.reduceLE, Int.reduceNeg, Int.reduceAdd, Int.reduceSub, Int.reduceToNat, ↓reduceIte, one_ne_zero_, zero_ne_one_, px_in32L, cd_24]
      rw [f60, f59, e1]
      repeat' (first | (with_reducible apply And.intro) | (with_reducible refine px_br_intro (fun _ => ?_) (fun _ => ?_)))
      all_goals (try (first | (unfold px_in32; omega) | omega))
      · rename_i c5
        rw [c5] at e2
        refine sp_put (by omega) (by omega) (by omega) rfl (by omega) (by rw [show px_ln LAY 107 = 80 from rfl]; omega) (by rw [show px_ln LAY 107 = 80 from rfl]; omega) (fun M2 p1 p2 => ?_)
        rw [c5] at p1
        have hp := hput M1 M2 (M1 107) e3 (fun j j0 j1 => by
          have hmem : M1 107 j ∈ pcs M v n (M 61 c) := by rw [← e2]; exact lst_mem.mpr ⟨j, j0, j1, rfl⟩
          exact pcs_rng hn.1 hn.2 (by omega) hbv _ hmem) p1 p2
        simp only [px_go, px_Q0_at, px_sx_0, px_sx_s, px_cl, px_step, ↓px_ll, px_lg, f4_, ↓px_r1, ↓px_r2, ↓px_r4, ↓px_r5, ↓px_p1, ↓px_p2, ↓px_p3, ↓px_pop, px_k_0, px_k_s, px_k3_0, px_stk_, px_cats, px_ent, px_st1, px_st2, px_mask, ↓px_tsw, ↓px_lsw, ct_, mls_0, mls_1, mls_2, mls_3, mls_4, mls_5, kd_0, kd_1, kd_2, kd_3, ln_0, ln_1, ln_2, ln_3, gf_0, gf_1, gf_2, gf_3, gf_4, gf_7, gf_21, gf_63, dy_0, dy_1, dy_2, dy_3, dy_7, dy_21, px_brT, px_brF, true_and, and_true, and_false, false_and, and_self, true_implies, false_implies, or_true, true_or, or_false, false_or, eq_self, ne_eq, not_false_eq_true, not_true_eq_false, if_true, if_false, List.mem_cons, List.not_mem_nil, List.length_cons, List.length_nil, Nat.reduceEqDiff, Nat.reduceAdd, Nat.reduceSub, Nat.reduceLeDiff, Nat.reduceLT, Int.reduceEq, Int.reduceLT, Int.reduceLE, Int.reduceNeg, Int.reduceAdd, Int.reduceSub, Int.reduceToNat, ↓reduceIte, one_ne_zero_, zero_ne_one_, px_in32L, cd_24]
        refine sp_readAll hp.1 hp.2.1 (fun M' g1 g2 => ?_)
        have hq := hp.2.2 M' g1 g2
        simp only [px_go, px_Q0_at, px_sx_0, px_sx_s, px_cl, px_step, ↓px_ll, px_lg, f4_, ↓px_r1, ↓px_r2, ↓px_r4, ↓px_r5, ↓px_p1, ↓px_p2, ↓px_p3, ↓px_pop, px_k_0, px_k_s, px_k3_0, px_stk_, px_cats, px_ent, px_st1, px_st2, px_mask, ↓px_tsw, ↓px_lsw, ct_, mls_0, mls_1, mls_2, mls_3, mls_4, mls_5, kd_0, kd_1, kd_2, kd_3, ln_0, ln_1, ln_2, ln_3, gf_0, gf_1, gf_2, gf_3, gf_4, gf_7, gf_21, gf_63, dy_0, dy_1, dy_2, dy_3, dy_7, dy_21, px_brT, px_brF, true_and, and_true, and_false, false_and, and_self, true_implies, false_implies, or_true, true_or, or_false, false_or, eq_self, ne_eq, not_false_eq_true, not_true_eq_false, if_true, if_false, List.mem_cons, List.not_mem_nil, List.length_cons, List.length_nil, Nat.reduceEqDiff, Nat.reduceAdd, Nat.reduceSub, Nat.reduceLeDiff, Nat.reduceLT, Int.reduceEq, Int.reduceLT, Int.reduceLE, Int.reduceNeg, Int.reduceAdd, Int.reduceSub, Int.reduceToNat, ↓reduceIte, one_ne_zero_, zero_ne_one_, px_in32L, cd_24]
        exact h1 M' (M1 107) c1 c2 (fun q => by omega) (fun _ => ⟨c4, c5, e2⟩) hq.1 hq.2.1 hq.2.2
      · rename_i c5
        exact h4 M1 c1 c2 c3 (Or.inr c5) e3
    · rename_i c2 c3
      refine sp_put (by omega) (by omega) (by omega) hk (by omega) hl hl2 (fun M2 p1 p2 => ?_)
      have en : n = M 60 c := by omega
      have hp := hput M M2 (M v) (fun _ _ _ => rfl) (fun j j0 j1 => hbv j j0 (by omega)) (by rw [← en]; exact p1) p2
      simp only [px_go, px_Q0_at, px_sx_0, px_sx_s, px_cl, px_step, ↓px_ll, px_lg, f4_, ↓px_r1, ↓px_r2, ↓px_r4, ↓px_r5, ↓px_p1, ↓px_p2, ↓px_p3, ↓px_pop, px_k_0, px_k_s, px_k3_0, px_stk_, px_cats, px_ent, px_st1, px_st2, px_mask, ↓px_tsw, ↓px_lsw, ct_, mls_0, mls_1, mls_2, mls_3, mls_4, mls_5, kd_0, kd_1, kd_2, kd_3, ln_0, ln_1, ln_2, ln_3, gf_0, gf_1, gf_2, gf_3, gf_4, gf_7, gf_21, gf_63, dy_0, dy_1, dy_2, dy_3, dy_7, dy_21, px_brT, px_brF, true_and, and_true, and_false, false_and, and_self, true_implies, false_implies, or_true, true_or, or_false, false_or, eq_self, ne_eq, not_false_eq_true, not_true_eq_false, if_true, if_false, List.mem_cons, List.not_mem_nil, List.length_cons, List.length_nil, Nat.reduceEqDiff, Nat.reduceAdd, Nat.reduceSub, Nat.reduceLeDiff, Nat.reduceLT, Int.reduceEq, Int.reduceLT, Int.reduceLE, Int.reduceNeg, Int.reduceAdd, Int.reduceSub, Int.reduceToNat, ↓reduceIte, one_ne_zero_, zero_ne_one_, px_in32L, cd_24]
      refine sp_readAll hp.1 hp.2.1 (fun M' g1 g2 => ?_)
      have hq := hp.2.2 M' g1 g2
      simp only [px_go, px_Q0_at, px_sx_0, px_sx_s, px_cl, px_step, ↓px_ll, px_lg, f4_, ↓px_r1, ↓px_r2, ↓px_r4, ↓px_r5, ↓px_p1, ↓px_p2, ↓px_p3, ↓px_pop, px_k_0, px_k_s, px_k3_0, px_stk_, px_cats, px_ent, px_st1, px_st2, px_mask, ↓px_tsw, ↓px_lsw, ct_, mls_0, mls_1, mls_2, mls_3, mls_4, mls_5, kd_0, kd_1, kd_2, kd_3, ln_0, ln_1, ln_2, ln_3, gf_0, gf_1, gf_2, gf_3, gf_4, gf_7, gf_21, gf_63, dy_0, dy_1, dy_2, dy_3, dy_7, dy_21, px_brT, px_brF, true_and, and_true, and_false, false_and, and_self, true_implies, false_implies, or_true, true_or, or_false, false_or, eq_self, ne_eq, not_false_eq_true, not_true_eq_false, if_true, if_false, List.mem_cons, List.not_mem_nil, List.length_cons, List.length_nil, Nat.reduceEqDiff, Nat.reduceAdd, Nat.reduceSub, Nat.reduceLeDiff, Nat.reduceLT, Int.reduceEq, Int.reduceLT, Int.reduceLE, Int.reduceNeg, Int.reduceAdd, Int.reduceSub, Int.reduceToNat, ↓reduceIte, one_ne_zero_, zero_ne_one_, px_in32L, cd_24]
      exact h1 M' (M v) c1 c2 (fun _ => rfl) (fun q => by omega) hq.1 hq.2.1 hq.2.2
    · rename_i c2
      exact h3 (fun q => c2 q.2)
  · rename_i c1
    exact h3 (fun q => c1 q.1)
set_option maxHeartbeats 600000 in
set_option maxRecDepth 100000 in
theorem lp_sz2 {M0 : px_mem} {v : Int} (hci : ci M0) (hkv : px_kd LAY v = 0) (hlv : px_ln LAY v = 40) (hv : v ≠ 106 ∧ v ≠ 107 ∧ v ≠ 108) (h : ∀ M' r, thrA M0 v r → (∀ b, b ≠ 106 → b ≠ 107 → b ≠ 108 → M' b = M0 b) → Q (some (0, r)) M') (k : Int) (hk_k : k ≤ 40) : ∀ (M : px_mem) (S : Int → Int) (s : Int), 0 ≤ k → s = sumA M0 v S k → s ≤ 400 ∧ 0 ≤ s → okA M0 v (M 108) S k → (∀ c, 0 ≤ c → c < 40 → (k ≤ c ∨ ¬ selA M0 v c) → M 108 c = -1) → (∀ b, b ≠ 106 → b ≠ 107 → b ≠ 108 → M b = M0 b) → px_WP 27 0 0 (px_Q0 LAY Q) 25 [(2, 56), (2, v), (0, s), (0, k), (9, 0)] [] LAY M 0 0 := by
  refine up_ind (P := fun k => ∀ (M : px_mem) (S : Int → Int) (s : Int), 0 ≤ k → s = sumA M0 v S k → s ≤ 400 ∧ 0 ≤ s → okA M0 v (M 108) S k → (∀ c, 0 ≤ c → c < 40 → (k ≤ c ∨ ¬ selA M0 v c) → M 108 c = -1) → (∀ b, b ≠ 106 → b ≠ 107 → b ≠ 108 → M b = M0 b) → px_WP 27 0 0 (px_Q0 LAY Q) 25 [(2, 56), (2, v), (0, s), (0, k), (9, 0)] [] LAY M 0 0) (40) (fun k hk_k ih => ?_) k hk_k
  intro M S s k0 hs hs4 hA hD hf
  have h62 := hf 62 (by decide) (by decide) (by decide)
  have h57 := hf 57 (by decide) (by decide) (by decide)
  have h105 := hf 105 (by decide) (by decide) (by decide)
  have hvv := hf v hv.1 hv.2.1 hv.2.2
  have hgf : px_gf LAY M 63 k = 64 + k := gf_63 M k
  refine px_go_ok (inl := [7]) 60 ?_
  simp only [px_go, px_Q0_at, px_sx_0, px_sx_s, px_cl, px_step, ↓px_ll, px_lg, f4_, ↓px_r1, ↓px_r2, ↓px_r4, ↓px_r5, ↓px_p1, ↓px_p2, ↓px_p3, ↓px_pop, px_k_0, px_k_s, px_k3_0, px_stk_, px_cats, px_ent, px_st1, px_st2, px_mask, ↓px_tsw, ↓px_lsw, ct_, mls_0, mls_1, mls_2, mls_3, mls_4, mls_5, kd_0, kd_1, kd_2, kd_3, ln_0, ln_1, ln_2, ln_3, gf_0, gf_1, gf_2, gf_3, gf_4, gf_7, gf_21, gf_63, dy_0, dy_1, dy_2, dy_3, dy_7, dy_21, px_brT, px_brF, true_and, and_true, and_false, false_and, and_self, true_implies, false_implies, or_true, true_or, or_false, false_or, eq_self, ne_eq, not_false_eq_true, not_true_eq_false, if_true, if_false, List.mem_cons, List.not_mem_nil, List.length_cons, List.length_nil, Nat.reduceEqDiff, Nat.reduceAdd, Nat.reduceSub, Nat.reduceLeDiff, Nat.reduceLT, Int.reduceEq, Int.reduceLT, Int.reduceLE, Int.reduceNeg, Int.reduceAdd, Int.reduceSub, Int.reduceToNat, ↓reduceIte, one_ne_zero_, zero_ne_one_, px_in32L, cd_27, cd_7, hkv, hlv]
  repeat' (first | (with_reducible apply And.intro) | (with_reducible refine px_br_intro (fun _ => ?_) (fun _ => ?_)))
  all_goals (try (first | (unfold px_in32; omega) | omega))
  · have e : k = 40 := by omega
    subst e
    exact h M s ⟨M 108, S, 40, by decide, by decide, hA, Or.inl ⟨rfl, by rw [← hs]; exact hs4.1, hs⟩⟩ hf
  · rename_i c1 c2
    have ns : ¬ selA M0 v k := fun q => by have := q.1; rw [h62] at c2; omega
    have hx := sumA_ext (M := M0) (v := v) (l := 0) (S := S) k0
    refine ih (by omega) M (fun x => if x = k then 0 else S x) s (by omega) (by rw [hx.2.2 ns]; exact hs) hs4 (okA_ext (d := 0) k0 hA (fun _ _ _ => rfl) (fun q => absurd q ns)) (fun c q0 q1 q2 => hD c q0 q1 ?_) hf
    by_cases e : c = k
    · subst e; exact Or.inr ns
    · rcases q2 with q2 | q2
      · exact Or.inl (by omega)
      · exact Or.inr q2
  · rename_i c1 c2 c3
    have ns : ¬ selA M0 v k := fun q => by have := q.2; rw [hvv] at c3; omega
    have hx := sumA_ext (M := M0) (v := v) (l := 0) (S := S) k0
    refine ih (by omega) M (fun x => if x = k then 0 else S x) s (by omega) (by rw [hx.2.2 ns]; exact hs) hs4 (okA_ext (d := 0) k0 hA (fun _ _ _ => rfl) (fun q => absurd q ns)) (fun c q0 q1 q2 => hD c q0 q1 ?_) hf
    by_cases e : c = k
    · subst e; exact Or.inr ns
    · rcases q2 with q2 | q2
      · exact Or.inl (by omega)
      · exact Or.inr q2
  · rename_i c1 c2 c3 c4
    exact h M (-2) ⟨M 108, S, k, k0, hk_k, hA, Or.inr (Or.inl ⟨by omega, by rw [← hs]; exact hs4.1, ⟨by rw [← h62]; omega, by rw [← hvv]; omega⟩, by rw [← h105]; exact c4, rfl⟩)⟩ hf
  · rename_i c1 c2 c3 c4
    have hsel : selA M0 v k := ⟨by rw [← h62]; omega, by rw [← hvv]; omega⟩
    have hk40 : k < 40 := by omega
    have hck := cokC (hci.1 k k0 hk40 hsel.1)
    have hr := row_lay (v := 64 + k) (Or.inr (by omega))
    have h64 := hf (64 + k) (by omega) (by omega) (by omega)
    have hbv : ∀ j, 0 ≤ j → j < M 57 k → 0 ≤ M (64 + k) j ∧ M (64 + k) j < 256 := by
      have g := hci.2.2.2.2 k k0 hk40 hsel.1
      rw [h57, h64]
      cases er : rd (cC M0) (M0 53) 5 k with
      | none => exact absurd (g.2 er).2 (by rw [← h105]; exact c4)
      | some l =>
        have g1 := (g.1 l er).2.1
        have g2 := (rd_rng hci.1 hci.2.1 5 k l k0 hk40 hsel.1 er).2
        intro j j0 j1
        exact g2 _ (by rw [← g1]; exact lst_mem.mpr ⟨j, j0, j1, rfl⟩)
    refine sp_bestBase hr.1 (by rw [hr.2, h57]; omega) (by omega) rfl rfl (by decide) (by rw [h57]; omega) (by rw [h57]; omega) (fun x x0 x1 x2 => ?_) hbv (fun M1 b l e1 e2 e3 => ?_)
    · by_cases e : k ≤ x ∨ ¬ selA M0 v x
      · have := hD x x0 x1 e; have := x2.1; omega
      · have hx : selA M0 v x := by
          by_cases q : selA M0 v x
          · exact q
          · exact absurd (Or.inr q) e
        have := cokC (hci.1 x x0 x1 hx.1)
        rw [h57]; omega
    · have f108 := e3 108 (by decide) (by decide)
      have f57 := e3 57 (by decide) (by decide)
      have hB : isBB (cndA M0 v (M 108) k) (fun x => ((pcs M0 (64 + k) (M0 57 k) x).length : Int)) (M0 57 k) 40 b l := by
        rw [h57] at e1
        refine isBB_congr (fun x x0 x1 => ?_) (fun x x0 x1 _ => ?_) e1
        · unfold cnd cndA
          rw [h105]
          constructor
          · rintro ⟨a1, a2, a3⟩
            by_cases e : k ≤ x ∨ ¬ selA M0 v x
            · have := hD x x0 x1 e; omega
            · refine ⟨by omega, ?_, a1, a2, a3⟩
              by_cases q : selA M0 v x
              · exact q
              · exact absurd (Or.inr q) e
          · rintro ⟨a1, a2, a3, a4, a5⟩
            exact ⟨a3, a4, a5⟩
        · unfold pcs
          rw [h64, hf (64 + x) (by omega) (by omega) (by omega), h57]
      have hl := isBB_l hB (fun x => Int.natCast_nonneg _) (by omega)
      have hlp : 0 ≤ b → M1 106 1 = l := fun q => (e2 q).1
      have hb3 : 0 ≤ b → 0 ≤ M 108 b ∧ M 108 b < 3 := fun q => by
        rcases hB with a | a
        · omega
        · exact ⟨a.2.2.1.2.2.1, a.2.2.1.2.2.2.1⟩
      have hx := sumA_ext (M := M0) (v := v) (l := l) (S := S) k0
      have hxs := hx.2.1 hsel
      have hfin : ∀ (M2 : px_mem), M2 108 k = (if b < 0 then 0 else M 108 b + 1) → (∀ x, x ≠ k → M2 108 x = M 108 x) → okA M0 v (M2 108) (fun x => if x = k then l else S x) (k + 1) := fun M2 q1 q2 =>
        okA_ext (d := 0) k0 hA (fun x x0 x1 => q2 x (by omega)) (fun _ => ⟨by rw [← h105]; exact c4, b, hB, q1⟩)
      have hD2 : ∀ (M2 : px_mem), (∀ x, x ≠ k → M2 108 x = M 108 x) → ∀ c, 0 ≤ c → c < 40 → (k + 1 ≤ c ∨ ¬ selA M0 v c) → M2 108 c = -1 := fun M2 q2 c q0 q1 q3 => by
        have : c ≠ k := fun e => by
          rw [e] at q3
          rcases q3 with q3 | q3
          · omega
          · exact q3 hsel
        rw [q2 c this]
        refine hD c q0 q1 ?_
        rcases q3 with q3 | q3
        · exact Or.inl (by omega)
        · exact Or.inr q3
      have h3r : s + l > 400 → ∀ M', (∀ b, b ≠ 106 → b ≠ 107 → b ≠ 108 → M' b = M0 b) → Q (some (0, -3)) M' := fun q M' hf' => by
        refine h M' (-3) ⟨fun x => if x = k then (if b < 0 then 0 else M 108 b + 1) else M 108 x, fun x => if x = k then l else S x, k + 1, by omega, by omega, okA_ext (d := 0) k0 hA (fun x x0 x1 => by rw [if_neg (by omega)]) (fun _ => ⟨by rw [← h105]; exact c4, b, hB, by rw [if_pos rfl]⟩), Or.inr (Or.inr ⟨by omega, ?_, ?_, by rw [show k + 1 - 1 = k by omega]; exact hsel, rfl⟩)⟩ hf'
        · rw [show k + 1 - 1 = k by omega, hx.1, ← hs]; exact hs4.1
        · rw [hxs, ← hs]; omega
      have hf1 : ∀ b, b ≠ 106 → b ≠ 107 → b ≠ 108 → M1 b = M0 b := fun b b0 b1 b2 => by rw [e3 b b0 b1]; exact hf b b0 b1 b2
      simp only [px_go, px_Q0_at, px_sx_0, px_sx_s, px_cl, px_step, ↓px_ll, px_lg, f4_, ↓px_r1, ↓px_r2, ↓px_r4, ↓px_r5, ↓px_p1, ↓px_p2, ↓px_p3, ↓px_pop, px_k_0, px_k_s, px_k3_0, px_stk_, px_cats, px_ent, px_st1, px_st2, px_mask, ↓px_tsw, ↓px_lsw, ct_, mls_0, mls_1, mls_2, mls_3, mls_4, mls_5, kd_0, kd_1, kd_2, kd_3, ln_0, ln_1, ln_2, ln_3, gf_0, gf_1, gf_2, gf_3, gf_4, gf_7, gf_21, gf_63, dy_0, dy_1, dy_2, dy_3, dy_7, dy_21, px_brT, px_brF, true_and, and_true, and_false, false_and, and_self, true_implies, false_implies, or_true, true_or, or_false, false_or, eq_self, ne_eq, not_false_eq_true, not_true_eq_false, if_true, if_false, List.mem_cons, List.not_mem_nil, List.length_cons, List.length_nil, Nat.reduceEqDiff, Nat.reduceAdd, Nat.reduceSub, Nat.reduceLeDiff, Nat.reduceLT, Int.reduceEq, Int.reduceLT, Int.reduceLE, Int.reduceNeg, Int.reduceAdd, Int.reduceSub, Int.reduceToNat, ↓reduceIte, one_ne_zero_, zero_ne_one_, px_in32L, cd_27, hkv, hlv]
      rw [f108, f57, h57]
      repeat' (first | (with_reducible apply And.intro) | (with_reducible refine px_br_intro (fun _ => ?_) (fun _ => ?_)))
      all_goals (try (first | (unfold px_in32; omega) | omega))
      · rename_i c5 c6 c7
        rw [hlp c5]
        refine ih (by omega) _ (fun x => if x = k then l else S x) (s + l) (by omega) (by rw [hxs, hs]) (by have := hlp c5; omega) (hfin _ ?_ ?_) (hD2 _ ?_) (fun b b0 b1 b2 => by rw [row_ne b2]; exact hf1 b b0 b1 b2)
        · rw [px_up_at, if_pos ⟨rfl, rfl⟩, if_neg (by omega)]
        · intro x hx; rw [px_up_at, if_neg (fun q => hx q.2), f108]
        · intro x hx; rw [px_up_at, if_neg (fun q => hx q.2), f108]
      · rename_i c5 c6
        exact h3r (by have := hlp c5; omega) M1 hf1
      · rename_i c5 c6 c7
        have el : l = M0 57 k := by omega
        rw [← el]
        refine ih (by omega) _ (fun x => if x = k then l else S x) (s + l) (by omega) (by rw [hxs, hs]) (by omega) (hfin _ ?_ ?_) (hD2 _ ?_) (fun b b0 b1 b2 => by rw [row_ne b2]; exact hf1 b b0 b1 b2)
        · rw [px_up_at, if_pos ⟨rfl, rfl⟩, if_pos (by omega)]
        · intro x hx; rw [px_up_at, if_neg (fun q => hx q.2), f108]
        · intro x hx; rw [px_up_at, if_neg (fun q => hx q.2), f108]
      · rename_i c5 c6
        exact h3r (by omega) M1 hf1
set_option maxHeartbeats 600000 in
set_option maxRecDepth 100000 in
theorem lp_sz1 {M0 : px_mem} {v : Int} (hci : ci M0) (hkv : px_kd LAY v = 0) (hlv : px_ln LAY v = 40) (hv : v ≠ 106 ∧ v ≠ 107 ∧ v ≠ 108) (h : ∀ M' r, thrA M0 v r → (∀ b, b ≠ 106 → b ≠ 107 → b ≠ 108 → M' b = M0 b) → Q (some (0, r)) M') (k : Int) (hk_k : k ≤ 40) : ∀ (M : px_mem), 0 ≤ k → (∀ c, 0 ≤ c → c < k → M 108 c = -1) → (∀ b, b ≠ 108 → M b = M0 b) → px_WP 27 0 0 (px_Q0 LAY Q) 2 [(2, 56), (2, v), (0, k), (9, 0), (9, 0)] [] LAY M 0 0 := by
  refine up_ind (P := fun k => ∀ (M : px_mem), 0 ≤ k → (∀ c, 0 ≤ c → c < k → M 108 c = -1) → (∀ b, b ≠ 108 → M b = M0 b) → px_WP 27 0 0 (px_Q0 LAY Q) 2 [(2, 56), (2, v), (0, k), (9, 0), (9, 0)] [] LAY M 0 0) (40) (fun k hk_k ih => ?_) k hk_k
  intro M k0 hD hf
  refine px_go_ok (inl := [7]) 60 ?_
  simp only [px_go, px_Q0_at, px_sx_0, px_sx_s, px_cl, px_step, ↓px_ll, px_lg, f4_, ↓px_r1, ↓px_r2, ↓px_r4, ↓px_r5, ↓px_p1, ↓px_p2, ↓px_p3, ↓px_pop, px_k_0, px_k_s, px_k3_0, px_stk_, px_cats, px_ent, px_st1, px_st2, px_mask, ↓px_tsw, ↓px_lsw, ct_, mls_0, mls_1, mls_2, mls_3, mls_4, mls_5, kd_0, kd_1, kd_2, kd_3, ln_0, ln_1, ln_2, ln_3, gf_0, gf_1, gf_2, gf_3, gf_4, gf_7, gf_21, gf_63, dy_0, dy_1, dy_2, dy_3, dy_7, dy_21, px_brT, px_brF, true_and, and_true, and_false, false_and, and_self, true_implies, false_implies, or_true, true_or, or_false, false_or, eq_self, ne_eq, not_false_eq_true, not_true_eq_false, if_true, if_false, List.mem_cons, List.not_mem_nil, List.length_cons, List.length_nil, Nat.reduceEqDiff, Nat.reduceAdd, Nat.reduceSub, Nat.reduceLeDiff, Nat.reduceLT, Int.reduceEq, Int.reduceLT, Int.reduceLE, Int.reduceNeg, Int.reduceAdd, Int.reduceSub, Int.reduceToNat, ↓reduceIte, one_ne_zero_, zero_ne_one_, px_in32L, cd_27, cd_7, hkv, hlv]
  repeat' (first | (with_reducible apply And.intro) | (with_reducible refine px_br_intro (fun _ => ?_) (fun _ => ?_)))
  all_goals (try (first | (unfold px_in32; omega) | omega))
  · have e : k = 40 := by omega
    subst e
    exact lp_sz2 hci hkv hlv hv h 0 (by decide) M (fun _ => 0) 0 (Int.le_refl 0) rfl (by decide) (fun c c0 c1 => by omega) (fun c c0 c1 _ => hD c c0 c1) (fun b _ _ b2 => hf b b2)
  · refine ih (by omega) _ (by omega) (fun c c0 c1 => ?_) (fun b b0 => by rw [row_ne b0]; exact hf b b0)
    rw [px_up_at]
    by_cases e : c = k
    · rw [if_pos ⟨rfl, e⟩]
    · rw [if_neg (fun q => e q.2)]; exact hD c c0 (by omega)
set_option maxHeartbeats 600000 in
set_option maxRecDepth 100000 in
theorem sp_sizeAnew {v : Int} (hci : ci M) (hkv : px_kd LAY v = 0) (hlv : px_ln LAY v = 40) (hv : v ≠ 106 ∧ v ≠ 107 ∧ v ≠ 108) (h : ∀ M' r, thrA M v r → (∀ b, b ≠ 106 → b ≠ 107 → b ≠ 108 → M' b = M b) → Q (some (0, r)) M') : px_Ok 27 [(2, 56), (2, v)] LAY M Q := by
  refine px_ok_go (inl := [7]) (ls0 := [(2, 56), (2, v), (9, 0), (9, 0), (9, 0)]) 60 (by decide) (Nat.le_of_ble_eq_true rfl) rfl ?_
  simp only [px_go, px_Q0_at, px_sx_0, px_sx_s, px_cl, px_step, ↓px_ll, px_lg, f4_, ↓px_r1, ↓px_r2, ↓px_r4, ↓px_r5, ↓px_p1, ↓px_p2, ↓px_p3, ↓px_pop, px_k_0, px_k_s, px_k3_0, px_stk_, px_cats, px_ent, px_st1, px_st2, px_mask, ↓px_tsw, ↓px_lsw, ct_, mls_0, mls_1, mls_2, mls_3, mls_4, mls_5, kd_0, kd_1, kd_2, kd_3, ln_0, ln_1, ln_2, ln_3, gf_0, gf_1, gf_2, gf_3, gf_4, gf_7, gf_21, gf_63, dy_0, dy_1, dy_2, dy_3, dy_7, dy_21, px_brT, px_brF, true_and, and_true, and_false, false_and, and_self, true_implies, false_implies, or_true, true_or, or_false, false_or, eq_self, ne_eq, not_false_eq_true, not_true_eq_false, if_true, if_false, List.mem_cons, List.not_mem_nil, List.length_cons, List.length_nil, Nat.reduceEqDiff, Nat.reduceAdd, Nat.reduceSub, Nat.reduceLeDiff, Nat.reduceLT, Int.reduceEq, Int.reduceLT, Int.reduceLE, Int.reduceNeg, Int.reduceAdd, Int.reduceSub, Int.reduceToNat, ↓reduceIte, one_ne_zero_, zero_ne_one_, px_in32L, cd_27, cd_7]
  repeat' (first | (with_reducible apply And.intro) | (with_reducible refine px_br_intro (fun _ => ?_) (fun _ => ?_)))
  all_goals (try (first | (unfold px_in32; omega) | omega))
  exact lp_sz1 hci hkv hlv hv h 0 (by decide) M (Int.le_refl 0) (fun c c0 c1 => by omega) (fun _ _ => rfl)
end PS
