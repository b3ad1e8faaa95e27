set_option maxRecDepth 100000 in
/-- X12_joins -/
theorem cd_243 : px_at 243 0 = some (1, [], .aload_n 0, []) ∧ px_at 243 1 = some (2, [], .iload_n 1, []) ∧ px_at 243 2 = some (5, [], .invokevirtual 298, [242, 1, 11, 286]) ∧ px_at 243 5 = some (6, [], .aload_n 0, []) ∧ px_at 243 6 = some (9, [], .getfield 66, [11, 25, 2, 1, 150]) ∧ px_at 243 9 = some (10, [], .iconst 0, []) ∧ px_at 243 10 = some (11, [], .iaload, []) ∧ px_at 243 11 = some (12, [], .istore_n 2, []) ∧ px_at 243 12 = some (13, [], .aload_n 0, []) ∧ px_at 243 13 = some (16, [], .getfield 66, [11, 25, 2, 1, 150]) ∧ px_at 243 16 = some (17, [], .iconst 1, []) ∧ px_at 243 17 = some (18, [], .iaload, []) ∧ px_at 243 18 = some (19, [], .istore_n 3, []) ∧ px_at 243 19 = some (20, [], .aload_n 0, []) ∧ px_at 243 20 = some (23, [], .getfield 66, [11, 25, 2, 1, 150]) ∧ px_at 243 23 = some (24, [], .iconst 2, []) ∧ px_at 243 24 = some (25, [], .iaload, []) ∧ px_at 243 25 = some (27, [], .istore 4, []) ∧ px_at 243 27 = some (29, [], .iload 4, []) ∧ px_at 243 29 = some (30, [], .iload_n 3, []) ∧ px_at 243 30 = some (33, [], .if_icmp .eq 18, [48]) ∧ px_at 243 33 = some (35, [], .iload 4, []) ∧ px_at 243 35 = some (36, [], .iload_n 2, []) ∧ px_at 243 36 = some (39, [], .if_icmp .eq 12, [48]) ∧ px_at 243 39 = some (40, [], .iload_n 3, []) ∧ px_at 243 40 = some (41, [], .iload_n 2, []) ∧ px_at 243 41 = some (44, [], .if_icmp .eq 7, [48]) ∧ px_at 243 44 = some (45, [], .iconst 1, []) ∧ px_at 243 45 = some (48, [], .goto 4, [49]) ∧ px_at 243 48 = some (49, [], .iconst 0, []) ∧ px_at 243 49 = some (51, [], .istore 5, []) ∧ px_at 243 51 = some (53, [], .iload 4, []) ∧ px_at 243 53 = some (54, [], .iload_n 3, []) ∧ px_at 243 54 = some (57, [], .if_icmp .eq 9, [63]) ∧ px_at 243 57 = some (59, [], .iload 4, []) ∧ px_at 243 59 = some (60, [], .iload_n 2, []) ∧ px_at 243 60 = some (63, [], .if_icmp .ne 7, [67]) ∧ px_at 243 63 = some (64, [], .iload_n 3, []) ∧ px_at 243 64 = some (67, [], .goto 25, [89]) ∧ px_at 243 67 = some (68, [], .iload_n 3, []) ∧ px_at 243 68 = some (69, [], .iload_n 2, []) ∧ px_at 243 69 = some (72, [], .if_icmp .ne 8, [77]) ∧ px_at 243 72 = some (74, [], .iload 4, []) ∧ px_at 243 74 = some (77, [], .goto 15, [89]) ∧ px_at 243 77 = some (78, [], .iload_n 3, []) ∧ px_at 243 78 = some (80, [], .bipush (-2), []) ∧ px_at 243 80 = some (83, [], .if_icmp .ne 8, [88]) ∧ px_at 243 83 = some (85, [], .iload 4, []) ∧ px_at 243 85 = some (88, [], .goto 4, [89]) ∧ px_at 243 88 = some (89, [], .iload_n 3, []) ∧ px_at 243 89 = some (91, [], .istore 6, []) ∧ px_at 243 91 = some (93, [], .iload 6, []) ∧ px_at 243 93 = some (95, [], .bipush (-2), []) ∧ px_at 243 95 = some (98, [], .if_icmp .eq 111, [206]) ∧ px_at 243 98 = some (99, [], .iconst 0, []) ∧ px_at 243 99 = some (101, [], .istore 7, []) ∧ px_at 243 101 = some (102, [], .iconst 0, []) ∧ px_at 243 102 = some (104, [], .istore 8, []) ∧ px_at 243 104 = some (106, [1, 1, 0, 0, 0, 1, 1, 1, 1], .iload 8, []) ∧ px_at 243 106 = some (107, [], .aload_n 0, []) ∧ px_at 243 107 = some (110, [], .getfield 301, [11, 26, 0, 0, 151]) ∧ px_at 243 110 = some (113, [], .if_icmp .ge 43, [153]) ∧ px_at 243 113 = some (115, [], .iload 7, []) ∧ px_at 243 115 = some (118, [], .ifCond .ne 25, [140]) ∧ px_at 243 118 = some (119, [], .aload_n 0, []) ∧ px_at 243 119 = some (122, [], .getfield 7, [11, 0, 2, 1, 125]) ∧ px_at 243 122 = some (123, [], .aload_n 0, []) ∧ px_at 243 123 = some (126, [], .getfield 54, [11, 21, 2, 1, 146]) ∧ px_at 243 126 = some (128, [], .iload 8, []) ∧ px_at 243 128 = some (129, [], .iaload, []) ∧ px_at 243 129 = some (130, [], .aload_n 0, []) ∧ px_at 243 130 = some (133, [], .getfield 7, [11, 0, 2, 1, 125]) ∧ px_at 243 133 = some (134, [], .iload_n 1, []) ∧ px_at 243 134 = some (137, [], .invokestatic 225, [184, 4, 11, 232]) ∧ px_at 243 137 = some (140, [], .ifCond .eq 7, [144]) ∧ px_at 243 140 = some (141, [], .iconst 1, []) ∧ px_at 243 141 = some (144, [], .goto 4, [145]) ∧ px_at 243 144 = some (145, [], .iconst 0, []) ∧ px_at 243 145 = some (147, [], .istore 7, []) ∧ px_at 243 147 = some (150, [], .iinc 8 1, []) ∧ px_at 243 150 = some (153, [], .goto (-46), [104]) ∧ px_at 243 153 = some (155, [], .iload 5, []) ∧ px_at 243 155 = some (158, [], .ifCond .ne 8, [163]) ∧ px_at 243 158 = some (160, [], .iload 7, []) ∧ px_at 243 160 = some (163, [], .ifCond .eq 7, [167]) ∧ px_at 243 163 = some (164, [], .iconst 1, []) ∧ px_at 243 164 = some (167, [], .goto 4, [168]) ∧ px_at 243 167 = some (168, [], .iconst 0, []) ∧ px_at 243 168 = some (170, [], .istore 5, []) ∧ px_at 243 170 = some (172, [], .iload 7, []) ∧ px_at 243 172 = some (175, [], .ifCond .ne 34, [206]) ∧ px_at 243 175 = some (176, [], .aload_n 0, []) ∧ px_at 243 176 = some (179, [], .getfield 54, [11, 21, 2, 1, 146]) ∧ px_at 243 179 = some (180, [], .aload_n 0, []) ∧ px_at 243 180 = some (183, [], .getfield 301, [11, 26, 0, 0, 151]) ∧ px_at 243 183 = some (184, [], .iload_n 1, []) ∧ px_at 243 184 = some (185, [], .iastore, []) ∧ px_at 243 185 = some (186, [], .aload_n 0, []) ∧ px_at 243 186 = some (189, [], .getfield 57, [11, 22, 2, 1, 147]) ∧ px_at 243 189 = some (190, [], .aload_n 0, []) ∧ px_at 243 190 = some (193, [], .getfield 301, [11, 26, 0, 0, 151]) ∧ px_at 243 193 = some (195, [], .iload 6, []) ∧ px_at 243 195 = some (196, [], .iastore, []) ∧ px_at 243 196 = some (197, [], .aload_n 0, []) ∧ px_at 243 197 = some (198, [], .aload_n 0, []) ∧ px_at 243 198 = some (201, [], .getfield 301, [11, 26, 0, 0, 151]) ∧ px_at 243 201 = some (202, [], .iconst 1, []) ∧ px_at 243 202 = some (203, [], .iadd, []) ∧ px_at 243 203 = some (206, [], .putfield 301, [11, 26, 0, 0, 151]) ∧ px_at 243 206 = some (208, [], .iload 5, []) ∧ px_at 243 208 = some (211, [], .ifCond .eq 13, [221]) ∧ px_at 243 211 = some (212, [], .aload_n 0, []) ∧ px_at 243 212 = some (213, [], .aload_n 0, []) ∧ px_at 243 213 = some (216, [], .getfield 304, [11, 27, 0, 0, 152]) ∧ px_at 243 216 = some (217, [], .iconst 1, []) ∧ px_at 243 217 = some (218, [], .iadd, []) ∧ px_at 243 218 = some (221, [], .putfield 304, [11, 27, 0, 0, 152]) ∧ px_at 243 221 = some (222, [], .return_, []) := ⟨rfl, rfl, rfl, rfl, rfl, rfl, rfl, rfl, rfl, rfl, rfl, rfl, rfl, rfl, rfl, rfl, rfl, rfl, rfl, rfl, rfl, rfl, rfl, rfl, rfl, rfl, rfl, rfl, rfl, rfl, rfl, rfl, rfl, rfl, rfl, rfl, rfl, rfl, rfl, rfl, rfl, rfl, rfl, rfl, rfl, rfl, rfl, rfl, rfl, rfl, rfl, rfl, rfl, rfl, rfl, rfl, rfl, rfl, rfl, rfl, rfl, rfl, rfl, rfl, rfl, rfl, rfl, rfl, rfl, rfl, rfl, rfl, rfl, rfl, rfl, rfl, rfl, rfl, rfl, rfl, rfl, rfl, rfl, rfl, rfl, rfl, rfl, rfl, rfl, rfl, rfl, rfl, rfl, rfl, rfl, rfl, rfl, rfl, rfl, rfl, rfl, rfl, rfl, rfl, rfl, rfl, rfl, rfl, rfl, rfl, rfl, rfl, rfl, rfl, rfl, rfl, rfl, rfl⟩
/-! the reference: lists merged -/
noncomputable def cAtK (Mc : px_mem) (pl : Int → Int → List Int) (s : Int) (P : List Int) : Int := if s < 0 then -2 else cAt Mc (Mc 21 s) (pl s) P
theorem cAtK_eo {Mc : px_mem} {pl : Int → Int → List Int} (hno : Mc 118 2 = 0) (s : Int) (P : List Int) : cAtK Mc pl s P = cAt Mc (eoF Mc s) (poF pl s) P := by
  unfold cAtK eoF poF
  by_cases q : s < 0
  · rw [if_pos q, if_pos q, if_pos q]
    unfold cAt
    rw [hno, idx_miss (fun j j0 j1 => by omega), if_pos (by decide)]
  · rw [if_neg q, if_neg q, if_neg q]
/-- three lists merged so far -/
def mgI (Mc : px_mem) (pl : Int → Int → List Int) (s a : Int → Int) (V : List (List Int)) : Prop :=
  (∀ k, 0 ≤ k → k < 3 → 0 ≤ a k ∧ a k ≤ nK Mc (s k)) ∧ V.Pairwise (fun a b => enc a < enc b) ∧
  (∀ p ∈ V, ∃ k j, 0 ≤ k ∧ k < 3 ∧ 0 ≤ j ∧ j < nK Mc (s k) ∧ pl (s k) j = p) ∧
  (∀ k j, 0 ≤ k → k < 3 → 0 ≤ j → j < nK Mc (s k) → (j < a k ↔ pl (s k) j ∈ V)) ∧
  (∀ k, 0 ≤ k → k < 3 → a k < nK Mc (s k) → ∀ q ∈ V, enc q < enc (pl (s k) (a k))) ∧ (V.length : Int) ≤ a 0 + a 1 + a 2
theorem pl_lt {Mc : px_mem} {pl : Int → Int → List Int} {nm : Int → List Int} {s : Int} (hed : edA Mc pl nm) (hs : sOk Mc s) {i j : Int} (i0 : 0 ≤ i) (i1 : i < j) (j1 : j < nK Mc s) : enc (pl s i) < enc (pl s j) := by
  rcases hs with z | z
  · rw [nK_no (by omega)] at j1; omega
  · rw [nK_at z.1] at j1; exact rbG_srt hed z.1 z.2 i j i0 i1 j1
theorem mg_at {Mc : px_mem} {pl : Int → Int → List Int} {nm : Int → List Int} {s a : Int → Int} {V : List (List Int)} {P : List Int} (hed : edA Mc pl nm) (hs : ∀ k, 0 ≤ k → k < 3 → sOk Mc (s k)) (h : mgI Mc pl s a V) (hV : ∀ q ∈ V, enc q < enc P) (hmin : ∀ j, 0 ≤ j → j < 3 → a j < nK Mc (s j) → enc P ≤ enc (pl (s j) (a j))) {k : Int} (k0 : 0 ≤ k) (k1 : k < 3) : ∀ j, 0 ≤ j → j < nK Mc (s k) → pl (s k) j = P → j = a k ∧ tkN Mc pl (s k) (a k) P := by
  intro j j0 j1 e
  have hn : ¬ j < a k := fun z => by
    have := (h.2.2.2.1 k j k0 k1 j0 j1).mp z
    rw [e] at this
    have := hV P this
    omega
  have hn2 : ¬ a k < j := fun z => by
    have h1 := hmin k k0 k1 (by omega)
    have h2 := pl_lt hed (hs k k0 k1) (h.1 k k0 k1).1 z j1
    rw [e] at h2
    omega
  have e2 : j = a k := by omega
  exact ⟨e2, by rw [← e2]; exact j1, by rw [← e2]; exact e⟩
theorem mg_c {Mc : px_mem} {pl : Int → Int → List Int} {nm : Int → List Int} {s a : Int → Int} {V : List (List Int)} {P : List Int} (hed : edA Mc pl nm) (hs : ∀ k, 0 ≤ k → k < 3 → sOk Mc (s k)) (h : mgI Mc pl s a V) (hV : ∀ q ∈ V, enc q < enc P) (hmin : ∀ j, 0 ≤ j → j < 3 → a j < nK Mc (s j) → enc P ≤ enc (pl (s j) (a j))) {k : Int} (k0 : 0 ≤ k) (k1 : k < 3) : tkC Mc pl (s k) (a k) P = cAtK Mc pl (s k) P := by
  have hat := mg_at hed hs h hV hmin k0 k1
  unfold cAtK
  rcases hs k k0 k1 with z | z
  · rw [if_pos (by omega), tkC_f]
    intro y
    have h1 := y.1
    have := (h.1 k k0 k1).1
    rw [nK_no (by omega)] at h1
    omega
  · rw [if_neg (by omega)]
    by_cases q : tkN Mc pl (s k) (a k) P
    · rw [tkC_t q]
      unfold cAt
      have h1 := q.1
      rw [nK_at z.1] at h1
      have hi : idx (Mc (Mc 21 (s k)) 2) (fun j => pl (s k) j = P) = a k := idx_hit (h.1 k k0 k1).1 h1 q.2 (fun j j0 j1 e => by
        have := (hat j j0 (by rw [nK_at z.1]; omega) e).1
        omega)
      rw [hi, if_neg (by have := (h.1 k k0 k1).1; omega)]
    · rw [tkC_f q]
      unfold cAt
      rw [idx_miss (fun j j0 j1 e => q (hat j j0 (by rw [nK_at z.1]; exact j1) e).2), if_pos (by decide)]
theorem mg_step {Mc : px_mem} {pl : Int → Int → List Int} {nm : Int → List Int} {s a a' : Int → Int} {V : List (List Int)} {P : List Int} (hed : edA Mc pl nm) (hs : ∀ k, 0 ≤ k → k < 3 → sOk Mc (s k)) (h : mgI Mc pl s a V) (hmin : ∀ j, 0 ≤ j → j < 3 → a j < nK Mc (s j) → enc P ≤ enc (pl (s j) (a j))) {i : Int} (i0 : 0 ≤ i) (i1 : i < 3) (hi : a i < nK Mc (s i)) (hP : pl (s i) (a i) = P) (ha' : ∀ k, 0 ≤ k → k < 3 → a' k = a k + b1 (tkN Mc pl (s k) (a k) P)) (hinj : ∀ k j, 0 ≤ k → k < 3 → 0 ≤ j → j < nK Mc (s k) → enc (pl (s k) j) = enc P → pl (s k) j = P) : mgI Mc pl s a' (V ++ [P]) ∧ a 0 + a 1 + a 2 + 1 ≤ a' 0 + a' 1 + a' 2 := by
  have hV : ∀ q ∈ V, enc q < enc P := by rw [← hP]; exact h.2.2.2.2.1 i i0 i1 hi
  have hat := fun k k0 k1 => mg_at (k := k) hed hs h hV hmin k0 k1
  have hsum : a 0 + a 1 + a 2 + 1 ≤ a' 0 + a' 1 + a' 2 := by
    have e0 := ha' 0 (by decide) (by decide)
    have e1 := ha' 1 (by decide) (by decide)
    have e2 := ha' 2 (by decide) (by decide)
    have r0 := b1_rng (tkN Mc pl (s 0) (a 0) P)
    have r1 := b1_rng (tkN Mc pl (s 1) (a 1) P)
    have r2 := b1_rng (tkN Mc pl (s 2) (a 2) P)
    have ei : b1 (tkN Mc pl (s i) (a i) P) = 1 := b1_t ⟨hi, hP⟩
    rcases (by omega : i = 0 ∨ i = 1 ∨ i = 2) with q | q | q <;> subst q <;> omega
  refine ⟨⟨fun k k0 k1 => ?_, ?_, fun p hp => ?_, fun k j k0 k1 j0 j1 => ?_, fun k k0 k1 hk q hq => ?_, ?_⟩, hsum⟩
  · rw [ha' k k0 k1]
    have h1 := h.1 k k0 k1
    by_cases q : tkN Mc pl (s k) (a k) P
    · rw [b1_t q]; have := q.1; omega
    · rw [b1_f q]; omega
  · rw [List.pairwise_append]
    exact ⟨h.2.1, List.pairwise_singleton _ _, fun x hx y hy => by rw [List.mem_singleton] at hy; rw [hy]; exact hV x hx⟩
  · rcases List.mem_append.mp hp with q | q
    · exact h.2.2.1 p q
    · rw [List.mem_singleton] at q
      exact ⟨i, a i, i0, i1, (h.1 i i0 i1).1, hi, by rw [q]; exact hP⟩
  · rw [ha' k k0 k1, List.mem_append, List.mem_singleton, ← h.2.2.2.1 k j k0 k1 j0 j1]
    by_cases q : tkN Mc pl (s k) (a k) P
    · rw [b1_t q]
      constructor
      · intro z
        by_cases e : j = a k
        · right; rw [e]; exact q.2
        · left; omega
      · rintro (z | z)
        · omega
        · have := (hat k k0 k1 j j0 j1 z).1; omega
    · rw [b1_f q]
      constructor
      · intro z; left; omega
      · rintro (z | z)
        · omega
        · exact absurd (hat k k0 k1 j j0 j1 z).2 q
  · rw [ha' k k0 k1] at hk ⊢
    have hPk : enc P < enc (pl (s k) (a k + b1 (tkN Mc pl (s k) (a k) P))) := by
      by_cases y : tkN Mc pl (s k) (a k) P
      · rw [b1_t y] at hk ⊢
        have := pl_lt hed (hs k k0 k1) (h.1 k k0 k1).1 (show a k < a k + 1 by omega) hk
        rw [y.2] at this
        exact this
      · rw [b1_f y, Int.add_zero] at hk ⊢
        have h1 := hmin k k0 k1 hk
        rcases (by omega : enc P < enc (pl (s k) (a k)) ∨ enc (pl (s k) (a k)) = enc P) with z | z
        · exact z
        · exact absurd ⟨hk, hinj k (a k) k0 k1 (h.1 k k0 k1).1 hk z⟩ y
    rcases List.mem_append.mp hq with z | z
    · have := hV q z; omega
    · rw [List.mem_singleton] at z; rw [z]; exact hPk
  · rw [List.length_append]
    have := h.2.2.2.2.2
    simp only [List.length_cons, List.length_nil]
    omega
/-- what came of a join so far, in the reference's rows -/
def rJ (M : px_mem) (J : List (List Int × Int)) : Prop := M 127 26 = (J.length : Int) ∧ ∀ (i : Nat) (x : List Int × Int), J[i]? = some x → (pok (M 128) (M 142 i) 3154 ∧ 654 ≤ M 142 i ∧ fp (M 128) (M 142 i) = x.1) ∧ M 143 i = x.2
theorem rJ_snoc {M M' : px_mem} {J : List (List Int × Int)} {x : List Int × Int} {e : Int} (h : rJ M J) (he : pok (M 128) e 3154 ∧ 654 ≤ e ∧ fp (M 128) e = x.1) (h1 : M' 127 26 = (J.length : Int) + 1) (h0 : M' 128 = M 128) (h2 : ∀ i, M' 142 i = if i = (J.length : Int) then e else M 142 i) (h3 : ∀ i, M' 143 i = if i = (J.length : Int) then x.2 else M 143 i) : rJ M' (J ++ [x]) := by
  refine ⟨by rw [h1, List.length_append]; rfl, fun i y hy => ?_⟩
  rw [h0]
  by_cases q : i < J.length
  · rw [List.getElem?_append_left q] at hy
    rw [h2, h3, if_neg (by omega), if_neg (by omega)]
    exact h.2 i y hy
  · rw [List.getElem?_append_right (by omega)] at hy
    have e2 : i - J.length = 0 := by
      by_cases q2 : i - J.length = 0
      · exact q2
      · rw [List.getElem?_eq_none (by simp; omega)] at hy; cases hy
    rw [e2] at hy
    injection hy with hy
    rw [h2, h3, if_pos (by omega), if_pos (by omega), ← hy]
    exact ⟨he, rfl⟩
theorem rJ_frame {M' M : px_mem} {J : List (List Int × Int)} (h : rJ M J) (h1 : M' 127 26 = M 127 26) (h0 : M' 128 = M 128) (h2 : M' 142 = M 142) (h3 : M' 143 = M 143) : rJ M' J := ⟨by rw [h1]; exact h.1, fun i x hx => by rw [h0, h2, h3]; exact h.2 i x hx⟩
/-- what a step of a join leaves alone -/
def frJ (M' M : px_mem) : Prop := (∀ j, j ≠ 26 → j ≠ 27 → M' 127 j = M 127 j) ∧ ∀ b, b ≠ 127 → b ≠ 142 → b ≠ 143 → b ≠ 144 → b ≠ 146 → M' b = M b
theorem frJ_refl (M : px_mem) : frJ M M := ⟨fun _ _ _ => rfl, fun _ _ _ _ _ _ => rfl⟩
theorem frJ_trans {A B C : px_mem} (h : frJ A B) (h2 : frJ B C) : frJ A C := ⟨fun j a b => (h.1 j a b).trans (h2.1 j a b), fun b a0 a1 a2 a3 a4 => (h.2 b a0 a1 a2 a3 a4).trans (h2.2 b a0 a1 a2 a3 a4)⟩
section PS
variable {M : px_mem} {Q : Option pv → px_mem → Prop}
set_option maxHeartbeats 600000 in
set_option maxRecDepth 100000 in
theorem lp_joins {e is cf c : Int} {P : List Int} {J : List (List Int × Int)} (hJ : rJ M J) (hJl : J.length < 36) (hJn : ∀ q ∈ J, q.1 ≠ []) (hc : M 127 27 = c ∧ 0 ≤ c ∧ c ≤ 1000) (he : pok (M 128) e 3154 ∧ 654 ≤ e ∧ fp (M 128) e = P) (hPn : P ≠ []) (hcf : cf = 0 ∨ cf = 1) (hL : ∀ M', (∃ q ∈ J, mt q.1 P) → rJ M' J → M' 127 27 = c + 1 → frJ M' M → M' 144 = M 144 → Q none M') (hA : ∀ M', ¬ (∃ q ∈ J, mt q.1 P) → rJ M' (J ++ [(P, is)]) → M' 127 27 = c + cf → frJ M' M → M' 144 = M 144 → Q none M') (k : Int) (hk_k : k ≤ (J.length:Int)) : ∀ m, 0 ≤ k → ((m = 0 ∧ ∀ (i : Nat) (x : List Int × Int), (i : Int) < k → J[i]? = some x → ¬ mt x.1 P) ∨ (m = 1 ∧ ∃ q ∈ J, mt q.1 P)) → px_WP 243 0 0 (px_Q0 LAY Q) 104 [(2, 127), (0, e), (9, 0), (9, 0), (9, 0), (0, cf), (0, is), (0, m), (0, k)] [] LAY M 0 0 := by
  refine up_ind (P := fun k => ∀ m, 0 ≤ k → ((m = 0 ∧ ∀ (i : Nat) (x : List Int × Int), (i : Int) < k → J[i]? = some x → ¬ mt x.1 P) ∨ (m = 1 ∧ ∃ q ∈ J, mt q.1 P)) → px_WP 243 0 0 (px_Q0 LAY Q) 104 [(2, 127), (0, e), (9, 0), (9, 0), (9, 0), (0, cf), (0, is), (0, m), (0, k)] [] LAY M 0 0) ((J.length:Int)) (fun k hk_k ih => ?_) k hk_k
  intro m k0 hm
  have hM := hJ.1
  have hc1 := hc.1
  have hno : k = (J.length : Int) → m = 0 → ¬ ∃ q ∈ J, mt q.1 P := fun ek em ⟨q, hq, hq2⟩ => by
    rcases hm with z | z
    · obtain ⟨i, hi⟩ := List.getElem?_of_mem hq
      have hlt := (List.getElem?_eq_some_iff.mp hi).1
      exact z.2 i q (by omega) hi hq2
    · omega
  have hyes : ¬ m = 0 → ∃ q ∈ J, mt q.1 P := fun em => by
    rcases hm with z | z
    · exact absurd z.1 em
    · exact z.2
  have hAdd : k = (J.length : Int) → m = 0 → ∀ M' : px_mem, M' 127 26 = (J.length : Int) + 1 → M' 127 27 = c + cf → (∀ j, j ≠ 26 → j ≠ 27 → M' 127 j = M 127 j) → (∀ i, M' 142 i = if i = (J.length : Int) then e else M 142 i) → (∀ i, M' 143 i = if i = (J.length : Int) then is else M 143 i) → (∀ b, b ≠ 127 → b ≠ 142 → b ≠ 143 → M' b = M b) → Q none M' := fun ek em M' q1 q2 q3 q4 q5 q6 =>
    hA M' (hno ek em) (rJ_snoc hJ he q1 (q6 128 (by decide) (by decide) (by decide)) q4 q5) q2 ⟨q3, fun b b0 b1' b2 _ _ => q6 b b0 b1' b2⟩ (q6 144 (by decide) (by decide) (by decide))
  have hLv : ¬ m = 0 → Q none (px_up M 127 27 (c + 1)) := fun em =>
    hL _ (hyes em) (rJ_frame hJ (by rw [px_up_at, if_neg (by decide)]) (row_ne (by decide)) (row_ne (by decide)) (row_ne (by decide))) (by rw [px_up_at, if_pos ⟨rfl, rfl⟩]) ⟨fun j _ j1 => by rw [px_up_at, if_neg (fun z => j1 z.2)], fun b b0 _ _ _ _ => row_ne b0⟩ (row_ne (by decide))
  refine px_go_ok (inl := []) 60 ?_
  simp only [px_go, px_Q0_at, px_sx_0, px_sx_s, px_cl, px_step, ↓px_ll, px_lg, f4_, ↓px_r1, ↓px_r2, ↓px_r4, ↓px_r5, ↓px_p1, ↓px_p2, ↓px_p3, ↓px_pop, px_k_0, px_k_s, px_k3_0, px_stk_, px_cats, px_ent, px_st1, px_st2, px_mask, ↓px_tsw, ↓px_lsw, ct_, mls_0, mls_1, mls_2, mls_3, mls_4, mls_5, kd_0, kd_1, kd_2, kd_3, ln_0, ln_1, ln_2, ln_3, gf_0, gf_1, gf_2, gf_3, gf_4, gf_7, gf_21, gf_63, dy_0, dy_1, dy_2, dy_3, dy_7, dy_21, px_brT, px_brF, true_and, and_true, and_false, false_and, and_self, true_implies, false_implies, or_true, true_or, or_false, false_or, eq_self, ne_eq, not_false_eq_true, not_true_eq_false, if_true, if_false, List.mem_cons, List.not_mem_nil, List.length_cons, List.length_nil, Nat.reduceEqDiff, Nat.reduceAdd, Nat.reduceSub, Nat.reduceLeDiff, Nat.reduceLT, Int.reduceEq, Int.reduceLT, Int.reduceLE, Int.reduceNeg, Int.reduceAdd, Int.reduceSub, Int.reduceToNat, ↓reduceIte, one_ne_zero_, zero_ne_one_, px_in32L, cd_243, hM, hc1, px_up_at]
  repeat' (first | (with_reducible apply And.intro) | (with_reducible refine px_br_intro (fun _ => ?_) (fun _ => ?_)))
  all_goals (try (first | (unfold px_in32; omega) | omega))
  · rename_i c1 c2 c3
    refine hAdd (by omega) c3 _ (by rw [px_up_at, if_pos ⟨rfl, rfl⟩]) ?_ (fun j j0 j1 => ?_) (fun i => ?_) (fun i => ?_) (fun b b0 b1' b2 => by rw [row_ne b0, row_ne b2, row_ne b1'])
    · rw [px_up_at, if_neg (by decide), row_ne (by decide), row_ne (by decide)]; omega
    · rw [px_up_at, if_neg (fun z => j0 z.2), row_ne (by decide), row_ne (by decide)]
    · rw [row_ne (by decide), row_ne (by decide), px_up_at]
      by_cases q : i = (J.length : Int)
      · rw [if_pos ⟨rfl, q⟩, if_pos q]
      · rw [if_neg (fun z => q z.2), if_neg q]
    · rw [row_ne (by decide), px_up_at]
      by_cases q : i = (J.length : Int)
      · rw [if_pos ⟨rfl, q⟩, if_pos q]
      · rw [if_neg (fun z => q z.2), if_neg q, row_ne (by decide)]
  · rename_i c1 c2 c3 c4
    exact hLv c3
  · rename_i c1 c2 c3
    refine hAdd (by omega) c3 _ ?_ ?_ (fun j j0 j1 => ?_) (fun i => ?_) (fun i => ?_) (fun b b0 b1' b2 => by rw [row_ne b0, row_ne b0, row_ne b2, row_ne b1'])
    · rw [px_up_at, if_neg (by decide), px_up_at, if_pos ⟨rfl, rfl⟩]
    · rw [px_up_at, if_pos ⟨rfl, rfl⟩]; omega
    · rw [px_up_at, if_neg (fun z => j1 z.2), px_up_at, if_neg (fun z => j0 z.2), row_ne (by decide), row_ne (by decide)]
    · rw [row_ne (by decide), row_ne (by decide), row_ne (by decide), px_up_at]
      by_cases q : i = (J.length : Int)
      · rw [if_pos ⟨rfl, q⟩, if_pos q]
      · rw [if_neg (fun z => q z.2), if_neg q]
    · rw [row_ne (by decide), row_ne (by decide), px_up_at]
      by_cases q : i = (J.length : Int)
      · rw [if_pos ⟨rfl, q⟩, if_pos q]
      · rw [if_neg (fun z => q z.2), if_neg q, row_ne (by decide)]
  · rename_i c1 c2 c3
    exact hLv c3
  · rename_i c1 c2
    have hg : J[k.toNat]? = some (J[k.toNat]'(by omega)) := List.getElem?_eq_getElem (by omega)
    have hmem : J[k.toNat]'(by omega) ∈ J := List.getElem_mem _
    generalize J[k.toNat]'(by omega) = x at *
    have f := hJ.2 k.toNat x hg
    rw [Int.toNat_of_nonneg k0] at f
    refine sp_areMeeting rfl rfl f.1.1 he.1 ⟨by decide, by decide⟩ (fp_pos (by rw [f.1.2.2]; exact hJn x hmem)) (fp_pos (by rw [he.2.2]; exact hPn)) (fun w => ?_) (fun w => ?_)
    · rw [f.1.2.2, he.2.2] at w
      simp only [px_go, px_Q0_at, px_sx_0, px_sx_s, px_cl, px_step, ↓px_ll, px_lg, f4_, ↓px_r1, ↓px_r2, ↓px_r4, ↓px_r5, ↓px_p1, ↓px_p2, ↓px_p3, ↓px_pop, px_k_0, px_k_s, px_k3_0, px_stk_, px_cats, px_ent, px_st1, px_st2, px_mask, ↓px_tsw, ↓px_lsw, ct_, mls_0, mls_1, mls_2, mls_3, mls_4, mls_5, kd_0, kd_1, kd_2, kd_3, ln_0, ln_1, ln_2, ln_3, gf_0, gf_1, gf_2, gf_3, gf_4, gf_7, gf_21, gf_63, dy_0, dy_1, dy_2, dy_3, dy_7, dy_21, px_brT, px_brF, true_and, and_true, and_false, false_and, and_self, true_implies, false_implies, or_true, true_or, or_false, false_or, eq_self, ne_eq, not_false_eq_true, not_true_eq_false, if_true, if_false, List.mem_cons, List.not_mem_nil, List.length_cons, List.length_nil, Nat.reduceEqDiff, Nat.reduceAdd, Nat.reduceSub, Nat.reduceLeDiff, Nat.reduceLT, Int.reduceEq, Int.reduceLT, Int.reduceLE, Int.reduceNeg, Int.reduceAdd, Int.reduceSub, Int.reduceToNat, ↓reduceIte, one_ne_zero_, zero_ne_one_, px_in32L, cd_243]
      repeat' (first | (with_reducible apply And.intro) | (with_reducible refine px_br_intro (fun _ => ?_) (fun _ => ?_)))
      all_goals (try (first | (unfold px_in32; omega) | omega))
      exact ih (by omega) 1 (by omega) (Or.inr ⟨rfl, x, hmem, w⟩)
    · rw [f.1.2.2, he.2.2] at w
      simp only [px_go, px_Q0_at, px_sx_0, px_sx_s, px_cl, px_step, ↓px_ll, px_lg, f4_, ↓px_r1, ↓px_r2, ↓px_r4, ↓px_r5, ↓px_p1, ↓px_p2, ↓px_p3, ↓px_pop, px_k_0, px_k_s, px_k3_0, px_stk_, px_cats, px_ent, px_st1, px_st2, px_mask, ↓px_tsw, ↓px_lsw, ct_, mls_0, mls_1, mls_2, mls_3, mls_4, mls_5, kd_0, kd_1, kd_2, kd_3, ln_0, ln_1, ln_2, ln_3, gf_0, gf_1, gf_2, gf_3, gf_4, gf_7, gf_21, gf_63, dy_0, dy_1, dy_2, dy_3, dy_7, dy_21, px_brT, px_brF, true_and, and_true, and_false, false_and, and_self, true_implies, false_implies, or_true, true_or, or_false, false_or, eq_self, ne_eq, not_false_eq_true, not_true_eq_false, if_true, if_false, List.mem_cons, List.not_mem_nil, List.length_cons, List.length_nil, Nat.reduceEqDiff, Nat.reduceAdd, Nat.reduceSub, Nat.reduceLeDiff, Nat.reduceLT, Int.reduceEq, Int.reduceLT, Int.reduceLE, Int.reduceNeg, Int.reduceAdd, Int.reduceSub, Int.reduceToNat, ↓reduceIte, one_ne_zero_, zero_ne_one_, px_in32L, cd_243]
      repeat' (first | (with_reducible apply And.intro) | (with_reducible refine px_br_intro (fun _ => ?_) (fun _ => ?_)))
      all_goals (try (first | (unfold px_in32; omega) | omega))
      refine ih (by omega) 0 (by omega) (Or.inl ⟨rfl, fun i y i0 hy => ?_⟩)
      rcases hm with z | z
      · by_cases q : (i : Int) = k
        · have e2 : i = k.toNat := by omega
          rw [e2, hg] at hy
          injection hy with hy
          rw [← hy]; exact w
        · exact z.2 i y (by omega) hy
      · omega
  · rename_i c1 c2
    exact ih (by omega) 1 (by omega) (Or.inr ⟨rfl, hyes c2⟩)
set_option maxHeartbeats 600000 in
set_option maxRecDepth 100000 in
theorem sp_joins {Mc : px_mem} {e c : Int} {P : List Int} {J : List (List Int × Int)} {pl : Int → Int → List Int} {nm : Int → List Int} (hT : TE Mc pl nm (M 128)) (hs : ∀ k, 0 ≤ k → k < 3 → sOk Mc (M 145 k)) (ha : ∀ k, 0 ≤ k → k < 3 → 0 ≤ M 144 k ∧ M 144 k ≤ 12) (hJ : rJ M J) (hJl : J.length < 36) (hJn : ∀ q ∈ J, q.1 ≠ []) (hc : M 127 27 = c ∧ 0 ≤ c ∧ c ≤ 900) (he : pok (M 128) e 3154 ∧ 654 ≤ e ∧ fp (M 128) e = P) (hok : okp P) (hPn : P ≠ []) (h : ∀ M', rJ M' (jst (tkC Mc pl (M 145 0) (M 144 0) P) (tkC Mc pl (M 145 1) (M 144 1) P) (tkC Mc pl (M 145 2) (M 144 2) P) P (J, c)).1 → M' 127 27 = (jst (tkC Mc pl (M 145 0) (M 144 0) P) (tkC Mc pl (M 145 1) (M 144 1) P) (tkC Mc pl (M 145 2) (M 144 2) P) P (J, c)).2 → (∀ j, 0 ≤ j → j < 3 → M' 144 j = M 144 j + b1 (tkN Mc pl (M 145 j) (M 144 j) P)) → frJ M' M → Q none M') : px_Ok 243 [(2, 127), (0, e)] LAY M Q := by
  refine px_ok_go (inl := []) (ls0 := [(2, 127), (0, e), (9, 0), (9, 0), (9, 0), (9, 0), (9, 0), (9, 0), (9, 0)]) 120 (by decide) (Nat.le_of_ble_eq_true rfl) rfl ?_
  simp only [px_go, px_Q0_at, px_sx_0, px_sx_s, px_cl, px_step, ↓px_ll, px_lg, f4_, ↓px_r1, ↓px_r2, ↓px_r4, ↓px_r5, ↓px_p1, ↓px_p2, ↓px_p3, ↓px_pop, px_k_0, px_k_s, px_k3_0, px_stk_, px_cats, px_ent, px_st1, px_st2, px_mask, ↓px_tsw, ↓px_lsw, ct_, mls_0, mls_1, mls_2, mls_3, mls_4, mls_5, kd_0, kd_1, kd_2, kd_3, ln_0, ln_1, ln_2, ln_3, gf_0, gf_1, gf_2, gf_3, gf_4, gf_7, gf_21, gf_63, dy_0, dy_1, dy_2, dy_3, dy_7, dy_21, px_brT, px_brF, true_and, and_true, and_false, false_and, and_self, true_implies, false_implies, or_true, true_or, or_false, false_or, eq_self, ne_eq, not_false_eq_true, not_true_eq_false, if_true, if_false, List.mem_cons, List.not_mem_nil, List.length_cons, List.length_nil, Nat.reduceEqDiff, Nat.reduceAdd, Nat.reduceSub, Nat.reduceLeDiff, Nat.reduceLT, Int.reduceEq, Int.reduceLT, Int.reduceLE, Int.reduceNeg, Int.reduceAdd, Int.reduceSub, Int.reduceToNat, ↓reduceIte, one_ne_zero_, zero_ne_one_, px_in32L, cd_243]
  repeat' (first | (with_reducible apply And.intro) | (with_reducible refine px_br_intro (fun _ => ?_) (fun _ => ?_)))
  all_goals (try (first | (unfold px_in32; omega) | omega))
  have hr : ∀ k, 0 ≤ k → k < 3 → tkC Mc pl (M 145 k) (M 144 k) P = -2 ∨ 0 ≤ tkC Mc pl (M 145 k) (M 144 k) P := fun k k0 k1 => by
    by_cases q : tkN Mc pl (M 145 k) (M 144 k) P
    · rw [tkC_t q]
      have hk := hs k k0 k1
      have ha := ha k k0 k1
      rcases hk with z | z
      · have := q.1
        rw [z, nK_no (by decide)] at this; omega
      · have h1 := q.1
        rw [nK_at z.1] at h1
        exact Or.inr (TE_ent hT z.1 z.2 ha.1 h1).2.2.2.1
    · rw [tkC_f q]; exact Or.inl rfl
  have r0 := hr 0 (by decide) (by decide)
  have r1 := hr 1 (by decide) (by decide)
  have r2 := hr 2 (by decide) (by decide)
  refine sp_takesEntry hT hs ha he.1 he.2.2 hok (fun M1 a1 a2 a3 => ?_)
  have e0 := a1 0 (by decide) (by decide)
  have e1 := a1 1 (by decide) (by decide)
  have e2 := a1 2 (by decide) (by decide)
  generalize tkC Mc pl (M 145 0) (M 144 0) P = o at *
  generalize tkC Mc pl (M 145 1) (M 144 1) P = x at *
  generalize tkC Mc pl (M 145 2) (M 144 2) P = y at *
  have f127 : M1 127 = M 127 := a3 127 (by decide) (by decide)
  have f128 : M1 128 = M 128 := a3 128 (by decide) (by decide)
  have hJ1 : rJ M1 J := rJ_frame hJ (by rw [f127]) f128 (a3 142 (by decide) (by decide)) (a3 143 (by decide) (by decide))
  have hc1 : M1 127 27 = c := by rw [f127]; exact hc.1
  have fr1 : frJ M1 M := ⟨fun j _ _ => by rw [f127], fun b b0 _ _ b3 b4 => a3 b b3 b4⟩
  have hN : isV o x y = -2 → cfV o x y = 0 → Q none M1 := fun z1 z2 => by
    rw [jst_N (by omega), z2, Int.add_zero] at h
    exact h M1 hJ1 hc1 a2 fr1
  have hN1 : isV o x y = -2 → cfV o x y = 1 → Q none (px_up M1 127 27 (c + 1)) := fun z1 z2 => by
    rw [jst_N (by omega), z2] at h
    exact h _ (rJ_frame hJ1 (by rw [px_up_at, if_neg (by decide)]) (row_ne (by decide)) (row_ne (by decide)) (row_ne (by decide))) (by rw [px_up_at, if_pos ⟨rfl, rfl⟩]) (fun j j0 j1 => by rw [row_ne (by decide)]; exact a2 j j0 j1) (frJ_trans ⟨fun j _ j1 => by rw [px_up_at, if_neg (fun z => j1 z.2)], fun b b0 _ _ _ _ => row_ne b0⟩ fr1)
  have hA : ∀ cf is, isV o x y = is → cfV o x y = cf → ¬ is = -2 → px_WP 243 0 0 (px_Q0 LAY Q) 104 [(2, 127), (0, e), (9, 0), (9, 0), (9, 0), (0, cf), (0, is), (0, 0), (0, 0)] [] LAY M1 0 0 := fun cf is z1 z2 z3 => by
    have hv : ¬ isV o x y < 0 := by
      rcases isV_or o x y with q | q <;> rw [q] <;> rw [q] at z1 <;> omega
    have hcr := cfV_rng o x y
    refine lp_joins (M := M1) (P := P) (c := c) (cf := cf) hJ1 hJl hJn ⟨hc1, by omega, by omega⟩ (by rw [f128]; exact he) hPn (by omega) (fun M2 w1 w2 w3 w4 w5 => ?_) (fun M2 w1 w2 w3 w4 w5 => ?_) 0 (by omega) 0 (Int.le_refl 0) (Or.inl ⟨rfl, fun i _ i0 => by omega⟩)
    · rw [jst_L hv w1] at h
      exact h M2 w2 w3 (fun j j0 j1 => by rw [w5]; exact a2 j j0 j1) (frJ_trans w4 fr1)
    · rw [jst_A hv w1, z1, z2] at h
      exact h M2 w2 w3 (fun j j0 j1 => by rw [w5]; exact a2 j j0 j1) (frJ_trans w4 fr1)
  simp only [px_go, px_Q0_at, px_sx_0, px_sx_s, px_cl, px_step, ↓px_ll, px_lg, f4_, ↓px_r1, ↓px_r2, ↓px_r4, ↓px_r5, ↓px_p1, ↓px_p2, ↓px_p3, ↓px_pop, px_k_0, px_k_s, px_k3_0, px_stk_, px_cats, px_ent, px_st1, px_st2, px_mask, ↓px_tsw, ↓px_lsw, ct_, mls_0, mls_1, mls_2, mls_3, mls_4, mls_5, kd_0, kd_1, kd_2, kd_3, ln_0, ln_1, ln_2, ln_3, gf_0, gf_1, gf_2, gf_3, gf_4, gf_7, gf_21, gf_63, dy_0, dy_1, dy_2, dy_3, dy_7, dy_21, px_brT, px_brF, true_and, and_true, and_false, false_and, and_self, true_implies, false_implies, or_true, true_or, or_false, false_or, eq_self, ne_eq, not_false_eq_true, not_true_eq_false, if_true, if_false, List.mem_cons, List.not_mem_nil, List.length_cons, List.length_nil, Nat.reduceEqDiff, Nat.reduceAdd, Nat.reduceSub, Nat.reduceLeDiff, Nat.reduceLT, Int.reduceEq, Int.reduceLT, Int.reduceLE, Int.reduceNeg, Int.reduceAdd, Int.reduceSub, Int.reduceToNat, ↓reduceIte, one_ne_zero_, zero_ne_one_, px_in32L, cd_243, e0, e1, e2, hc1]
  repeat' (first | (with_reducible apply And.intro) | (with_reducible refine px_br_intro (fun _ => ?_) (fun _ => ?_)))
  all_goals (try (first | (unfold px_in32; omega) | omega))
  all_goals first
    | exact hN (by unfold isV; (repeat' split) <;> omega) (by unfold cfV; split <;> omega)
    | exact hN1 (by unfold isV; (repeat' split) <;> omega) (by unfold cfV; split <;> omega)
    | exact hA _ _ (by unfold isV; (repeat' split) <;> omega) (by unfold cfV; split <;> omega) (by omega)
end PS
