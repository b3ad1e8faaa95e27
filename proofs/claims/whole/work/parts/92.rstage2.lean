set_option maxRecDepth 100000 in
/-- X12_closes -/
theorem cd_218 : px_at 218 0 = some (1, [], .aload_n 0, []) ∧ px_at 218 1 = some (4, [], .getfield 7, [11, 0, 2, 1, 125]) ∧ px_at 218 4 = some (5, [], .iconst 0, []) ∧ px_at 218 5 = some (6, [], .aload_n 0, []) ∧ px_at 218 6 = some (9, [], .getfield 7, [11, 0, 2, 1, 125]) ∧ px_at 218 9 = some (10, [], .iconst 0, []) ∧ px_at 218 10 = some (11, [], .iaload, []) ∧ px_at 218 11 = some (12, [], .iconst 1, []) ∧ px_at 218 12 = some (13, [], .isub, []) ∧ px_at 218 13 = some (14, [], .iastore, []) ∧ px_at 218 14 = some (15, [], .iload_n 1, []) ∧ px_at 218 15 = some (16, [], .istore_n 2, []) ∧ px_at 218 16 = some (17, [1, 0, 1], .iload_n 2, []) ∧ px_at 218 17 = some (18, [], .aload_n 0, []) ∧ px_at 218 18 = some (21, [], .getfield 7, [11, 0, 2, 1, 125]) ∧ px_at 218 21 = some (22, [], .iconst 0, []) ∧ px_at 218 22 = some (23, [], .iaload, []) ∧ px_at 218 23 = some (26, [], .if_icmp .ge 25, [48]) ∧ px_at 218 26 = some (27, [], .aload_n 0, []) ∧ px_at 218 27 = some (28, [], .aload_n 0, []) ∧ px_at 218 28 = some (29, [], .iload_n 2, []) ∧ px_at 218 29 = some (30, [], .iconst 1, []) ∧ px_at 218 30 = some (31, [], .iadd, []) ∧ px_at 218 31 = some (34, [], .invokevirtual 196, [214, 1, 11, 229]) ∧ px_at 218 34 = some (35, [], .aload_n 0, []) ∧ px_at 218 35 = some (36, [], .iload_n 2, []) ∧ px_at 218 36 = some (39, [], .invokevirtual 196, [214, 1, 11, 229]) ∧ px_at 218 39 = some (42, [], .invokevirtual 199, [215, 2, 11, 235]) ∧ px_at 218 42 = some (45, [], .iinc 2 1, []) ∧ px_at 218 45 = some (48, [], .goto (-29), [16]) ∧ px_at 218 48 = some (49, [], .return_, []) := ⟨rfl, rfl, rfl, rfl, rfl, rfl, rfl, rfl, rfl, rfl, rfl, rfl, rfl, rfl, rfl, rfl, rfl, rfl, rfl, rfl, rfl, rfl, rfl, rfl, rfl, rfl, rfl, rfl, rfl, rfl, rfl⟩
set_option maxRecDepth 100000 in
/-- X12_fillsBytes -/
theorem cd_219 : px_at 219 0 = some (1, [], .aload_n 0, []) ∧ px_at 219 1 = some (4, [], .getfield 7, [11, 0, 2, 1, 125]) ∧ px_at 219 4 = some (5, [], .aload_n 0, []) ∧ px_at 219 5 = some (6, [], .iload_n 1, []) ∧ px_at 219 6 = some (9, [], .invokevirtual 196, [214, 1, 11, 229]) ∧ px_at 219 9 = some (11, [], .bipush 13, []) ∧ px_at 219 11 = some (12, [], .iadd, []) ∧ px_at 219 12 = some (13, [], .iload_n 3, []) ∧ px_at 219 13 = some (14, [], .iastore, []) ∧ px_at 219 14 = some (15, [], .iconst 0, []) ∧ px_at 219 15 = some (17, [], .istore 4, []) ∧ px_at 219 17 = some (19, [1, 1, 1, 1, 1], .iload 4, []) ∧ px_at 219 19 = some (21, [], .bipush 40, []) ∧ px_at 219 21 = some (24, [], .if_icmp .ge 39, [60]) ∧ px_at 219 24 = some (25, [], .aload_n 0, []) ∧ px_at 219 25 = some (28, [], .getfield 7, [11, 0, 2, 1, 125]) ∧ px_at 219 28 = some (29, [], .aload_n 0, []) ∧ px_at 219 29 = some (30, [], .iload_n 1, []) ∧ px_at 219 30 = some (33, [], .invokevirtual 196, [214, 1, 11, 229]) ∧ px_at 219 33 = some (35, [], .bipush 14, []) ∧ px_at 219 35 = some (36, [], .iadd, []) ∧ px_at 219 36 = some (38, [], .iload 4, []) ∧ px_at 219 38 = some (39, [], .iadd, []) ∧ px_at 219 39 = some (41, [], .iload 4, []) ∧ px_at 219 41 = some (42, [], .iload_n 3, []) ∧ px_at 219 42 = some (45, [], .if_icmp .ge 10, [52]) ∧ px_at 219 45 = some (46, [], .aload_n 2, []) ∧ px_at 219 46 = some (48, [], .iload 4, []) ∧ px_at 219 48 = some (49, [], .iaload, []) ∧ px_at 219 49 = some (52, [], .goto 4, [53]) ∧ px_at 219 52 = some (53, [], .iconst 0, []) ∧ px_at 219 53 = some (54, [], .iastore, []) ∧ px_at 219 54 = some (57, [], .iinc 4 1, []) ∧ px_at 219 57 = some (60, [], .goto (-40), [17]) ∧ px_at 219 60 = some (61, [], .return_, []) := ⟨rfl, rfl, rfl, rfl, rfl, rfl, rfl, rfl, rfl, rfl, rfl, rfl, rfl, rfl, rfl, rfl, rfl, rfl, rfl, rfl, rfl, rfl, rfl, rfl, rfl, rfl, rfl, rfl, rfl, rfl, rfl, rfl, rfl, rfl, rfl⟩
set_option maxRecDepth 100000 in
/-- X12_laysDue -/
theorem cd_220 : px_at 220 0 = some (1, [], .aload_n 0, []) ∧ px_at 220 1 = some (2, [], .iload_n 2, []) ∧ px_at 220 2 = some (5, [], .putfield 129, [11, 14, 0, 0, 139]) ∧ px_at 220 5 = some (6, [], .iconst 0, []) ∧ px_at 220 6 = some (7, [], .istore_n 3, []) ∧ px_at 220 7 = some (8, [1, 1, 1, 1], .iload_n 3, []) ∧ px_at 220 8 = some (9, [], .iload_n 2, []) ∧ px_at 220 9 = some (12, [], .if_icmp .ge 27, [36]) ∧ px_at 220 12 = some (13, [], .aload_n 0, []) ∧ px_at 220 13 = some (16, [], .getfield 38, [11, 11, 2, 1, 136]) ∧ px_at 220 16 = some (17, [], .iload_n 3, []) ∧ px_at 220 17 = some (18, [], .aload_n 0, []) ∧ px_at 220 18 = some (21, [], .getfield 16, [11, 2, 2, 1, 127]) ∧ px_at 220 21 = some (22, [], .iload_n 1, []) ∧ px_at 220 22 = some (23, [], .iload_n 3, []) ∧ px_at 220 23 = some (24, [], .iadd, []) ∧ px_at 220 24 = some (25, [], .baload, []) ∧ px_at 220 25 = some (28, [], .sipush 255, []) ∧ px_at 220 28 = some (29, [], .iand, []) ∧ px_at 220 29 = some (30, [], .iastore, []) ∧ px_at 220 30 = some (33, [], .iinc 3 1, []) ∧ px_at 220 33 = some (36, [], .goto (-26), [7]) ∧ px_at 220 36 = some (37, [], .return_, []) := ⟨rfl, rfl, rfl, rfl, rfl, rfl, rfl, rfl, rfl, rfl, rfl, rfl, rfl, rfl, rfl, rfl, rfl, rfl, rfl, rfl, rfl, rfl, rfl⟩
set_option maxRecDepth 100000 in
/-- X12_laysDueOf -/
theorem cd_221 : px_at 221 0 = some (1, [], .aload_n 0, []) ∧ px_at 221 1 = some (2, [], .aload_n 0, []) ∧ px_at 221 2 = some (5, [], .getfield 7, [11, 0, 2, 1, 125]) ∧ px_at 221 5 = some (6, [], .aload_n 0, []) ∧ px_at 221 6 = some (7, [], .iload_n 1, []) ∧ px_at 221 7 = some (10, [], .invokevirtual 196, [214, 1, 11, 229]) ∧ px_at 221 10 = some (12, [], .bipush 13, []) ∧ px_at 221 12 = some (13, [], .iadd, []) ∧ px_at 221 13 = some (14, [], .iaload, []) ∧ px_at 221 14 = some (17, [], .putfield 129, [11, 14, 0, 0, 139]) ∧ px_at 221 17 = some (18, [], .iconst 0, []) ∧ px_at 221 18 = some (19, [], .istore_n 2, []) ∧ px_at 221 19 = some (20, [1, 1, 1], .iload_n 2, []) ∧ px_at 221 20 = some (21, [], .aload_n 0, []) ∧ px_at 221 21 = some (24, [], .getfield 129, [11, 14, 0, 0, 139]) ∧ px_at 221 24 = some (27, [], .if_icmp .ge 30, [54]) ∧ px_at 221 27 = some (28, [], .aload_n 0, []) ∧ px_at 221 28 = some (31, [], .getfield 38, [11, 11, 2, 1, 136]) ∧ px_at 221 31 = some (32, [], .iload_n 2, []) ∧ px_at 221 32 = some (33, [], .aload_n 0, []) ∧ px_at 221 33 = some (36, [], .getfield 7, [11, 0, 2, 1, 125]) ∧ px_at 221 36 = some (37, [], .aload_n 0, []) ∧ px_at 221 37 = some (38, [], .iload_n 1, []) ∧ px_at 221 38 = some (41, [], .invokevirtual 196, [214, 1, 11, 229]) ∧ px_at 221 41 = some (43, [], .bipush 14, []) ∧ px_at 221 43 = some (44, [], .iadd, []) ∧ px_at 221 44 = some (45, [], .iload_n 2, []) ∧ px_at 221 45 = some (46, [], .iadd, []) ∧ px_at 221 46 = some (47, [], .iaload, []) ∧ px_at 221 47 = some (48, [], .iastore, []) ∧ px_at 221 48 = some (51, [], .iinc 2 1, []) ∧ px_at 221 51 = some (54, [], .goto (-32), [19]) ∧ px_at 221 54 = some (55, [], .return_, []) := ⟨rfl, rfl, rfl, rfl, rfl, rfl, rfl, rfl, rfl, rfl, rfl, rfl, rfl, rfl, rfl, rfl, rfl, rfl, rfl, rfl, rfl, rfl, rfl, rfl, rfl, rfl, rfl, rfl, rfl, rfl, rfl, rfl, rfl⟩
set_option maxRecDepth 100000 in
/-- X12_areLaid -/
theorem cd_222 : px_at 222 0 = some (1, [], .iload_n 1, []) ∧ px_at 222 1 = some (2, [], .iconst 1, []) ∧ px_at 222 2 = some (4, [], .bipush 12, []) ∧ px_at 222 4 = some (7, [], .invokestatic 92, [170, 3, 11, 223]) ∧ px_at 222 7 = some (10, [], .ifCond .eq 27, [34]) ∧ px_at 222 10 = some (11, [], .iload_n 2, []) ∧ px_at 222 11 = some (13, [], .bipush 40, []) ∧ px_at 222 13 = some (16, [], .if_icmp .gt 21, [34]) ∧ px_at 222 16 = some (17, [], .iload_n 2, []) ∧ px_at 222 17 = some (20, [], .ifCond .lt 17, [34]) ∧ px_at 222 20 = some (21, [], .iload_n 1, []) ∧ px_at 222 21 = some (22, [], .iload_n 2, []) ∧ px_at 222 22 = some (23, [], .iadd, []) ∧ px_at 222 23 = some (24, [], .aload_n 0, []) ∧ px_at 222 24 = some (27, [], .getfield 84, [11, 3, 0, 0, 128]) ∧ px_at 222 27 = some (30, [], .if_icmp .gt 7, [34]) ∧ px_at 222 30 = some (31, [], .iconst 1, []) ∧ px_at 222 31 = some (34, [], .goto 4, [35]) ∧ px_at 222 34 = some (35, [], .iconst 0, []) ∧ px_at 222 35 = some (36, [], .ireturn, [4]) := ⟨rfl, rfl, rfl, rfl, rfl, rfl, rfl, rfl, rfl, rfl, rfl, rfl, rfl, rfl, rfl, rfl, rfl, rfl, rfl, rfl⟩
set_option maxRecDepth 100000 in
/-- X12_stageUnder -/
theorem cd_224 : px_at 224 0 = some (1, [], .iconst 0, []) ∧ px_at 224 1 = some (2, [], .istore_n 2, []) ∧ px_at 224 2 = some (3, [], .iconst 0, []) ∧ px_at 224 3 = some (4, [], .istore_n 3, []) ∧ px_at 224 4 = some (5, [1, 1, 1, 1], .iload_n 3, []) ∧ px_at 224 5 = some (6, [], .aload_n 0, []) ∧ px_at 224 6 = some (9, [], .getfield 7, [11, 0, 2, 1, 125]) ∧ px_at 224 9 = some (10, [], .iconst 0, []) ∧ px_at 224 10 = some (11, [], .iaload, []) ∧ px_at 224 11 = some (14, [], .if_icmp .ge 30, [41]) ∧ px_at 224 14 = some (15, [], .aload_n 0, []) ∧ px_at 224 15 = some (18, [], .getfield 7, [11, 0, 2, 1, 125]) ∧ px_at 224 18 = some (19, [], .aload_n 0, []) ∧ px_at 224 19 = some (20, [], .iload_n 3, []) ∧ px_at 224 20 = some (23, [], .invokevirtual 196, [214, 1, 11, 229]) ∧ px_at 224 23 = some (24, [], .aload_n 1, []) ∧ px_at 224 24 = some (25, [], .iconst 0, []) ∧ px_at 224 25 = some (28, [], .invokestatic 104, [183, 4, 11, 233]) ∧ px_at 224 28 = some (31, [], .ifCond .eq 7, [35]) ∧ px_at 224 31 = some (32, [], .iload_n 2, []) ∧ px_at 224 32 = some (33, [], .iconst 1, []) ∧ px_at 224 33 = some (34, [], .iadd, []) ∧ px_at 224 34 = some (35, [], .istore_n 2, []) ∧ px_at 224 35 = some (38, [], .iinc 3 1, []) ∧ px_at 224 38 = some (41, [], .goto (-34), [4]) ∧ px_at 224 41 = some (42, [], .iload_n 2, []) ∧ px_at 224 42 = some (43, [], .ireturn, [0]) := ⟨rfl, rfl, rfl, rfl, rfl, rfl, rfl, rfl, rfl, rfl, rfl, rfl, rfl, rfl, rfl, rfl, rfl, rfl, rfl, rfl, rfl, rfl, rfl, rfl, rfl, rfl, rfl⟩
set_option maxRecDepth 100000 in
/-- X12_takesAway -/
theorem cd_225 : px_at 225 0 = some (1, [], .iconst 0, []) ∧ px_at 225 1 = some (2, [], .istore_n 2, []) ∧ px_at 225 2 = some (3, [], .aload_n 0, []) ∧ px_at 225 3 = some (6, [], .getfield 7, [11, 0, 2, 1, 125]) ∧ px_at 225 6 = some (7, [], .iconst 0, []) ∧ px_at 225 7 = some (8, [], .iaload, []) ∧ px_at 225 8 = some (9, [], .iconst 1, []) ∧ px_at 225 9 = some (10, [], .isub, []) ∧ px_at 225 10 = some (11, [], .istore_n 3, []) ∧ px_at 225 11 = some (12, [1, 1, 1, 1], .iload_n 3, []) ∧ px_at 225 12 = some (15, [], .ifCond .lt 38, [50]) ∧ px_at 225 15 = some (16, [], .aload_n 0, []) ∧ px_at 225 16 = some (19, [], .getfield 7, [11, 0, 2, 1, 125]) ∧ px_at 225 19 = some (20, [], .aload_n 0, []) ∧ px_at 225 20 = some (21, [], .iload_n 3, []) ∧ px_at 225 21 = some (24, [], .invokevirtual 196, [214, 1, 11, 229]) ∧ px_at 225 24 = some (25, [], .aload_n 1, []) ∧ px_at 225 25 = some (26, [], .iconst 0, []) ∧ px_at 225 26 = some (29, [], .invokestatic 104, [183, 4, 11, 233]) ∧ px_at 225 29 = some (32, [], .ifCond .ne 6, [35]) ∧ px_at 225 32 = some (35, [], .goto 12, [44]) ∧ px_at 225 35 = some (36, [], .aload_n 0, []) ∧ px_at 225 36 = some (37, [], .iload_n 3, []) ∧ px_at 225 37 = some (40, [], .invokevirtual 235, [218, 1, 11, 240]) ∧ px_at 225 40 = some (41, [], .iload_n 2, []) ∧ px_at 225 41 = some (42, [], .iconst 1, []) ∧ px_at 225 42 = some (43, [], .iadd, []) ∧ px_at 225 43 = some (44, [], .istore_n 2, []) ∧ px_at 225 44 = some (47, [], .iinc 3 (-1), []) ∧ px_at 225 47 = some (50, [], .goto (-36), [11]) ∧ px_at 225 50 = some (51, [], .iload_n 2, []) ∧ px_at 225 51 = some (52, [], .ireturn, [0]) := ⟨rfl, rfl, rfl, rfl, rfl, rfl, rfl, rfl, rfl, rfl, rfl, rfl, rfl, rfl, rfl, rfl, rfl, rfl, rfl, rfl, rfl, rfl, rfl, rfl, rfl, rfl, rfl, rfl, rfl, rfl, rfl, rfl⟩
/-! the reference: files go, bytes are laid -/
theorem shp_srt {n i : Int} {g : Int → fe} (h : srt n g) (i0 : 0 ≤ i) : srt (n - 1) (shp g i) := by
  intro a b a0 a1 b1
  unfold shp
  by_cases p : a < i
  · rw [if_pos p]
    by_cases q : b < i
    · rw [if_pos q]; exact h a b a0 a1 (by omega)
    · rw [if_neg q]; exact h a (b + 1) a0 (by omega) (by omega)
  · rw [if_neg p, if_neg (by omega)]; exact h (a + 1) (b + 1) (by omega) (by omega) (by omega)
theorem shp_isM {n i : Int} {g : Int → fe} (h : srt n g) (i0 : 0 ≤ i) (i1 : i < n) (y : fe) : isM (n - 1) (shp g i) y ↔ (isM n g y ∧ y ≠ g i) := by
  unfold isM shp
  constructor
  · rintro ⟨j, j0, j1, j2⟩
    by_cases q : j < i
    · rw [if_pos q] at j2
      refine ⟨⟨j, j0, by omega, j2⟩, fun z => ?_⟩
      have := srt_ne h j0 (by omega) i0 i1 (by rw [j2, z])
      omega
    · rw [if_neg q] at j2
      refine ⟨⟨j + 1, by omega, by omega, j2⟩, fun z => ?_⟩
      have := srt_ne h (show 0 ≤ j + 1 by omega) (by omega) i0 i1 (by rw [j2, z])
      omega
  · rintro ⟨⟨j, j0, j1, j2⟩, z⟩
    by_cases q : j < i
    · exact ⟨j, j0, by omega, by rw [if_pos q]; exact j2⟩
    · have q2 : j ≠ i := fun e => z (by rw [← j2, e])
      exact ⟨j - 1, by omega, by omega, by rw [if_neg (by omega), show j - 1 + 1 = j by omega]; exact j2⟩
/-- bytes of the reference's tape -/
def tw (F : Int → Int) (s n : Int) : List Int := lst (fun k => F (s + k) % 256) n
theorem tw_len {F : Int → Int} {s n : Int} (h : 0 ≤ n) : ((tw F s n).length : Int) = n := lst_len h
theorem tw_rng {F : Int → Int} {s n : Int} : ∀ b ∈ tw F s n, 0 ≤ b ∧ b < 256 := fun b hb => by
  obtain ⟨k, _, _, e⟩ := lst_mem.mp hb
  omega
section PS
variable {M : px_mem} {Q : Option pv → px_mem → Prop}
set_option maxHeartbeats 600000 in
set_option maxRecDepth 100000 in
theorem lp_closes {M0 : px_mem} {n i : Int} {g : Int → fe} (hst : sR (M0 128) n g) (hi : 0 ≤ i ∧ i < n) (h : ∀ M', sR (M' 128) (n - 1) (shp g i) → frf (M' 128) (M0 128) → (∀ b, b ≠ 128 → M' b = M0 b) → Q none M') (k : Int) (hk_k : k ≤ n-1) : ∀ (M : px_mem), i ≤ k → M 128 0 = n - 1 → (∀ j y, 0 ≤ j → j < i → 0 ≤ y → y < 54 → M 128 (6 + 54 * j + y) = M0 128 (6 + 54 * j + y)) → (∀ j y, i ≤ j → j < k → 0 ≤ y → y < 54 → M 128 (6 + 54 * j + y) = M0 128 (6 + 54 * (j + 1) + y)) → (∀ j y, k ≤ j → j < n → 0 ≤ y → y < 54 → M 128 (6 + 54 * j + y) = M0 128 (6 + 54 * j + y)) → frf (M 128) (M0 128) → (∀ b, b ≠ 128 → M b = M0 b) → px_WP 218 0 0 (px_Q0 LAY Q) 16 [(2, 127), (9, 0), (0, k)] [] LAY M 0 0 := by
  refine up_ind (P := fun k => ∀ (M : px_mem), i ≤ k → M 128 0 = n - 1 → (∀ j y, 0 ≤ j → j < i → 0 ≤ y → y < 54 → M 128 (6 + 54 * j + y) = M0 128 (6 + 54 * j + y)) → (∀ j y, i ≤ j → j < k → 0 ≤ y → y < 54 → M 128 (6 + 54 * j + y) = M0 128 (6 + 54 * (j + 1) + y)) → (∀ j y, k ≤ j → j < n → 0 ≤ y → y < 54 → M 128 (6 + 54 * j + y) = M0 128 (6 + 54 * j + y)) → frf (M 128) (M0 128) → (∀ b, b ≠ 128 → M b = M0 b) → px_WP 218 0 0 (px_Q0 LAY Q) 16 [(2, 127), (9, 0), (0, k)] [] LAY M 0 0) (n-1) (fun k hk_k ih => ?_) k hk_k
  intro M k0 hF0 hlo hmi hhi hff hf
  have hn := hst.2.2.1
  refine px_go_ok (inl := [214]) 60 ?_
  simp only [px_go, px_Q0_at, px_sx_0, px_sx_s, px_cl, px_step, ↓px_ll, px_lg, f4_, ↓px_r1, ↓px_r2, ↓px_r4, ↓px_r5, ↓px_p1, ↓px_p2, ↓px_p3, ↓px_pop, px_k_0, px_k_s, px_k3_0, px_stk_, px_cats, px_ent, px_st1, px_st2, px_mask, ↓px_tsw, ↓px_lsw, ct_, mls_0, mls_1, mls_2, mls_3, mls_4, mls_5, kd_0, kd_1, kd_2, kd_3, ln_0, ln_1, ln_2, ln_3, gf_0, gf_1, gf_2, gf_3, gf_4, gf_7, gf_21, gf_63, dy_0, dy_1, dy_2, dy_3, dy_7, dy_21, px_brT, px_brF, true_and, and_true, and_false, false_and, and_self, true_implies, false_implies, or_true, true_or, or_false, false_or, eq_self, ne_eq, not_false_eq_true, not_true_eq_false, if_true, if_false, List.mem_cons, List.not_mem_nil, List.length_cons, List.length_nil, Nat.reduceEqDiff, Nat.reduceAdd, Nat.reduceSub, Nat.reduceLeDiff, Nat.reduceLT, Int.reduceEq, Int.reduceLT, Int.reduceLE, Int.reduceNeg, Int.reduceAdd, Int.reduceSub, Int.reduceToNat, ↓reduceIte, one_ne_zero_, zero_ne_one_, px_in32L, cd_218, cd_214, hF0]
  repeat' (first | (with_reducible apply And.intro) | (with_reducible refine px_br_intro (fun _ => ?_) (fun _ => ?_)))
  all_goals (try (first | (unfold px_in32; omega) | omega))
  · rename_i c1
    refine h M ⟨hF0, by omega, by omega, fun j j0 j1 => ?_⟩ hff hf
    unfold shp
    by_cases q : j < i
    · rw [if_pos q]
      exact fR_move (hst.2.2.2 j j0 (by omega)) ⟨j0, by omega⟩ (fun y y0 y1 => hlo j y j0 q y0 y1)
    · rw [if_neg q]
      exact fR_move (hst.2.2.2 (j + 1) (by omega) (by omega)) ⟨j0, by omega⟩ (fun y y0 y1 => hmi j y (by omega) (by omega) y0 y1)
  · rename_i c1
    refine sp_copiesFile ⟨by omega, by omega⟩ ⟨by omega, by omega⟩ (by omega) (fun M1 q1 q2 => ?_)
    simp only [px_go, px_Q0_at, px_sx_0, px_sx_s, px_cl, px_step, ↓px_ll, px_lg, f4_, ↓px_r1, ↓px_r2, ↓px_r4, ↓px_r5, ↓px_p1, ↓px_p2, ↓px_p3, ↓px_pop, px_k_0, px_k_s, px_k3_0, px_stk_, px_cats, px_ent, px_st1, px_st2, px_mask, ↓px_tsw, ↓px_lsw, ct_, mls_0, mls_1, mls_2, mls_3, mls_4, mls_5, kd_0, kd_1, kd_2, kd_3, ln_0, ln_1, ln_2, ln_3, gf_0, gf_1, gf_2, gf_3, gf_4, gf_7, gf_21, gf_63, dy_0, dy_1, dy_2, dy_3, dy_7, dy_21, px_brT, px_brF, true_and, and_true, and_false, false_and, and_self, true_implies, false_implies, or_true, true_or, or_false, false_or, eq_self, ne_eq, not_false_eq_true, not_true_eq_false, if_true, if_false, List.mem_cons, List.not_mem_nil, List.length_cons, List.length_nil, Nat.reduceEqDiff, Nat.reduceAdd, Nat.reduceSub, Nat.reduceLeDiff, Nat.reduceLT, Int.reduceEq, Int.reduceLT, Int.reduceLE, Int.reduceNeg, Int.reduceAdd, Int.reduceSub, Int.reduceToNat, ↓reduceIte, one_ne_zero_, zero_ne_one_, px_in32L, cd_218, cd_214]
    repeat' (first | (with_reducible apply And.intro) | (with_reducible refine px_br_intro (fun _ => ?_) (fun _ => ?_)))
    all_goals (try (first | (unfold px_in32; omega) | omega))
    refine ih (by omega) M1 (by omega) (by rw [q1, if_neg (by omega)]; exact hF0) (fun j y j0 j1 y0 y1 => ?_) (fun j y j0 j1 y0 y1 => ?_) (fun j y j0 j1 y0 y1 => ?_) (fun x x0 x1 => ?_) (fun b b0 => by rw [q2 b b0, hf b b0])
    · rw [q1, if_neg (by omega)]; exact hlo j y j0 j1 y0 y1
    · by_cases q : j = k
      · rw [q1, if_pos (by omega), q, show 6 + 54 * (k + 1) + (6 + 54 * k + y - (6 + 54 * k)) = 6 + 54 * (k + 1) + y by omega]
        exact hhi (k + 1) y (by omega) (by omega) y0 y1
      · rw [q1, if_neg (by omega)]; exact hmi j y j0 (by omega) y0 y1
    · rw [q1, if_neg (by omega)]; exact hhi j y (by omega) j1 y0 y1
    · rw [q1, if_neg (by omega)]; exact hff x x0 x1
set_option maxHeartbeats 600000 in
set_option maxRecDepth 100000 in
theorem sp_closes {n i : Int} {g : Int → fe} (hst : sR (M 128) n g) (hi : 0 ≤ i ∧ i < n) (h : ∀ M', sR (M' 128) (n - 1) (shp g i) → frf (M' 128) (M 128) → (∀ b, b ≠ 128 → M' b = M b) → Q none M') : px_Ok 218 [(2, 127), (0, i)] LAY M Q := by
  have h1 := hst.1
  have h2 := hst.2.2.1
  refine px_ok_go (inl := []) (ls0 := [(2, 127), (0, i), (9, 0)]) 60 (by decide) (Nat.le_of_ble_eq_true rfl) rfl ?_
  simp only [px_go, px_Q0_at, px_sx_0, px_sx_s, px_cl, px_step, ↓px_ll, px_lg, f4_, ↓px_r1, ↓px_r2, ↓px_r4, ↓px_r5, ↓px_p1, ↓px_p2, ↓px_p3, ↓px_pop, px_k_0, px_k_s, px_k3_0, px_stk_, px_cats, px_ent, px_st1, px_st2, px_mask, ↓px_tsw, ↓px_lsw, ct_, mls_0, mls_1, mls_2, mls_3, mls_4, mls_5, kd_0, kd_1, kd_2, kd_3, ln_0, ln_1, ln_2, ln_3, gf_0, gf_1, gf_2, gf_3, gf_4, gf_7, gf_21, gf_63, dy_0, dy_1, dy_2, dy_3, dy_7, dy_21, px_brT, px_brF, true_and, and_true, and_false, false_and, and_self, true_implies, false_implies, or_true, true_or, or_false, false_or, eq_self, ne_eq, not_false_eq_true, not_true_eq_false, if_true, if_false, List.mem_cons, List.not_mem_nil, List.length_cons, List.length_nil, Nat.reduceEqDiff, Nat.reduceAdd, Nat.reduceSub, Nat.reduceLeDiff, Nat.reduceLT, Int.reduceEq, Int.reduceLT, Int.reduceLE, Int.reduceNeg, Int.reduceAdd, Int.reduceSub, Int.reduceToNat, ↓reduceIte, one_ne_zero_, zero_ne_one_, px_in32L, cd_218, h1]
  repeat' (first | (with_reducible apply And.intro) | (with_reducible refine px_br_intro (fun _ => ?_) (fun _ => ?_)))
  all_goals (try (first | (unfold px_in32; omega) | omega))
  refine lp_closes (M0 := M) hst hi h i (by omega) _ (Int.le_refl i) (by rw [px_up_at, if_pos ⟨rfl, rfl⟩]) (fun j y j0 j1 y0 y1 => ?_) (fun j y j0 j1 _ _ => by omega) (fun j y j0 j1 y0 y1 => ?_) (fun x x0 x1 => ?_) (fun b b0 => by rw [row_ne b0])
  · rw [px_up_at, if_neg (by omega)]
  · rw [px_up_at, if_neg (by omega)]
  · rw [px_up_at, if_neg (fun z => x0 z.2)]
set_option maxHeartbeats 600000 in
set_option maxRecDepth 100000 in
theorem lp_fills {M0 : px_mem} {i w n : Int} (hi : 0 ≤ i ∧ i < 12) (hkw : px_kd LAY w = 0) (hlw : n ≤ px_ln LAY w ∧ px_ln LAY w < 10000) (hw : w ≠ 128) (hn : 0 ≤ n ∧ n ≤ 40) (h : ∀ M', slf (M' 128) (M0 128) i (lst (M0 w) n) → (∀ b, b ≠ 128 → M' b = M0 b) → Q none M') (k : Int) (hk_k : k ≤ 40) : ∀ (M : px_mem), 0 ≤ k → (∀ x, M 128 x = if x = 6 + 54 * i + 13 then n else if 6 + 54 * i + 14 ≤ x ∧ x < 6 + 54 * i + 14 + k then (if x - (6 + 54 * i + 14) < n then M0 w (x - (6 + 54 * i + 14)) else 0) else M0 128 x) → (∀ b, b ≠ 128 → M b = M0 b) → px_WP 219 0 0 (px_Q0 LAY Q) 17 [(2, 127), (0, i), (2, w), (0, n), (0, k)] [] LAY M 0 0 := by
  refine up_ind (P := fun k => ∀ (M : px_mem), 0 ≤ k → (∀ x, M 128 x = if x = 6 + 54 * i + 13 then n else if 6 + 54 * i + 14 ≤ x ∧ x < 6 + 54 * i + 14 + k then (if x - (6 + 54 * i + 14) < n then M0 w (x - (6 + 54 * i + 14)) else 0) else M0 128 x) → (∀ b, b ≠ 128 → M b = M0 b) → px_WP 219 0 0 (px_Q0 LAY Q) 17 [(2, 127), (0, i), (2, w), (0, n), (0, k)] [] LAY M 0 0) (40) (fun k hk_k ih => ?_) k hk_k
  intro M k0 hv hf
  have hnx : ∀ y, y = (if k < n then M0 w k else 0) → ∀ x, px_up M 128 (6 + 54 * i + 14 + k) y 128 x = if x = 6 + 54 * i + 13 then n else if 6 + 54 * i + 14 ≤ x ∧ x < 6 + 54 * i + 14 + (k + 1) then (if x - (6 + 54 * i + 14) < n then M0 w (x - (6 + 54 * i + 14)) else 0) else M0 128 x := fun y hy x => by
    rw [px_up_at, hv x]
    by_cases q : x = 6 + 54 * i + 14 + k
    · rw [if_pos ⟨rfl, q⟩, if_neg (by omega), if_pos (by omega), hy, show x - (6 + 54 * i + 14) = k by omega]
    · rw [if_neg (fun z => q z.2)]
      by_cases r : x = 6 + 54 * i + 13
      · rw [if_pos r, if_pos r]
      · rw [if_neg r, if_neg r]
        by_cases s : 6 + 54 * i + 14 ≤ x ∧ x < 6 + 54 * i + 14 + k
        · rw [if_pos s, if_pos (show 6 + 54 * i + 14 ≤ x ∧ x < 6 + 54 * i + 14 + (k + 1) by omega)]
        · rw [if_neg s, if_neg (by omega)]
  refine px_go_ok (inl := [214]) 60 ?_
  simp only [px_go, px_Q0_at, px_sx_0, px_sx_s, px_cl, px_step, ↓px_ll, px_lg, f4_, ↓px_r1, ↓px_r2, ↓px_r4, ↓px_r5, ↓px_p1, ↓px_p2, ↓px_p3, ↓px_pop, px_k_0, px_k_s, px_k3_0, px_stk_, px_cats, px_ent, px_st1, px_st2, px_mask, ↓px_tsw, ↓px_lsw, ct_, mls_0, mls_1, mls_2, mls_3, mls_4, mls_5, kd_0, kd_1, kd_2, kd_3, ln_0, ln_1, ln_2, ln_3, gf_0, gf_1, gf_2, gf_3, gf_4, gf_7, gf_21, gf_63, dy_0, dy_1, dy_2, dy_3, dy_7, dy_21, px_brT, px_brF, true_and, and_true, and_false, false_and, and_self, true_implies, false_implies, or_true, true_or, or_false, false_or, eq_self, ne_eq, not_false_eq_true, not_true_eq_false, if_true, if_false, List.mem_cons, List.not_mem_nil, List.length_cons, List.length_nil, Nat.reduceEqDiff, Nat.reduceAdd, Nat.reduceSub, Nat.reduceLeDiff, Nat.reduceLT, Int.reduceEq, Int.reduceLT, Int.reduceLE, Int.reduceNeg, Int.reduceAdd, Int.reduceSub, Int.reduceToNat, ↓reduceIte, one_ne_zero_, zero_ne_one_, px_in32L, cd_219, cd_214, hkw]
  repeat' (first | (with_reducible apply And.intro) | (with_reducible refine px_br_intro (fun _ => ?_) (fun _ => ?_)))
  all_goals (try (first | (unfold px_in32; omega) | omega))
  · rename_i c1
    have e : ((lst (M0 w) n).length : Int) = n := lst_len hn.1
    refine h M ⟨fun y y0 => ?_, ?_, ?_⟩ hf
    · rw [hv, if_neg (by omega), if_neg (by omega)]
    · rw [hv, if_pos rfl, e]
    · rw [e]
      exact lst_congr (fun j j0 j1 => by rw [hv, if_neg (by omega), if_pos (by omega), if_pos (by omega), show 6 + 54 * i + 14 + j - (6 + 54 * i + 14) = j by omega])
  · rename_i c1 c2
    exact ih (by omega) _ (by omega) (hnx 0 (by rw [if_neg (by omega)])) (fun b b0 => by rw [row_ne b0]; exact hf b b0)
  · rename_i c1 c2
    exact ih (by omega) _ (by omega) (hnx _ (by rw [if_pos (by omega), hf w hw])) (fun b b0 => by rw [row_ne b0]; exact hf b b0)
set_option maxHeartbeats 600000 in
set_option maxRecDepth 100000 in
theorem sp_fills {i w n : Int} (hi : 0 ≤ i ∧ i < 12) (hkw : px_kd LAY w = 0) (hlw : n ≤ px_ln LAY w ∧ px_ln LAY w < 10000) (hw : w ≠ 128) (hn : 0 ≤ n ∧ n ≤ 40) (h : ∀ M', slf (M' 128) (M 128) i (lst (M w) n) → (∀ b, b ≠ 128 → M' b = M b) → Q none M') : px_Ok 219 [(2, 127), (0, i), (2, w), (0, n)] LAY M Q := by
  refine px_ok_go (inl := [214]) (ls0 := [(2, 127), (0, i), (2, w), (0, n), (9, 0)]) 60 (by decide) (Nat.le_of_ble_eq_true rfl) rfl ?_
  simp only [px_go, px_Q0_at, px_sx_0, px_sx_s, px_cl, px_step, ↓px_ll, px_lg, f4_, ↓px_r1, ↓px_r2, ↓px_r4, ↓px_r5, ↓px_p1, ↓px_p2, ↓px_p3, ↓px_pop, px_k_0, px_k_s, px_k3_0, px_stk_, px_cats, px_ent, px_st1, px_st2, px_mask, ↓px_tsw, ↓px_lsw, ct_, mls_0, mls_1, mls_2, mls_3, mls_4, mls_5, kd_0, kd_1, kd_2, kd_3, ln_0, ln_1, ln_2, ln_3, gf_0, gf_1, gf_2, gf_3, gf_4, gf_7, gf_21, gf_63, dy_0, dy_1, dy_2, dy_3, dy_7, dy_21, px_brT, px_brF, true_and, and_true, and_false, false_and, and_self, true_implies, false_implies, or_true, true_or, or_false, false_or, eq_self, ne_eq, not_false_eq_true, not_true_eq_false, if_true, if_false, List.mem_cons, List.not_mem_nil, List.length_cons, List.length_nil, Nat.reduceEqDiff, Nat.reduceAdd, Nat.reduceSub, Nat.reduceLeDiff, Nat.reduceLT, Int.reduceEq, Int.reduceLT, Int.reduceLE, Int.reduceNeg, Int.reduceAdd, Int.reduceSub, Int.reduceToNat, ↓reduceIte, one_ne_zero_, zero_ne_one_, px_in32L, cd_219, cd_214]
  repeat' (first | (with_reducible apply And.intro) | (with_reducible refine px_br_intro (fun _ => ?_) (fun _ => ?_)))
  all_goals (try (first | (unfold px_in32; omega) | omega))
  refine lp_fills (M0 := M) hi hkw hlw hw hn h 0 (by decide) _ (Int.le_refl 0) (fun x => ?_) (fun b b0 => by rw [row_ne b0])
  rw [px_up_at]
  by_cases q : x = 6 + 54 * i + 13
  · rw [if_pos ⟨rfl, q⟩, if_pos q]
  · rw [if_neg (fun z => q z.2), if_neg q, if_neg (by omega)]
set_option maxHeartbeats 600000 in
set_option maxRecDepth 100000 in
theorem lp_laysDue {M0 : px_mem} {s n : Int} (hs : 0 ≤ s ∧ s + n ≤ 160) (hn : 0 ≤ n ∧ n ≤ 40) (h : ∀ M', lst (M' 137) n = tw (M0 130) s n → (∀ b, b ≠ 137 → M' b = M0 b) → Q none M') (k : Int) (hk_k : k ≤ n) : ∀ (M : px_mem), 0 ≤ k → lst (M 137) k = tw (M0 130) s k → (∀ b, b ≠ 137 → M b = M0 b) → px_WP 220 0 0 (px_Q0 LAY Q) 7 [(2, 127), (0, s), (0, n), (0, k)] [] LAY M 0 0 := by
  refine up_ind (P := fun k => ∀ (M : px_mem), 0 ≤ k → lst (M 137) k = tw (M0 130) s k → (∀ b, b ≠ 137 → M b = M0 b) → px_WP 220 0 0 (px_Q0 LAY Q) 7 [(2, 127), (0, s), (0, n), (0, k)] [] LAY M 0 0) (n) (fun k hk_k ih => ?_) k hk_k
  intro M k0 ha hf
  have h130 := hf 130 (by decide)
  have h127 := hf 127 (by decide)
  refine px_go_ok (inl := []) 60 ?_
  simp only [px_go, px_Q0_at, px_sx_0, px_sx_s, px_cl, px_step, ↓px_ll, px_lg, f4_, ↓px_r1, ↓px_r2, ↓px_r4, ↓px_r5, ↓px_p1, ↓px_p2, ↓px_p3, ↓px_pop, px_k_0, px_k_s, px_k3_0, px_stk_, px_cats, px_ent, px_st1, px_st2, px_mask, ↓px_tsw, ↓px_lsw, ct_, mls_0, mls_1, mls_2, mls_3, mls_4, mls_5, kd_0, kd_1, kd_2, kd_3, ln_0, ln_1, ln_2, ln_3, gf_0, gf_1, gf_2, gf_3, gf_4, gf_7, gf_21, gf_63, dy_0, dy_1, dy_2, dy_3, dy_7, dy_21, px_brT, px_brF, true_and, and_true, and_false, false_and, and_self, true_implies, false_implies, or_true, true_or, or_false, false_or, eq_self, ne_eq, not_false_eq_true, not_true_eq_false, if_true, if_false, List.mem_cons, List.not_mem_nil, List.length_cons, List.length_nil, Nat.reduceEqDiff, Nat.reduceAdd, Nat.reduceSub, Nat.reduceLeDiff, Nat.reduceLT, Int.reduceEq, Int.reduceLT, Int.reduceLE, Int.reduceNeg, Int.reduceAdd, Int.reduceSub, Int.reduceToNat, ↓reduceIte, one_ne_zero_, zero_ne_one_, px_in32L, cd_220, h130]
  repeat' (first | (with_reducible apply And.intro) | (with_reducible refine px_br_intro (fun _ => ?_) (fun _ => ?_)))
  all_goals (try (first | (unfold px_in32; omega) | omega))
  · rw [show k = n by omega] at ha
    exact h M ha hf
  · refine ih (by omega) _ (by omega) ?_ (fun b b0 => by rw [row_ne b0]; exact hf b b0)
    unfold tw at ha ⊢
    rw [lst_up M 137 _ k0, ha, lst_snoc k0, and_255]
set_option maxHeartbeats 600000 in
set_option maxRecDepth 100000 in
theorem sp_laysDue {s n : Int} (hs : 0 ≤ s ∧ s + n ≤ 160) (hn : 0 ≤ n ∧ n ≤ 40) (h : ∀ M', M' 127 14 = n → lst (M' 137) n = tw (M 130) s n → (∀ j, j ≠ 14 → M' 127 j = M 127 j) → (∀ b, b ≠ 127 → b ≠ 137 → M' b = M b) → Q none M') : px_Ok 220 [(2, 127), (0, s), (0, n)] LAY M Q := by
  refine px_ok_go (inl := []) (ls0 := [(2, 127), (0, s), (0, n), (9, 0)]) 60 (by decide) (Nat.le_of_ble_eq_true rfl) rfl ?_
  simp only [px_go, px_Q0_at, px_sx_0, px_sx_s, px_cl, px_step, ↓px_ll, px_lg, f4_, ↓px_r1, ↓px_r2, ↓px_r4, ↓px_r5, ↓px_p1, ↓px_p2, ↓px_p3, ↓px_pop, px_k_0, px_k_s, px_k3_0, px_stk_, px_cats, px_ent, px_st1, px_st2, px_mask, ↓px_tsw, ↓px_lsw, ct_, mls_0, mls_1, mls_2, mls_3, mls_4, mls_5, kd_0, kd_1, kd_2, kd_3, ln_0, ln_1, ln_2, ln_3, gf_0, gf_1, gf_2, gf_3, gf_4, gf_7, gf_21, gf_63, dy_0, dy_1, dy_2, dy_3, dy_7, dy_21, px_brT, px_brF, true_and, and_true, and_false, false_and, and_self, true_implies, false_implies, or_true, true_or, or_false, false_or, eq_self, ne_eq, not_false_eq_true, not_true_eq_false, if_true, if_false, List.mem_cons, List.not_mem_nil, List.length_cons, List.length_nil, Nat.reduceEqDiff, Nat.reduceAdd, Nat.reduceSub, Nat.reduceLeDiff, Nat.reduceLT, Int.reduceEq, Int.reduceLT, Int.reduceLE, Int.reduceNeg, Int.reduceAdd, Int.reduceSub, Int.reduceToNat, ↓reduceIte, one_ne_zero_, zero_ne_one_, px_in32L, cd_220]
  repeat' (first | (with_reducible apply And.intro) | (with_reducible refine px_br_intro (fun _ => ?_) (fun _ => ?_)))
  all_goals (try (first | (unfold px_in32; omega) | omega))
  refine lp_laysDue (M0 := px_up M 127 14 n) hs hn (fun M' a1 a2 => h M' ?_ ?_ (fun j j0 => ?_) (fun b b0 b1 => ?_)) 0 hn.1 _ (Int.le_refl 0) rfl (fun _ _ => rfl)
  · rw [a2 127 (by decide), px_up_at, if_pos ⟨rfl, rfl⟩]
  · rw [a1, row_ne (by decide)]
  · rw [a2 127 (by decide), px_up_at, if_neg (fun z => j0 z.2)]
  · rw [a2 b b1, row_ne b0]
set_option maxHeartbeats 600000 in
set_option maxRecDepth 100000 in
theorem lp_laysDueOf {M0 : px_mem} {i n : Int} (hi : 0 ≤ i ∧ i < 12) (h14 : M0 127 14 = n) (hn : 0 ≤ n ∧ n ≤ 40) (h : ∀ M', lst (M' 137) n = lst (fun k => M0 128 (6 + 54 * i + 14 + k)) n → (∀ b, b ≠ 137 → M' b = M0 b) → Q none M') (k : Int) (hk_k : k ≤ n) : ∀ (M : px_mem), 0 ≤ k → lst (M 137) k = lst (fun k => M0 128 (6 + 54 * i + 14 + k)) k → (∀ b, b ≠ 137 → M b = M0 b) → px_WP 221 0 0 (px_Q0 LAY Q) 19 [(2, 127), (0, i), (0, k)] [] LAY M 0 0 := by
  refine up_ind (P := fun k => ∀ (M : px_mem), 0 ≤ k → lst (M 137) k = lst (fun k => M0 128 (6 + 54 * i + 14 + k)) k → (∀ b, b ≠ 137 → M b = M0 b) → px_WP 221 0 0 (px_Q0 LAY Q) 19 [(2, 127), (0, i), (0, k)] [] LAY M 0 0) (n) (fun k hk_k ih => ?_) k hk_k
  intro M k0 ha hf
  have h128 := hf 128 (by decide)
  have h127 := hf 127 (by decide)
  refine px_go_ok (inl := [214]) 60 ?_
  simp only [px_go, px_Q0_at, px_sx_0, px_sx_s, px_cl, px_step, ↓px_ll, px_lg, f4_, ↓px_r1, ↓px_r2, ↓px_r4, ↓px_r5, ↓px_p1, ↓px_p2, ↓px_p3, ↓px_pop, px_k_0, px_k_s, px_k3_0, px_stk_, px_cats, px_ent, px_st1, px_st2, px_mask, ↓px_tsw, ↓px_lsw, ct_, mls_0, mls_1, mls_2, mls_3, mls_4, mls_5, kd_0, kd_1, kd_2, kd_3, ln_0, ln_1, ln_2, ln_3, gf_0, gf_1, gf_2, gf_3, gf_4, gf_7, gf_21, gf_63, dy_0, dy_1, dy_2, dy_3, dy_7, dy_21, px_brT, px_brF, true_and, and_true, and_false, false_and, and_self, true_implies, false_implies, or_true, true_or, or_false, false_or, eq_self, ne_eq, not_false_eq_true, not_true_eq_false, if_true, if_false, List.mem_cons, List.not_mem_nil, List.length_cons, List.length_nil, Nat.reduceEqDiff, Nat.reduceAdd, Nat.reduceSub, Nat.reduceLeDiff, Nat.reduceLT, Int.reduceEq, Int.reduceLT, Int.reduceLE, Int.reduceNeg, Int.reduceAdd, Int.reduceSub, Int.reduceToNat, ↓reduceIte, one_ne_zero_, zero_ne_one_, px_in32L, cd_221, cd_214, h128, h127, h14]
  repeat' (first | (with_reducible apply And.intro) | (with_reducible refine px_br_intro (fun _ => ?_) (fun _ => ?_)))
  all_goals (try (first | (unfold px_in32; omega) | omega))
  · rw [show k = n by omega] at ha
    exact h M ha hf
  · refine ih (by omega) _ (by omega) ?_ (fun b b0 => by rw [row_ne b0]; exact hf b b0)
    rw [lst_up M 137 _ k0, ha, lst_snoc (f := fun k => M0 128 (6 + 54 * i + 14 + k)) k0]
/-- what stands due -/
def due (M : px_mem) (l : List Int) : Prop := M 127 14 = (l.length : Int) ∧ lst (M 137) (l.length : Int) = l
/-- laid due: what it leaves alone -/
def frD (M' M : px_mem) : Prop := (∀ j, j ≠ 14 → M' 127 j = M 127 j) ∧ ∀ b, b ≠ 127 → b ≠ 137 → M' b = M b
set_option maxHeartbeats 600000 in
set_option maxRecDepth 100000 in
theorem sp_laysDueOf {i : Int} {x : fe} (hi : 0 ≤ i ∧ i < 12) (hx : fR (M 128) i x) (h : ∀ M', due M' x.2 → frD M' M → Q none M') : px_Ok 221 [(2, 127), (0, i)] LAY M Q := by
  have e13 := hx.2.2.2.2.1
  have e40 := hx.2.2.2.2.2.1
  have e14 := hx.2.2.2.2.2.2.1
  refine px_ok_go (inl := [214]) (ls0 := [(2, 127), (0, i), (9, 0)]) 60 (by decide) (Nat.le_of_ble_eq_true rfl) rfl ?_
  simp only [px_go, px_Q0_at, px_sx_0, px_sx_s, px_cl, px_step, ↓px_ll, px_lg, f4_, ↓px_r1, ↓px_r2, ↓px_r4, ↓px_r5, ↓px_p1, ↓px_p2, ↓px_p3, ↓px_pop, px_k_0, px_k_s, px_k3_0, px_stk_, px_cats, px_ent, px_st1, px_st2, px_mask, ↓px_tsw, ↓px_lsw, ct_, mls_0, mls_1, mls_2, mls_3, mls_4, mls_5, kd_0, kd_1, kd_2, kd_3, ln_0, ln_1, ln_2, ln_3, gf_0, gf_1, gf_2, gf_3, gf_4, gf_7, gf_21, gf_63, dy_0, dy_1, dy_2, dy_3, dy_7, dy_21, px_brT, px_brF, true_and, and_true, and_false, false_and, and_self, true_implies, false_implies, or_true, true_or, or_false, false_or, eq_self, ne_eq, not_false_eq_true, not_true_eq_false, if_true, if_false, List.mem_cons, List.not_mem_nil, List.length_cons, List.length_nil, Nat.reduceEqDiff, Nat.reduceAdd, Nat.reduceSub, Nat.reduceLeDiff, Nat.reduceLT, Int.reduceEq, Int.reduceLT, Int.reduceLE, Int.reduceNeg, Int.reduceAdd, Int.reduceSub, Int.reduceToNat, ↓reduceIte, one_ne_zero_, zero_ne_one_, px_in32L, cd_221, cd_214, e13]
  repeat' (first | (with_reducible apply And.intro) | (with_reducible refine px_br_intro (fun _ => ?_) (fun _ => ?_)))
  all_goals (try (first | (unfold px_in32; omega) | omega))
  refine lp_laysDueOf (M0 := px_up M 127 14 (x.2.length : Int)) (i := i) (n := (x.2.length : Int)) hi (by rw [px_up_at, if_pos ⟨rfl, rfl⟩]) (by omega) (fun M' a1 a2 => h M' ⟨?_, ?_⟩ ⟨fun j j0 => ?_, fun b b0 b1 => ?_⟩) 0 (by omega) _ (Int.le_refl 0) rfl (fun _ _ => rfl)
  · rw [a2 127 (by decide), px_up_at, if_pos ⟨rfl, rfl⟩]
  · rw [a1, row_ne (by decide)]; exact e14
  · rw [a2 127 (by decide), px_up_at, if_neg (fun z => j0 z.2)]
  · rw [a2 b b1, row_ne b0]
set_option maxHeartbeats 600000 in
set_option maxRecDepth 100000 in
theorem sp_areLaid {p n : Int} (ht : 0 ≤ M 127 3 ∧ M 127 3 ≤ 160) (h1 : (1 ≤ p ∧ p ≤ 12 ∧ 0 ≤ n ∧ n ≤ 40 ∧ p + n ≤ M 127 3) → Q (some (0, 1)) M) (h0 : ¬ (1 ≤ p ∧ p ≤ 12 ∧ 0 ≤ n ∧ n ≤ 40 ∧ p + n ≤ M 127 3) → Q (some (0, 0)) M) : px_Ok 222 [(2, 127), (0, p), (0, n)] LAY M Q := by
  refine px_ok_go (inl := [170]) (ls0 := [(2, 127), (0, p), (0, n)]) 60 (by decide) (Nat.le_of_ble_eq_true rfl) rfl ?_
  simp only [px_go, px_Q0_at, px_sx_0, px_sx_s, px_cl, px_step, ↓px_ll, px_lg, f4_, ↓px_r1, ↓px_r2, ↓px_r4, ↓px_r5, ↓px_p1, ↓px_p2, ↓px_p3, ↓px_pop, px_k_0, px_k_s, px_k3_0, px_stk_, px_cats, px_ent, px_st1, px_st2, px_mask, ↓px_tsw, ↓px_lsw, ct_, mls_0, mls_1, mls_2, mls_3, mls_4, mls_5, kd_0, kd_1, kd_2, kd_3, ln_0, ln_1, ln_2, ln_3, gf_0, gf_1, gf_2, gf_3, gf_4, gf_7, gf_21, gf_63, dy_0, dy_1, dy_2, dy_3, dy_7, dy_21, px_brT, px_brF, true_and, and_true, and_false, false_and, and_self, true_implies, false_implies, or_true, true_or, or_false, false_or, eq_self, ne_eq, not_false_eq_true, not_true_eq_false, if_true, if_false, List.mem_cons, List.not_mem_nil, List.length_cons, List.length_nil, Nat.reduceEqDiff, Nat.reduceAdd, Nat.reduceSub, Nat.reduceLeDiff, Nat.reduceLT, Int.reduceEq, Int.reduceLT, Int.reduceLE, Int.reduceNeg, Int.reduceAdd, Int.reduceSub, Int.reduceToNat, ↓reduceIte, one_ne_zero_, zero_ne_one_, px_in32L, cd_222, cd_170]
  repeat' (first | (with_reducible apply And.intro) | (with_reducible refine px_br_intro (fun _ => ?_) (fun _ => ?_)))
  all_goals (try (first | (unfold px_in32; omega) | omega))
  all_goals first
    | exact h1 (by omega)
    | exact h0 (by omega)
set_option maxHeartbeats 600000 in
set_option maxRecDepth 100000 in
theorem lp_stageUnder {n v : Int} {g : Int → fe} (hst : sR (M 128) n g) (hkv : px_kd LAY v = 0) (hp : pok (M v) 0 (px_ln LAY v)) (hln : px_ln LAY v < 10000) (hne : 0 < M v 0) (h : Q (some (0, sm n (fun i => b1 (wi (g i).1 (fp (M v) 0))))) M) (k : Int) (hk_k : k ≤ n) : 0 ≤ k → px_WP 224 0 0 (px_Q0 LAY Q) 4 [(2, 127), (2, v), (0, sm k (fun i => b1 (wi (g i).1 (fp (M v) 0)))), (0, k)] [] LAY M 0 0 := by
  refine up_ind (P := fun k => 0 ≤ k → px_WP 224 0 0 (px_Q0 LAY Q) 4 [(2, 127), (2, v), (0, sm k (fun i => b1 (wi (g i).1 (fp (M v) 0)))), (0, k)] [] LAY M 0 0) (n) (fun k hk_k ih => ?_) k hk_k
  intro k0
  have h1 := hst.1
  have h2 := hst.2.1
  have h3 := hst.2.2.1
  have hs := @sm_w k k0 (fun i => b1 (wi (g i).1 (fp (M v) 0)))
  have hr := sm_bnd (c := 1) k0 (f := fun i => b1 (wi (g i).1 (fp (M v) 0))) (fun _ _ _ => b1_rng _)
  refine px_go_ok (inl := [214]) 60 ?_
  simp only [px_go, px_Q0_at, px_sx_0, px_sx_s, px_cl, px_step, ↓px_ll, px_lg, f4_, ↓px_r1, ↓px_r2, ↓px_r4, ↓px_r5, ↓px_p1, ↓px_p2, ↓px_p3, ↓px_pop, px_k_0, px_k_s, px_k3_0, px_stk_, px_cats, px_ent, px_st1, px_st2, px_mask, ↓px_tsw, ↓px_lsw, ct_, mls_0, mls_1, mls_2, mls_3, mls_4, mls_5, kd_0, kd_1, kd_2, kd_3, ln_0, ln_1, ln_2, ln_3, gf_0, gf_1, gf_2, gf_3, gf_4, gf_7, gf_21, gf_63, dy_0, dy_1, dy_2, dy_3, dy_7, dy_21, px_brT, px_brF, true_and, and_true, and_false, false_and, and_self, true_implies, false_implies, or_true, true_or, or_false, false_or, eq_self, ne_eq, not_false_eq_true, not_true_eq_false, if_true, if_false, List.mem_cons, List.not_mem_nil, List.length_cons, List.length_nil, Nat.reduceEqDiff, Nat.reduceAdd, Nat.reduceSub, Nat.reduceLeDiff, Nat.reduceLT, Int.reduceEq, Int.reduceLT, Int.reduceLE, Int.reduceNeg, Int.reduceAdd, Int.reduceSub, Int.reduceToNat, ↓reduceIte, one_ne_zero_, zero_ne_one_, px_in32L, cd_224, cd_214, h1]
  repeat' (first | (with_reducible apply And.intro) | (with_reducible refine px_br_intro (fun _ => ?_) (fun _ => ?_)))
  all_goals (try (first | (unfold px_in32; omega) | omega))
  · rw [show k = n by omega]; exact h
  · have f := hst.2.2.2 k k0 (by omega)
    refine sp_isUnder rfl hkv f.2.2.1 hp ⟨by decide, hln⟩ hne (fun w => ?_) (fun w => ?_)
    · rw [f.2.2.2.1] at w
      simp only [px_go, px_Q0_at, px_sx_0, px_sx_s, px_cl, px_step, ↓px_ll, px_lg, f4_, ↓px_r1, ↓px_r2, ↓px_r4, ↓px_r5, ↓px_p1, ↓px_p2, ↓px_p3, ↓px_pop, px_k_0, px_k_s, px_k3_0, px_stk_, px_cats, px_ent, px_st1, px_st2, px_mask, ↓px_tsw, ↓px_lsw, ct_, mls_0, mls_1, mls_2, mls_3, mls_4, mls_5, kd_0, kd_1, kd_2, kd_3, ln_0, ln_1, ln_2, ln_3, gf_0, gf_1, gf_2, gf_3, gf_4, gf_7, gf_21, gf_63, dy_0, dy_1, dy_2, dy_3, dy_7, dy_21, px_brT, px_brF, true_and, and_true, and_false, false_and, and_self, true_implies, false_implies, or_true, true_or, or_false, false_or, eq_self, ne_eq, not_false_eq_true, not_true_eq_false, if_true, if_false, List.mem_cons, List.not_mem_nil, List.length_cons, List.length_nil, Nat.reduceEqDiff, Nat.reduceAdd, Nat.reduceSub, Nat.reduceLeDiff, Nat.reduceLT, Int.reduceEq, Int.reduceLT, Int.reduceLE, Int.reduceNeg, Int.reduceAdd, Int.reduceSub, Int.reduceToNat, ↓reduceIte, one_ne_zero_, zero_ne_one_, px_in32L, cd_224, cd_214]
      repeat' (first | (with_reducible apply And.intro) | (with_reducible refine px_br_intro (fun _ => ?_) (fun _ => ?_)))
      all_goals (try (first | (unfold px_in32; omega) | omega))
      rw [← hs (b1_t w)]
      exact ih (by omega) (by omega)
    · rw [f.2.2.2.1] at w
      simp only [px_go, px_Q0_at, px_sx_0, px_sx_s, px_cl, px_step, ↓px_ll, px_lg, f4_, ↓px_r1, ↓px_r2, ↓px_r4, ↓px_r5, ↓px_p1, ↓px_p2, ↓px_p3, ↓px_pop, px_k_0, px_k_s, px_k3_0, px_stk_, px_cats, px_ent, px_st1, px_st2, px_mask, ↓px_tsw, ↓px_lsw, ct_, mls_0, mls_1, mls_2, mls_3, mls_4, mls_5, kd_0, kd_1, kd_2, kd_3, ln_0, ln_1, ln_2, ln_3, gf_0, gf_1, gf_2, gf_3, gf_4, gf_7, gf_21, gf_63, dy_0, dy_1, dy_2, dy_3, dy_7, dy_21, px_brT, px_brF, true_and, and_true, and_false, false_and, and_self, true_implies, false_implies, or_true, true_or, or_false, false_or, eq_self, ne_eq, not_false_eq_true, not_true_eq_false, if_true, if_false, List.mem_cons, List.not_mem_nil, List.length_cons, List.length_nil, Nat.reduceEqDiff, Nat.reduceAdd, Nat.reduceSub, Nat.reduceLeDiff, Nat.reduceLT, Int.reduceEq, Int.reduceLT, Int.reduceLE, Int.reduceNeg, Int.reduceAdd, Int.reduceSub, Int.reduceToNat, ↓reduceIte, one_ne_zero_, zero_ne_one_, px_in32L, cd_224, cd_214]
      repeat' (first | (with_reducible apply And.intro) | (with_reducible refine px_br_intro (fun _ => ?_) (fun _ => ?_)))
      all_goals (try (first | (unfold px_in32; omega) | omega))
      have e := hs (b1_f w)
      rw [Int.add_zero] at e
      rw [← e]
      exact ih (by omega) (by omega)
set_option maxHeartbeats 600000 in
set_option maxRecDepth 100000 in
theorem sp_stageUnder {n v : Int} {g : Int → fe} (hst : sR (M 128) n g) (hkv : px_kd LAY v = 0) (hp : pok (M v) 0 (px_ln LAY v)) (hln : px_ln LAY v < 10000) (hne : 0 < M v 0) (h : Q (some (0, sm n (fun i => b1 (wi (g i).1 (fp (M v) 0))))) M) : px_Ok 224 [(2, 127), (2, v)] LAY M Q := by
  refine px_ok_go (inl := []) (ls0 := [(2, 127), (2, v), (9, 0), (9, 0)]) 60 (by decide) (Nat.le_of_ble_eq_true rfl) rfl ?_
  simp only [px_go, px_Q0_at, px_sx_0, px_sx_s, px_cl, px_step, ↓px_ll, px_lg, f4_, ↓px_r1, ↓px_r2, ↓px_r4, ↓px_r5, ↓px_p1, ↓px_p2, ↓px_p3, ↓px_pop, px_k_0, px_k_s, px_k3_0, px_stk_, px_cats, px_ent, px_st1, px_st2, px_mask, ↓px_tsw, ↓px_lsw, ct_, mls_0, mls_1, mls_2, mls_3, mls_4, mls_5, kd_0, kd_1, kd_2, kd_3, ln_0, ln_1, ln_2, ln_3, gf_0, gf_1, gf_2, gf_3, gf_4, gf_7, gf_21, gf_63, dy_0, dy_1, dy_2, dy_3, dy_7, dy_21, px_brT, px_brF, true_and, and_true, and_false, false_and, and_self, true_implies, false_implies, or_true, true_or, or_false, false_or, eq_self, ne_eq, not_false_eq_true, not_true_eq_false, if_true, if_false, List.mem_cons, List.not_mem_nil, List.length_cons, List.length_nil, Nat.reduceEqDiff, Nat.reduceAdd, Nat.reduceSub, Nat.reduceLeDiff, Nat.reduceLT, Int.reduceEq, Int.reduceLT, Int.reduceLE, Int.reduceNeg, Int.reduceAdd, Int.reduceSub, Int.reduceToNat, ↓reduceIte, one_ne_zero_, zero_ne_one_, px_in32L, cd_224]
  repeat' (first | (with_reducible apply And.intro) | (with_reducible refine px_br_intro (fun _ => ?_) (fun _ => ?_)))
  all_goals (try (first | (unfold px_in32; omega) | omega))
  exact lp_stageUnder hst hkv hp hln hne h 0 hst.2.1 (Int.le_refl 0)
set_option maxHeartbeats 600000 in
set_option maxRecDepth 100000 in
theorem lp_takesAway {M0 : px_mem} {N v : Int} {g : Int → fe} (hN : N ≤ 12) (hs0 : srt N g) (hkv : px_kd LAY v = 0) (hv : v ≠ 128) (hp : pok (M0 v) 0 (px_ln LAY v)) (hln : px_ln LAY v < 10000) (hne : 0 < M0 v 0) (h : ∀ M' N' g', sR (M' 128) N' g' → srt N' g' → (∀ y, isM N' g' y ↔ (isM N g y ∧ ¬ wi y.1 (fp (M0 v) 0))) → N' ≤ N → frf (M' 128) (M0 128) → (∀ b, b ≠ 128 → M' b = M0 b) → N' = N - sm N (fun j => b1 (wi (g j).1 (fp (M0 v) 0))) → Q (some (0, N - N')) M') (i : Int) (hk_i : -1 ≤ i) : ∀ (M : px_mem) (n' : Int) (g' : Int → fe), (i < n' ∧ n' ≤ N) → n' = N - sm N (fun j => b1 (wi (g j).1 (fp (M0 v) 0))) + sm (i + 1) (fun j => b1 (wi (g j).1 (fp (M0 v) 0))) → sR (M 128) n' g' → srt n' g' → (∀ j, 0 ≤ j → j ≤ i → g' j = g j) → (∀ y, isM n' g' y ↔ ((∃ j, 0 ≤ j ∧ j ≤ i ∧ g j = y) ∨ (isM N g y ∧ ¬ wi y.1 (fp (M0 v) 0)))) → frf (M 128) (M0 128) → (∀ b, b ≠ 128 → M b = M0 b) → px_WP 225 0 0 (px_Q0 LAY Q) 11 [(2, 127), (2, v), (0, N - n'), (0, i)] [] LAY M 0 0 := by
  refine dn_ind (P := fun i => ∀ (M : px_mem) (n' : Int) (g' : Int → fe), (i < n' ∧ n' ≤ N) → n' = N - sm N (fun j => b1 (wi (g j).1 (fp (M0 v) 0))) + sm (i + 1) (fun j => b1 (wi (g j).1 (fp (M0 v) 0))) → sR (M 128) n' g' → srt n' g' → (∀ j, 0 ≤ j → j ≤ i → g' j = g j) → (∀ y, isM n' g' y ↔ ((∃ j, 0 ≤ j ∧ j ≤ i ∧ g j = y) ∨ (isM N g y ∧ ¬ wi y.1 (fp (M0 v) 0)))) → frf (M 128) (M0 128) → (∀ b, b ≠ 128 → M b = M0 b) → px_WP 225 0 0 (px_Q0 LAY Q) 11 [(2, 127), (2, v), (0, N - n'), (0, i)] [] LAY M 0 0) (-1) (fun i hk_i ih => ?_) i hk_i
  intro M n' g' iN hct hst hs hlo hm hff hf
  have h2 := hst.2.1
  have hMv := hf v hv
  refine px_go_ok (inl := [214]) 60 ?_
  simp only [px_go, px_Q0_at, px_sx_0, px_sx_s, px_cl, px_step, ↓px_ll, px_lg, f4_, ↓px_r1, ↓px_r2, ↓px_r4, ↓px_r5, ↓px_p1, ↓px_p2, ↓px_p3, ↓px_pop, px_k_0, px_k_s, px_k3_0, px_stk_, px_cats, px_ent, px_st1, px_st2, px_mask, ↓px_tsw, ↓px_lsw, ct_, mls_0, mls_1, mls_2, mls_3, mls_4, mls_5, kd_0, kd_1, kd_2, kd_3, ln_0, ln_1, ln_2, ln_3, gf_0, gf_1, gf_2, gf_3, gf_4, gf_7, gf_21, gf_63, dy_0, dy_1, dy_2, dy_3, dy_7, dy_21, px_brT, px_brF, true_and, and_true, and_false, false_and, and_self, true_implies, false_implies, or_true, true_or, or_false, false_or, eq_self, ne_eq, not_false_eq_true, not_true_eq_false, if_true, if_false, List.mem_cons, List.not_mem_nil, List.length_cons, List.length_nil, Nat.reduceEqDiff, Nat.reduceAdd, Nat.reduceSub, Nat.reduceLeDiff, Nat.reduceLT, Int.reduceEq, Int.reduceLT, Int.reduceLE, Int.reduceNeg, Int.reduceAdd, Int.reduceSub, Int.reduceToNat, ↓reduceIte, one_ne_zero_, zero_ne_one_, px_in32L, cd_225, cd_214]
  repeat' (first | (with_reducible apply And.intro) | (with_reducible refine px_br_intro (fun _ => ?_) (fun _ => ?_)))
  all_goals (try (first | (unfold px_in32; omega) | omega))
  · rename_i c1
    refine h M n' g' hst hs (fun y => ?_) iN.2 hff hf (by rw [show i + 1 = 0 by omega, sm_0] at hct; omega)
    rw [hm y]
    exact ⟨fun z => z.elim (fun ⟨j, j0, j1, _⟩ => by omega) id, Or.inr⟩
  · rename_i c1
    have f := hst.2.2.2 i (by omega) (by omega)
    have eg := hlo i (by omega) (Int.le_refl i)
    refine sp_isUnder rfl hkv f.2.2.1 (by rw [hMv]; exact hp) ⟨by decide, hln⟩ (by rw [hMv]; exact hne) (fun w => ?_) (fun w => ?_)
    · rw [f.2.2.2.1, hMv, eg] at w
      simp only [px_go, px_Q0_at, px_sx_0, px_sx_s, px_cl, px_step, ↓px_ll, px_lg, f4_, ↓px_r1, ↓px_r2, ↓px_r4, ↓px_r5, ↓px_p1, ↓px_p2, ↓px_p3, ↓px_pop, px_k_0, px_k_s, px_k3_0, px_stk_, px_cats, px_ent, px_st1, px_st2, px_mask, ↓px_tsw, ↓px_lsw, ct_, mls_0, mls_1, mls_2, mls_3, mls_4, mls_5, kd_0, kd_1, kd_2, kd_3, ln_0, ln_1, ln_2, ln_3, gf_0, gf_1, gf_2, gf_3, gf_4, gf_7, gf_21, gf_63, dy_0, dy_1, dy_2, dy_3, dy_7, dy_21, px_brT, px_brF, true_and, and_true, and_false, false_and, and_self, true_implies, false_implies, or_true, true_or, or_false, false_or, eq_self, ne_eq, not_false_eq_true, not_true_eq_false, if_true, if_false, List.mem_cons, List.not_mem_nil, List.length_cons, List.length_nil, Nat.reduceEqDiff, Nat.reduceAdd, Nat.reduceSub, Nat.reduceLeDiff, Nat.reduceLT, Int.reduceEq, Int.reduceLT, Int.reduceLE, Int.reduceNeg, Int.reduceAdd, Int.reduceSub, Int.reduceToNat, ↓reduceIte, one_ne_zero_, zero_ne_one_, px_in32L, cd_225, cd_214]
      refine sp_closes hst ⟨by omega, by omega⟩ (fun M1 q1 q2 q3 => ?_)
      simp only [px_go, px_Q0_at, px_sx_0, px_sx_s, px_cl, px_step, ↓px_ll, px_lg, f4_, ↓px_r1, ↓px_r2, ↓px_r4, ↓px_r5, ↓px_p1, ↓px_p2, ↓px_p3, ↓px_pop, px_k_0, px_k_s, px_k3_0, px_stk_, px_cats, px_ent, px_st1, px_st2, px_mask, ↓px_tsw, ↓px_lsw, ct_, mls_0, mls_1, mls_2, mls_3, mls_4, mls_5, kd_0, kd_1, kd_2, kd_3, ln_0, ln_1, ln_2, ln_3, gf_0, gf_1, gf_2, gf_3, gf_4, gf_7, gf_21, gf_63, dy_0, dy_1, dy_2, dy_3, dy_7, dy_21, px_brT, px_brF, true_and, and_true, and_false, false_and, and_self, true_implies, false_implies, or_true, true_or, or_false, false_or, eq_self, ne_eq, not_false_eq_true, not_true_eq_false, if_true, if_false, List.mem_cons, List.not_mem_nil, List.length_cons, List.length_nil, Nat.reduceEqDiff, Nat.reduceAdd, Nat.reduceSub, Nat.reduceLeDiff, Nat.reduceLT, Int.reduceEq, Int.reduceLT, Int.reduceLE, Int.reduceNeg, Int.reduceAdd, Int.reduceSub, Int.reduceToNat, ↓reduceIte, one_ne_zero_, zero_ne_one_, px_in32L, cd_225, cd_214]
      repeat' (first | (with_reducible apply And.intro) | (with_reducible refine px_br_intro (fun _ => ?_) (fun _ => ?_)))
      all_goals (try (first | (unfold px_in32; omega) | omega))
      have := ih (by omega) M1 (n' - 1) (shp g' i) (by omega) (by rw [sm_w (show 0 ≤ i by omega) _ (b1_t w)] at hct; rw [show i - 1 + 1 = i by omega]; omega) q1 (shp_srt hs (by omega)) (fun j j0 j1 => ?_) (fun y => ?_) (frf_trans q2 hff) (fun b b0 => by rw [q3 b b0, hf b b0])
      · rw [show N - (n' - 1) = N - n' + 1 by omega] at this
        exact this
      · unfold shp; rw [if_pos (by omega)]; exact hlo j j0 (by omega)
      · rw [shp_isM hs (by omega) (by omega), hm y, eg]
        constructor
        · rintro ⟨⟨j, j0, j1, j2⟩ | z, z2⟩
          · refine Or.inl ⟨j, j0, ?_, j2⟩
            have : j ≠ i := fun e => z2 (by rw [← j2, e])
            omega
          · exact Or.inr z
        · rintro (⟨j, j0, j1, j2⟩ | z)
          · refine ⟨Or.inl ⟨j, j0, by omega, j2⟩, fun e => ?_⟩
            have := srt_ne hs0 j0 (by omega) (show 0 ≤ i by omega) (by omega) (by rw [j2, e])
            omega
          · exact ⟨Or.inr z, fun e => z.2 (by rw [e]; exact w)⟩
    · rw [f.2.2.2.1, hMv, eg] at w
      simp only [px_go, px_Q0_at, px_sx_0, px_sx_s, px_cl, px_step, ↓px_ll, px_lg, f4_, ↓px_r1, ↓px_r2, ↓px_r4, ↓px_r5, ↓px_p1, ↓px_p2, ↓px_p3, ↓px_pop, px_k_0, px_k_s, px_k3_0, px_stk_, px_cats, px_ent, px_st1, px_st2, px_mask, ↓px_tsw, ↓px_lsw, ct_, mls_0, mls_1, mls_2, mls_3, mls_4, mls_5, kd_0, kd_1, kd_2, kd_3, ln_0, ln_1, ln_2, ln_3, gf_0, gf_1, gf_2, gf_3, gf_4, gf_7, gf_21, gf_63, dy_0, dy_1, dy_2, dy_3, dy_7, dy_21, px_brT, px_brF, true_and, and_true, and_false, false_and, and_self, true_implies, false_implies, or_true, true_or, or_false, false_or, eq_self, ne_eq, not_false_eq_true, not_true_eq_false, if_true, if_false, List.mem_cons, List.not_mem_nil, List.length_cons, List.length_nil, Nat.reduceEqDiff, Nat.reduceAdd, Nat.reduceSub, Nat.reduceLeDiff, Nat.reduceLT, Int.reduceEq, Int.reduceLT, Int.reduceLE, Int.reduceNeg, Int.reduceAdd, Int.reduceSub, Int.reduceToNat, ↓reduceIte, one_ne_zero_, zero_ne_one_, px_in32L, cd_225, cd_214]
      repeat' (first | (with_reducible apply And.intro) | (with_reducible refine px_br_intro (fun _ => ?_) (fun _ => ?_)))
      all_goals (try (first | (unfold px_in32; omega) | omega))
      refine ih (by omega) M n' g' (by omega) (by rw [sm_w (show 0 ≤ i by omega) _ (b1_f w)] at hct; rw [show i - 1 + 1 = i by omega]; omega) hst hs (fun j j0 j1 => hlo j j0 (by omega)) (fun y => ?_) hff hf
      rw [hm y]
      constructor
      · rintro (⟨j, j0, j1, j2⟩ | z)
        · by_cases q : j = i
          · refine Or.inr ⟨⟨j, j0, by omega, j2⟩, ?_⟩
            rw [← j2, q]; exact w
          · exact Or.inl ⟨j, j0, by omega, j2⟩
        · exact Or.inr z
      · rintro (⟨j, j0, j1, j2⟩ | z)
        · exact Or.inl ⟨j, j0, by omega, j2⟩
        · exact Or.inr z
set_option maxHeartbeats 600000 in
set_option maxRecDepth 100000 in
theorem sp_takesAway {N v : Int} {g : Int → fe} (hst : sR (M 128) N g) (hs0 : srt N g) (hkv : px_kd LAY v = 0) (hv : v ≠ 128) (hp : pok (M v) 0 (px_ln LAY v)) (hln : px_ln LAY v < 10000) (hne : 0 < M v 0) (h : ∀ M' N' g', sR (M' 128) N' g' → srt N' g' → (∀ y, isM N' g' y ↔ (isM N g y ∧ ¬ wi y.1 (fp (M v) 0))) → N' ≤ N → frf (M' 128) (M 128) → (∀ b, b ≠ 128 → M' b = M b) → N' = N - sm N (fun j => b1 (wi (g j).1 (fp (M v) 0))) → Q (some (0, N - N')) M') : px_Ok 225 [(2, 127), (2, v)] LAY M Q := by
  have h1 := hst.1
  have h2 := hst.2.1
  have h3 := hst.2.2.1
  refine px_ok_go (inl := []) (ls0 := [(2, 127), (2, v), (9, 0), (9, 0)]) 60 (by decide) (Nat.le_of_ble_eq_true rfl) rfl ?_
  simp only [px_go, px_Q0_at, px_sx_0, px_sx_s, px_cl, px_step, ↓px_ll, px_lg, f4_, ↓px_r1, ↓px_r2, ↓px_r4, ↓px_r5, ↓px_p1, ↓px_p2, ↓px_p3, ↓px_pop, px_k_0, px_k_s, px_k3_0, px_stk_, px_cats, px_ent, px_st1, px_st2, px_mask, ↓px_tsw, ↓px_lsw, ct_, mls_0, mls_1, mls_2, mls_3, mls_4, mls_5, kd_0, kd_1, kd_2, kd_3, ln_0, ln_1, ln_2, ln_3, gf_0, gf_1, gf_2, gf_3, gf_4, gf_7, gf_21, gf_63, dy_0, dy_1, dy_2, dy_3, dy_7, dy_21, px_brT, px_brF, true_and, and_true, and_false, false_and, and_self, true_implies, false_implies, or_true, true_or, or_false, false_or, eq_self, ne_eq, not_false_eq_true, not_true_eq_false, if_true, if_false, List.mem_cons, List.not_mem_nil, List.length_cons, List.length_nil, Nat.reduceEqDiff, Nat.reduceAdd, Nat.reduceSub, Nat.reduceLeDiff, Nat.reduceLT, Int.reduceEq, Int.reduceLT, Int.reduceLE, Int.reduceNeg, Int.reduceAdd, Int.reduceSub, Int.reduceToNat, ↓reduceIte, one_ne_zero_, zero_ne_one_, px_in32L, cd_225, h1]
  repeat' (first | (with_reducible apply And.intro) | (with_reducible refine px_br_intro (fun _ => ?_) (fun _ => ?_)))
  all_goals (try (first | (unfold px_in32; omega) | omega))
  have := lp_takesAway (M0 := M) (N := N) (v := v) h3 hs0 hkv hv hp hln hne h (N - 1) (by omega) M N g (by omega) (by rw [show N - 1 + 1 = N by omega]; omega) hst hs0 (fun _ _ _ => rfl) (fun y => ?_) (frf_refl _) (fun _ _ => rfl)
  · rw [show N - N = 0 by omega] at this
    exact this
  · constructor
    · rintro ⟨j, j0, j1, j2⟩; exact Or.inl ⟨j, j0, by omega, j2⟩
    · rintro (⟨j, j0, j1, j2⟩ | z)
      · exact ⟨j, j0, by omega, j2⟩
      · exact z.1
end PS
