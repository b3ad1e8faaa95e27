set_option maxRecDepth 100000 in
/-- X11_drop -/
theorem cd_125 : px_at 125 0 = some (1, [], .aload_n 0, []) ∧ px_at 125 1 = some (4, [], .getfield 26, [10, 2, 2, 1, 116]) ∧ px_at 125 4 = some (5, [], .iload_n 1, []) ∧ px_at 125 5 = some (8, [], .invokevirtual 162, [47, 1, 3, 61]) ∧ px_at 125 8 = some (9, [], .astore_n 2, []) ∧ px_at 125 9 = some (10, [], .aload_n 2, []) ∧ px_at 125 10 = some (13, [], .ifnonnull 6, [16]) ∧ px_at 125 13 = some (15, [], .bipush (-2), []) ∧ px_at 125 15 = some (16, [], .ireturn, [0]) ∧ px_at 125 16 = some (17, [], .aload_n 2, []) ∧ px_at 125 17 = some (20, [], .getfield 217, [2, 6, 4, 0, 43]) ∧ px_at 125 20 = some (23, [], .ifCond .eq 6, [26]) ∧ px_at 125 23 = some (25, [], .bipush (-3), []) ∧ px_at 125 25 = some (26, [], .ireturn, [0]) ∧ px_at 125 26 = some (27, [], .aload_n 0, []) ∧ px_at 125 27 = some (28, [], .aload_n 2, []) ∧ px_at 125 28 = some (31, [], .invokevirtual 221, [126, 1, 10, 108]) ∧ px_at 125 31 = some (32, [], .ireturn, [0]) := ⟨rfl, rfl, rfl, rfl, rfl, rfl, rfl, rfl, rfl, rfl, rfl, rfl, rfl, rfl, rfl, rfl, rfl, rfl⟩
set_option maxRecDepth 100000 in
/-- X11_thin -/
theorem cd_127 : px_at 127 0 = some (1, [], .iload_n 1, []) ∧ px_at 127 1 = some (4, [], .ifCond .lt 9, [10]) ∧ px_at 127 4 = some (5, [], .iload_n 1, []) ∧ px_at 127 5 = some (7, [], .bipush 10, []) ∧ px_at 127 7 = some (10, [], .if_icmp .le 5, [12]) ∧ px_at 127 10 = some (11, [], .iconst (-1), []) ∧ px_at 127 11 = some (12, [], .ireturn, [0]) ∧ px_at 127 12 = some (13, [], .aload_n 0, []) ∧ px_at 127 13 = some (16, [], .getfield 26, [10, 2, 2, 1, 116]) ∧ px_at 127 16 = some (19, [], .getfield 139, [3, 1, 0, 0, 50]) ∧ px_at 127 19 = some (20, [], .iload_n 1, []) ∧ px_at 127 20 = some (21, [], .isub, []) ∧ px_at 127 21 = some (22, [], .istore_n 2, []) ∧ px_at 127 22 = some (23, [], .iconst 0, []) ∧ px_at 127 23 = some (24, [], .istore_n 3, []) ∧ px_at 127 24 = some (25, [], .iconst 0, []) ∧ px_at 127 25 = some (27, [], .istore 4, []) ∧ px_at 127 27 = some (28, [], .iconst 0, []) ∧ px_at 127 28 = some (30, [], .istore 5, []) ∧ px_at 127 30 = some (32, [1, 0, 1, 1, 1, 1, 0], .iload 5, []) ∧ px_at 127 32 = some (33, [], .iload_n 2, []) ∧ px_at 127 33 = some (36, [], .if_icmp .ge 49, [82]) ∧ px_at 127 36 = some (37, [], .aload_n 0, []) ∧ px_at 127 37 = some (40, [], .getfield 26, [10, 2, 2, 1, 116]) ∧ px_at 127 40 = some (41, [], .iload_n 3, []) ∧ px_at 127 41 = some (44, [], .invokevirtual 243, [45, 1, 3, 115]) ∧ px_at 127 44 = some (46, [], .astore 6, []) ∧ px_at 127 46 = some (48, [], .aload 6, []) ∧ px_at 127 48 = some (51, [], .ifnull 11, [59]) ∧ px_at 127 51 = some (53, [], .aload 6, []) ∧ px_at 127 53 = some (56, [], .getfield 217, [2, 6, 4, 0, 43]) ∧ px_at 127 56 = some (59, [], .ifCond .eq 9, [65]) ∧ px_at 127 59 = some (62, [], .iinc 3 1, []) ∧ px_at 127 62 = some (65, [], .goto 14, [76]) ∧ px_at 127 65 = some (67, [], .iload 4, []) ∧ px_at 127 67 = some (68, [], .aload_n 0, []) ∧ px_at 127 68 = some (70, [], .aload 6, []) ∧ px_at 127 70 = some (73, [], .invokevirtual 221, [126, 1, 10, 108]) ∧ px_at 127 73 = some (74, [], .iadd, []) ∧ px_at 127 74 = some (76, [], .istore 4, []) ∧ px_at 127 76 = some (79, [], .iinc 5 1, []) ∧ px_at 127 79 = some (82, [], .goto (-49), [30]) ∧ px_at 127 82 = some (84, [], .iload 4, []) ∧ px_at 127 84 = some (85, [], .ireturn, [0]) := ⟨rfl, rfl, rfl, rfl, rfl, rfl, rfl, rfl, rfl, rfl, rfl, rfl, rfl, rfl, rfl, rfl, rfl, rfl, rfl, rfl, rfl, rfl, rfl, rfl, rfl, rfl, rfl, rfl, rfl, rfl, rfl, rfl, rfl, rfl, rfl, rfl, rfl, rfl, rfl, rfl, rfl, rfl, rfl, rfl⟩
set_option maxRecDepth 100000 in
/-- X11_seal -/
theorem cd_128 : px_at 128 0 = some (1, [], .aload_n 0, []) ∧ px_at 128 1 = some (4, [], .getfield 26, [10, 2, 2, 1, 116]) ∧ px_at 128 4 = some (5, [], .iload_n 1, []) ∧ px_at 128 5 = some (8, [], .invokevirtual 162, [47, 1, 3, 61]) ∧ px_at 128 8 = some (9, [], .astore_n 3, []) ∧ px_at 128 9 = some (10, [], .aload_n 3, []) ∧ px_at 128 10 = some (13, [], .ifnonnull 6, [16]) ∧ px_at 128 13 = some (15, [], .bipush (-2), []) ∧ px_at 128 15 = some (16, [], .ireturn, [0]) ∧ px_at 128 16 = some (17, [], .aload_n 3, []) ∧ px_at 128 17 = some (20, [], .getfield 217, [2, 6, 4, 0, 43]) ∧ px_at 128 20 = some (21, [], .iload_n 2, []) ∧ px_at 128 21 = some (24, [], .if_icmp .ne 6, [27]) ∧ px_at 128 24 = some (26, [], .bipush (-3), []) ∧ px_at 128 26 = some (27, [], .ireturn, [0]) ∧ px_at 128 27 = some (28, [], .aload_n 3, []) ∧ px_at 128 28 = some (29, [], .iload_n 2, []) ∧ px_at 128 29 = some (32, [], .putfield 217, [2, 6, 4, 0, 43]) ∧ px_at 128 32 = some (33, [], .iconst 1, []) ∧ px_at 128 33 = some (34, [], .ireturn, [0]) := ⟨rfl, rfl, rfl, rfl, rfl, rfl, rfl, rfl, rfl, rfl, rfl, rfl, rfl, rfl, rfl, rfl, rfl, rfl, rfl, rfl⟩
set_option maxRecDepth 100000 in
/-- X11_name -/
theorem cd_129 : px_at 129 0 = some (1, [], .iload_n 2, []) ∧ px_at 129 1 = some (4, [], .ifCond .lt 20, [21]) ∧ px_at 129 4 = some (5, [], .iload_n 2, []) ∧ px_at 129 5 = some (7, [], .bipush 12, []) ∧ px_at 129 7 = some (10, [], .if_icmp .gt 14, [21]) ∧ px_at 129 10 = some (11, [], .aload_n 0, []) ∧ px_at 129 11 = some (14, [], .getfield 10, [10, 0, 2, 1, 114]) ∧ px_at 129 14 = some (15, [], .iload_n 2, []) ∧ px_at 129 15 = some (18, [], .invokevirtual 89, [101, 1, 8, 28]) ∧ px_at 129 18 = some (21, [], .ifCond .ne 5, [23]) ∧ px_at 129 21 = some (22, [], .iconst (-1), []) ∧ px_at 129 22 = some (23, [], .ireturn, [0]) ∧ px_at 129 23 = some (24, [], .aload_n 0, []) ∧ px_at 129 24 = some (27, [], .getfield 10, [10, 0, 2, 1, 114]) ∧ px_at 129 27 = some (28, [], .iload_n 2, []) ∧ px_at 129 28 = some (31, [], .invokevirtual 246, [104, 1, 8, 118]) ∧ px_at 129 31 = some (32, [], .lstore_n 3, []) ∧ px_at 129 32 = some (33, [], .aload_n 0, []) ∧ px_at 129 33 = some (36, [], .getfield 10, [10, 0, 2, 1, 114]) ∧ px_at 129 36 = some (39, [], .invokevirtual 103, [100, 0, 8, 45]) ∧ px_at 129 39 = some (40, [], .aload_n 0, []) ∧ px_at 129 40 = some (43, [], .getfield 26, [10, 2, 2, 1, 116]) ∧ px_at 129 43 = some (44, [], .iload_n 1, []) ∧ px_at 129 44 = some (47, [], .invokevirtual 162, [47, 1, 3, 61]) ∧ px_at 129 47 = some (49, [], .astore 5, []) ∧ px_at 129 49 = some (51, [], .aload 5, []) ∧ px_at 129 51 = some (54, [], .ifnonnull 6, [57]) ∧ px_at 129 54 = some (56, [], .bipush (-2), []) ∧ px_at 129 56 = some (57, [], .ireturn, [0]) ∧ px_at 129 57 = some (58, [], .iload_n 2, []) ∧ px_at 129 58 = some (61, [], .ifCond .le 12, [70]) ∧ px_at 129 61 = some (62, [], .lload_n 3, []) ∧ px_at 129 62 = some (63, [], .lconst 0, []) ∧ px_at 129 63 = some (64, [], .lcmp, []) ∧ px_at 129 64 = some (67, [], .ifCond .ne 6, [70]) ∧ px_at 129 67 = some (69, [], .bipush (-3), []) ∧ px_at 129 69 = some (70, [], .ireturn, [0]) ∧ px_at 129 70 = some (71, [], .aload_n 0, []) ∧ px_at 129 71 = some (74, [], .getfield 26, [10, 2, 2, 1, 116]) ∧ px_at 129 74 = some (75, [], .lload_n 3, []) ∧ px_at 129 75 = some (78, [], .invokevirtual 250, [48, 1, 3, 120]) ∧ px_at 129 78 = some (80, [], .astore 6, []) ∧ px_at 129 80 = some (82, [], .aload 6, []) ∧ px_at 129 82 = some (85, [], .ifnull 13, [95]) ∧ px_at 129 85 = some (87, [], .aload 6, []) ∧ px_at 129 87 = some (89, [], .aload 5, []) ∧ px_at 129 89 = some (92, [], .if_acmp .eq 6, [95]) ∧ px_at 129 92 = some (94, [], .bipush (-4), []) ∧ px_at 129 94 = some (95, [], .ireturn, [0]) ∧ px_at 129 95 = some (97, [], .aload 5, []) ∧ px_at 129 97 = some (98, [], .lload_n 3, []) ∧ px_at 129 98 = some (101, [], .putfield 254, [2, 7, 1, 0, 46]) ∧ px_at 129 101 = some (102, [], .iload_n 2, []) ∧ px_at 129 102 = some (103, [], .ireturn, [0]) := ⟨rfl, rfl, rfl, rfl, rfl, rfl, rfl, rfl, rfl, rfl, rfl, rfl, rfl, rfl, rfl, rfl, rfl, rfl, rfl, rfl, rfl, rfl, rfl, rfl, rfl, rfl, rfl, rfl, rfl, rfl, rfl, rfl, rfl, rfl, rfl, rfl, rfl, rfl, rfl, rfl, rfl, rfl, rfl, rfl, rfl, rfl, rfl, rfl, rfl, rfl, rfl, rfl, rfl, rfl⟩
set_option maxRecDepth 100000 in
/-- X11_named -/
theorem cd_130 : px_at 130 0 = some (1, [], .aload_n 0, []) ∧ px_at 130 1 = some (4, [], .getfield 10, [10, 0, 2, 1, 114]) ∧ px_at 130 4 = some (5, [], .iload_n 1, []) ∧ px_at 130 5 = some (8, [], .invokevirtual 85, [102, 1, 8, 26]) ∧ px_at 130 8 = some (11, [], .ifCond .ne 5, [13]) ∧ px_at 130 11 = some (12, [], .iconst (-1), []) ∧ px_at 130 12 = some (13, [], .ireturn, [0]) ∧ px_at 130 13 = some (14, [], .aload_n 0, []) ∧ px_at 130 14 = some (17, [], .getfield 26, [10, 2, 2, 1, 116]) ∧ px_at 130 17 = some (18, [], .aload_n 0, []) ∧ px_at 130 18 = some (21, [], .getfield 10, [10, 0, 2, 1, 114]) ∧ px_at 130 21 = some (22, [], .iload_n 1, []) ∧ px_at 130 22 = some (25, [], .invokevirtual 246, [104, 1, 8, 118]) ∧ px_at 130 25 = some (28, [], .invokevirtual 250, [48, 1, 3, 120]) ∧ px_at 130 28 = some (29, [], .astore_n 2, []) ∧ px_at 130 29 = some (30, [], .aload_n 2, []) ∧ px_at 130 30 = some (33, [], .ifnonnull 8, [38]) ∧ px_at 130 33 = some (35, [], .bipush (-2), []) ∧ px_at 130 35 = some (38, [], .goto 7, [42]) ∧ px_at 130 38 = some (39, [], .aload_n 2, []) ∧ px_at 130 39 = some (42, [], .getfield 225, [2, 3, 0, 0, 35]) ∧ px_at 130 42 = some (43, [], .ireturn, [0]) := ⟨rfl, rfl, rfl, rfl, rfl, rfl, rfl, rfl, rfl, rfl, rfl, rfl, rfl, rfl, rfl, rfl, rfl, rfl, rfl, rfl, rfl, rfl⟩
set_option maxRecDepth 100000 in
/-- X11_nameByte -/
theorem cd_131 : px_at 131 0 = some (1, [], .aload_n 0, []) ∧ px_at 131 1 = some (4, [], .getfield 26, [10, 2, 2, 1, 116]) ∧ px_at 131 4 = some (5, [], .iload_n 1, []) ∧ px_at 131 5 = some (8, [], .invokevirtual 162, [47, 1, 3, 61]) ∧ px_at 131 8 = some (9, [], .astore_n 3, []) ∧ px_at 131 9 = some (10, [], .aload_n 3, []) ∧ px_at 131 10 = some (13, [], .ifnull 7, [17]) ∧ px_at 131 13 = some (14, [], .iload_n 2, []) ∧ px_at 131 14 = some (17, [], .ifCond .ge 5, [19]) ∧ px_at 131 17 = some (18, [], .iconst (-1), []) ∧ px_at 131 18 = some (19, [], .ireturn, [0]) ∧ px_at 131 19 = some (20, [], .aload_n 3, []) ∧ px_at 131 20 = some (23, [], .getfield 254, [2, 7, 1, 0, 46]) ∧ px_at 131 23 = some (24, [], .iload_n 2, []) ∧ px_at 131 24 = some (27, [], .invokestatic 258, [64, 2, 0, 123]) ∧ px_at 131 27 = some (28, [], .ireturn, [0]) := ⟨rfl, rfl, rfl, rfl, rfl, rfl, rfl, rfl, rfl, rfl, rfl, rfl, rfl, rfl, rfl, rfl⟩
/-! EditionVault: drop, thin, seal, names -/
theorem sig_at {M M' : px_mem} {p d : Int} (h : drpC M M' p d) (hw : edW M) (hp : 0 ≤ p ∧ p < M 20 1) {i : Int} (i0 : 0 ≤ i) (i1 : i < M 20 1 - 1) : ∃ k, k = (if i < p then i else i + 1) ∧ 0 ≤ k ∧ k < M 20 1 ∧ k ≠ p ∧ M' 21 i = M 21 k ∧ (∀ j, j ≠ 4 → j ≠ 5 → M' (M' 21 i) j = M (M 21 k) j) ∧ M' (M' 21 i + 1) = M (M 21 k + 1) ∧ M' (M' 21 i + 2) = M (M 21 k + 2) ∧ M' (M' 21 i) 4 = rlk (M (M 21 p) 3) (M (M 21 p) 4) (M (M 21 k) 4) ∧ M' (M' 21 i) 5 = rlk (M (M 21 p) 3) (M (M 21 p) 4) (M (M 21 k) 5) := by
  obtain ⟨a1, a2, a3, a4, a5, a6, a7, a8, a9, a10, a11, a12⟩ := h
  have hn := hw.2.2
  have e : M' 21 i = M 21 (if i < p then i else i + 1) := by
    rw [a1 i i0 (by omega), shf_lo i1 hp.2]; unfold shp; split <;> rfl
  refine ⟨_, rfl, by split <;> omega, by split <;> omega, by split <;> omega, e, ?_⟩
  have hk : 0 ≤ (if i < p then i else i + 1) ∧ (if i < p then i else i + 1) < M 20 1 := by split <;> omega
  rw [a4 i i0 i1, a5 i i0 i1]
  generalize (if i < p then i else i + 1) = k at *
  have he := hw.1 k hk.1 (by omega)
  have hm := isE_m he.1
  have nE : ∀ b : Int, b % 3 ≠ 1 → ¬ (isE b ∧ b < 52) := fun b hb z => by have := isE_m z.1; omega
  rw [e]
  exact ⟨fun j j4 j5 => a12 _ j (by omega) (by omega) (by omega) (by omega) (by omega) (by omega) (Or.inl ⟨j4, j5⟩), funext (fun j => a12 _ j (by omega) (by omega) (by omega) (by omega) (by omega) (by omega) (Or.inr (nE _ (by omega)))), funext (fun j => a12 _ j (by omega) (by omega) (by omega) (by omega) (by omega) (by omega) (Or.inr (nE _ (by omega)))), rfl, rfl⟩
theorem drp_inv {M M' : px_mem} {p d : Int} {pl : Int → Int → List Int} {nm : Int → List Int} (h : drpC M M' p d) (hed : edA M pl nm) (hnum : numI M) (hci : ci M) (hp : 0 ≤ p ∧ p < M 20 1) : edA M' (shp pl p) (shp nm p) ∧ numI M' ∧ ci M' := by
  have hs := fun i i0 i1 => sig_at h hed.1 hp (i := i) i0 i1
  have hw := hed.1
  obtain ⟨a1, a2, a3, a4, a5, a6, a7, a8, a9, a10, a11, a12⟩ := h
  have hn := hw.2.2
  have hnp := hnum.2.1 p hp.1 hp.2
  have hw' : edW M' := shf_edW hw hp.1 hp.2 a2 a1
  have e20 : M' 20 2 = M 20 2 := a3 2 (by decide)
  refine ⟨⟨hw', fun i i0 i1 => ?_⟩, ⟨by rw [e20]; exact hnum.1, fun i i0 i1 => ?_, fun i j i0 i1 j1 => ?_, ?_, ?_⟩, a11⟩
  · rw [a2] at i1
    obtain ⟨k, hk, k0, k1, k2, e1, e2, e3, e4, e5, e6⟩ := hs i i0 i1
    have hi := hed.2 k k0 k1
    have hpl : shp pl p i = pl k := by unfold shp; rw [hk]; split <;> rfl
    have hnm : shp nm p i = nm k := by unfold shp; rw [hk]; split <;> rfl
    rw [hpl, hnm]
    obtain ⟨b1, b2, b3, b4, b5, b6, b7, b8⟩ := hi
    have f2 := e2 2 (by decide) (by decide)
    refine ⟨⟨by rw [f2]; exact b1.1, by rw [f2]; exact b1.2.1, fun j j0 j1 => ?_⟩, fun x y x0 xy y1 => ?_, fun j j0 j1 => ?_, fun x y x0 x1 y0 y1 => ?_, ?_, b6, b7, ?_⟩
    · rw [f2] at j1; rw [e3, e4]; exact b1.2.2 j j0 j1
    · rw [f2] at y1; rw [e3]; exact b2 x y x0 xy y1
    · rw [f2] at j1; rw [e4]
      refine ⟨?_, (b3 j j0 j1).2⟩
      have hu := (b3 j j0 j1).1
      have hj := b1.2.2 j j0 j1
      have hle : lsE (nfC M') (cfC M') i (M (M 21 k + 2) j) := ⟨j, j0, by unfold nfC; rw [f2]; exact j1, by unfold cfC; rw [e4]⟩
      have hnl := ntC_listed (N := M' 20 1) (ci_dpt hci) hj.2.2.1 i0 (by rw [a2]; exact i1) hle
      rw [(a9.1 _).2 (fun z => hnl z.2.2.2)]
      exact hu
    · rw [f2] at x1 y1; exact b4 x y x0 x1 y0 y1
    · rw [e2 6 (by decide) (by decide)]; exact b5
    · rw [e2 7 (by decide) (by decide)]; exact b8
  · rw [a2] at i1
    obtain ⟨k, hk, k0, k1, k2, e1, e2, e3, e4, e5, e6⟩ := hs i i0 i1
    have hk' := hnum.2.1 k k0 k1
    rw [e2 3 (by decide) (by decide), e5, e6, e20]
    unfold rlk
    refine ⟨hk'.1, hk'.2.1, ?_, ?_⟩
    · split <;> omega
    · split <;> omega
  · rw [a2] at j1
    obtain ⟨k, hk, k0, k1, k2, e1, e2, e3, e4, e5, e6⟩ := hs i i0 (by omega)
    obtain ⟨l, hl, l0, l1, l2, d1, d2, d3, d4, d5, d6⟩ := hs j (by omega) j1
    rw [e2 3 (by decide) (by decide), d2 3 (by decide) (by decide)]
    refine hnum.2.2.1 k l k0 ?_ l1
    rw [hk, hl]
    split <;> split <;> omega
  · rw [a6, e20]
    have := hnum.2.2.2.1
    unfold rlk
    split <;> omega
  · rw [a7, e20]
    have := hnum.2.2.2.2
    unfold rlk
    split <;> omega
/-- one step of thin, many of them -/
def thst (M : px_mem) (p : Int) (M' : px_mem) (p' d : Int) : Prop := (M (M 21 p) 6 ≠ 0 ∧ M' = M ∧ p' = p + 1 ∧ d = 0) ∨ (M (M 21 p) 6 = 0 ∧ drpC M M' p d ∧ p' = p)
def thtr (M : px_mem) : Nat → px_mem → Int → Int → Prop
  | 0, M', p, n => M' = M ∧ p = 0 ∧ n = 0
  | k + 1, M', p, n => ∃ M1 p1 n1 d, thtr M k M1 p1 n1 ∧ thst M1 p1 M' p d ∧ n = n1 + d
theorem drp_d {M M' : px_mem} {p d : Int} (h : drpC M M' p d) : 0 ≤ d ∧ d ≤ 40 := by
  have hb := sm_bnd (c := 1) (n := 40) (by decide) (f := fun c => b1 (0 ≤ M 62 c ∧ ntC (M 62) (M 61) (M' 20 1) (nfC M') (cfC M') c)) (fun j _ _ => b1_rng _)
  have := h.2.2.2.2.2.2.2.2.2.1
  omega
section PS
variable {M : px_mem} {Q : Option pv → px_mem → Prop}
set_option maxHeartbeats 600000 in
set_option maxRecDepth 100000 in
theorem sp_drop {num : Int} {pl : Int → Int → List Int} {nm : Int → List Int} (hed : edA M pl nm) (hnum : numI M) (hci : ci M) (h2 : slot M num < 0 → Q (some (0, -2)) M) (h3 : 0 ≤ slot M num → M (M 21 (slot M num)) 6 ≠ 0 → Q (some (0, -3)) M) (h1 : ∀ M' d, 0 ≤ slot M num → slot M num < M 20 1 → M (M 21 (slot M num)) 6 = 0 → drpC M M' (slot M num) d → Q (some (0, d)) M') : px_Ok 125 [(2, 1), (0, num)] LAY M Q := by
  refine px_ok_go (inl := []) (ls0 := [(2, 1), (0, num), (9, 0)]) 60 (by decide) (Nat.le_of_ble_eq_true rfl) rfl ?_
  simp only [px_go, px_Q0_at, px_sx_0, px_sx_s, px_cl, px_step, ↓px_ll, px_lg, f4_, ↓px_r1, ↓px_r2, ↓px_r4, ↓px_r5, ↓px_p1, ↓px_p2, ↓px_p3, ↓px_pop, px_k_0, px_k_s, px_k3_0, px_stk_, px_cats, px_ent, px_st1, px_st2, px_mask, ↓px_tsw, ↓px_lsw, ct_, mls_0, mls_1, mls_2, mls_3, mls_4, mls_5, kd_0, kd_1, kd_2, kd_3, ln_0, ln_1, ln_2, ln_3, gf_0, gf_1, gf_2, gf_3, gf_4, gf_7, gf_21, gf_63, dy_0, dy_1, dy_2, dy_3, dy_7, dy_21, px_brT, px_brF, true_and, and_true, and_false, false_and, and_self, true_implies, false_implies, or_true, true_or, or_false, false_or, eq_self, ne_eq, not_false_eq_true, not_true_eq_false, if_true, if_false, List.mem_cons, List.not_mem_nil, List.length_cons, List.length_nil, Nat.reduceEqDiff, Nat.reduceAdd, Nat.reduceSub, Nat.reduceLeDiff, Nat.reduceLT, Int.reduceEq, Int.reduceLT, Int.reduceLE, Int.reduceNeg, Int.reduceAdd, Int.reduceSub, Int.reduceToNat, ↓reduceIte, one_ne_zero_, zero_ne_one_, px_in32L, cd_125]
  repeat' (first | (with_reducible apply And.intro) | (with_reducible refine px_br_intro (fun _ => ?_) (fun _ => ?_)))
  all_goals (try (first | (unfold px_in32; omega) | omega))
  have hw := hed.1
  refine sp_numbered hw ?_
  unfold edR
  have hs := slot_rng (M := M) num
  generalize slot M num = s at *
  by_cases q : s < 0
  · rw [if_pos q]
    simp only [px_go, px_Q0_at, px_sx_0, px_sx_s, px_cl, px_step, ↓px_ll, px_lg, f4_, ↓px_r1, ↓px_r2, ↓px_r4, ↓px_r5, ↓px_p1, ↓px_p2, ↓px_p3, ↓px_pop, px_k_0, px_k_s, px_k3_0, px_stk_, px_cats, px_ent, px_st1, px_st2, px_mask, ↓px_tsw, ↓px_lsw, ct_, mls_0, mls_1, mls_2, mls_3, mls_4, mls_5, kd_0, kd_1, kd_2, kd_3, ln_0, ln_1, ln_2, ln_3, gf_0, gf_1, gf_2, gf_3, gf_4, gf_7, gf_21, gf_63, dy_0, dy_1, dy_2, dy_3, dy_7, dy_21, px_brT, px_brF, true_and, and_true, and_false, false_and, and_self, true_implies, false_implies, or_true, true_or, or_false, false_or, eq_self, ne_eq, not_false_eq_true, not_true_eq_false, if_true, if_false, List.mem_cons, List.not_mem_nil, List.length_cons, List.length_nil, Nat.reduceEqDiff, Nat.reduceAdd, Nat.reduceSub, Nat.reduceLeDiff, Nat.reduceLT, Int.reduceEq, Int.reduceLT, Int.reduceLE, Int.reduceNeg, Int.reduceAdd, Int.reduceSub, Int.reduceToNat, ↓reduceIte, one_ne_zero_, zero_ne_one_, px_in32L, cd_125]
    exact h2 q
  · rw [if_neg q]
    have hE := hw.1 s (by omega) (by have := hw.2.2; omega)
    have hel := isE_lay hE.1
    have heg := isE_gf hE.1
    have hem := isE_m hE.1
    simp only [px_go, px_Q0_at, px_sx_0, px_sx_s, px_cl, px_step, ↓px_ll, px_lg, f4_, ↓px_r1, ↓px_r2, ↓px_r4, ↓px_r5, ↓px_p1, ↓px_p2, ↓px_p3, ↓px_pop, px_k_0, px_k_s, px_k3_0, px_stk_, px_cats, px_ent, px_st1, px_st2, px_mask, ↓px_tsw, ↓px_lsw, ct_, mls_0, mls_1, mls_2, mls_3, mls_4, mls_5, kd_0, kd_1, kd_2, kd_3, ln_0, ln_1, ln_2, ln_3, gf_0, gf_1, gf_2, gf_3, gf_4, gf_7, gf_21, gf_63, dy_0, dy_1, dy_2, dy_3, dy_7, dy_21, px_brT, px_brF, true_and, and_true, and_false, false_and, and_self, true_implies, false_implies, or_true, true_or, or_false, false_or, eq_self, ne_eq, not_false_eq_true, not_true_eq_false, if_true, if_false, List.mem_cons, List.not_mem_nil, List.length_cons, List.length_nil, Nat.reduceEqDiff, Nat.reduceAdd, Nat.reduceSub, Nat.reduceLeDiff, Nat.reduceLT, Int.reduceEq, Int.reduceLT, Int.reduceLE, Int.reduceNeg, Int.reduceAdd, Int.reduceSub, Int.reduceToNat, ↓reduceIte, one_ne_zero_, zero_ne_one_, px_in32L, cd_125, hel, heg]
    repeat' (first | (with_reducible apply And.intro) | (with_reducible refine px_br_intro (fun _ => ?_) (fun _ => ?_)))
    all_goals (try (first | (unfold px_in32; omega) | omega))
    · rename_i c1 c2
      refine sp_dropFound hed hnum hci ⟨by omega, by omega⟩ (fun M' d hd => ?_)
      simp only [px_go, px_Q0_at, px_sx_0, px_sx_s, px_cl, px_step, ↓px_ll, px_lg, f4_, ↓px_r1, ↓px_r2, ↓px_r4, ↓px_r5, ↓px_p1, ↓px_p2, ↓px_p3, ↓px_pop, px_k_0, px_k_s, px_k3_0, px_stk_, px_cats, px_ent, px_st1, px_st2, px_mask, ↓px_tsw, ↓px_lsw, ct_, mls_0, mls_1, mls_2, mls_3, mls_4, mls_5, kd_0, kd_1, kd_2, kd_3, ln_0, ln_1, ln_2, ln_3, gf_0, gf_1, gf_2, gf_3, gf_4, gf_7, gf_21, gf_63, dy_0, dy_1, dy_2, dy_3, dy_7, dy_21, px_brT, px_brF, true_and, and_true, and_false, false_and, and_self, true_implies, false_implies, or_true, true_or, or_false, false_or, eq_self, ne_eq, not_false_eq_true, not_true_eq_false, if_true, if_false, List.mem_cons, List.not_mem_nil, List.length_cons, List.length_nil, Nat.reduceEqDiff, Nat.reduceAdd, Nat.reduceSub, Nat.reduceLeDiff, Nat.reduceLT, Int.reduceEq, Int.reduceLT, Int.reduceLE, Int.reduceNeg, Int.reduceAdd, Int.reduceSub, Int.reduceToNat, ↓reduceIte, one_ne_zero_, zero_ne_one_, px_in32L, cd_125]
      exact h1 M' d (by omega) (by omega) c2 hd
    · rename_i c1 c2
      exact h3 (by omega) c2
set_option maxHeartbeats 600000 in
set_option maxRecDepth 100000 in
theorem lp_thin {M0 : px_mem} {old : Int} (hold : old ≤ M0 20 1 ∧ M0 20 1 ≤ 10) (h : ∀ M' p n, (∃ pl nm, edA M' pl nm ∧ numI M' ∧ ci M') → thtr M0 old.toNat M' p n → Q (some (0, n)) M') (k : Int) (hk_k : k ≤ old) : ∀ (M : px_mem) (p n : Int), 0 ≤ k → (0 ≤ p ∧ p ≤ k ∧ M 20 1 = M0 20 1 - (k - p)) → (∃ pl nm, edA M pl nm ∧ numI M ∧ ci M) → thtr M0 k.toNat M p n → (0 ≤ n ∧ n ≤ 40 * k) → px_WP 127 0 0 (px_Q0 LAY Q) 30 [(2, 1), (9, 0), (0, old), (0, p), (0, n), (0, k), (9, 0)] [] LAY M 0 0 := by
  refine up_ind (P := fun k => ∀ (M : px_mem) (p n : Int), 0 ≤ k → (0 ≤ p ∧ p ≤ k ∧ M 20 1 = M0 20 1 - (k - p)) → (∃ pl nm, edA M pl nm ∧ numI M ∧ ci M) → thtr M0 k.toNat M p n → (0 ≤ n ∧ n ≤ 40 * k) → px_WP 127 0 0 (px_Q0 LAY Q) 30 [(2, 1), (9, 0), (0, old), (0, p), (0, n), (0, k), (9, 0)] [] LAY M 0 0) (old) (fun k hk_k ih => ?_) k hk_k
  intro M p n k0 hsz hinv htr hn
  refine px_go_ok (inl := []) 60 ?_
  simp only [px_go, px_Q0_at, px_sx_0, px_sx_s, px_cl, px_step, ↓px_ll, px_lg, f4_, ↓px_r1, ↓px_r2, ↓px_r4, ↓px_r5, ↓px_p1, ↓px_p2, ↓px_p3, ↓px_pop, px_k_0, px_k_s, px_k3_0, px_stk_, px_cats, px_ent, px_st1, px_st2, px_mask, ↓px_tsw, ↓px_lsw, ct_, mls_0, mls_1, mls_2, mls_3, mls_4, mls_5, kd_0, kd_1, kd_2, kd_3, ln_0, ln_1, ln_2, ln_3, gf_0, gf_1, gf_2, gf_3, gf_4, gf_7, gf_21, gf_63, dy_0, dy_1, dy_2, dy_3, dy_7, dy_21, px_brT, px_brF, true_and, and_true, and_false, false_and, and_self, true_implies, false_implies, or_true, true_or, or_false, false_or, eq_self, ne_eq, not_false_eq_true, not_true_eq_false, if_true, if_false, List.mem_cons, List.not_mem_nil, List.length_cons, List.length_nil, Nat.reduceEqDiff, Nat.reduceAdd, Nat.reduceSub, Nat.reduceLeDiff, Nat.reduceLT, Int.reduceEq, Int.reduceLT, Int.reduceLE, Int.reduceNeg, Int.reduceAdd, Int.reduceSub, Int.reduceToNat, ↓reduceIte, one_ne_zero_, zero_ne_one_, px_in32L, cd_127]
  repeat' (first | (with_reducible apply And.intro) | (with_reducible refine px_br_intro (fun _ => ?_) (fun _ => ?_)))
  all_goals (try (first | (unfold px_in32; omega) | omega))
  · rename_i c1
    have e : k = old := by omega
    subst e
    exact h M p n hinv htr
  · rename_i c1
    obtain ⟨pl, nm, hed, hnum, hci⟩ := hinv
    have hw := hed.1
    have hE := hw.1 p hsz.1 (by have := hw.2.2; omega)
    have hel := isE_lay hE.1
    have heg := isE_gf hE.1
    have hem := isE_m hE.1
    have htr2 : ∀ M' p' d, thst M p M' p' d → thtr M0 (k + 1).toNat M' p' (n + d) := fun M' p' d hd => by
      rw [show (k + 1).toNat = k.toNat + 1 by omega]
      exact ⟨M, p, n, d, htr, hd, rfl⟩
    refine sp_placed hw ?_
    rw [if_pos (by omega)]
    simp only [px_go, px_Q0_at, px_sx_0, px_sx_s, px_cl, px_step, ↓px_ll, px_lg, f4_, ↓px_r1, ↓px_r2, ↓px_r4, ↓px_r5, ↓px_p1, ↓px_p2, ↓px_p3, ↓px_pop, px_k_0, px_k_s, px_k3_0, px_stk_, px_cats, px_ent, px_st1, px_st2, px_mask, ↓px_tsw, ↓px_lsw, ct_, mls_0, mls_1, mls_2, mls_3, mls_4, mls_5, kd_0, kd_1, kd_2, kd_3, ln_0, ln_1, ln_2, ln_3, gf_0, gf_1, gf_2, gf_3, gf_4, gf_7, gf_21, gf_63, dy_0, dy_1, dy_2, dy_3, dy_7, dy_21, px_brT, px_brF, true_and, and_true, and_false, false_and, and_self, true_implies, false_implies, or_true, true_or, or_false, false_or, eq_self, ne_eq, not_false_eq_true, not_true_eq_false, if_true, if_false, List.mem_cons, List.not_mem_nil, List.length_cons, List.length_nil, Nat.reduceEqDiff, Nat.reduceAdd, Nat.reduceSub, Nat.reduceLeDiff, Nat.reduceLT, Int.reduceEq, Int.reduceLT, Int.reduceLE, Int.reduceNeg, Int.reduceAdd, Int.reduceSub, Int.reduceToNat, ↓reduceIte, one_ne_zero_, zero_ne_one_, px_in32L, cd_127, hel, heg]
    repeat' (first | (with_reducible apply And.intro) | (with_reducible refine px_br_intro (fun _ => ?_) (fun _ => ?_)))
    all_goals (try (first | (unfold px_in32; omega) | omega))
    · rename_i c2 c3
      refine sp_dropFound hed hnum hci ⟨by omega, by omega⟩ (fun M' d hd => ?_)
      have hdd := drp_d hd
      have hi := drp_inv hd hed hnum hci ⟨by omega, by omega⟩
      simp only [px_go, px_Q0_at, px_sx_0, px_sx_s, px_cl, px_step, ↓px_ll, px_lg, f4_, ↓px_r1, ↓px_r2, ↓px_r4, ↓px_r5, ↓px_p1, ↓px_p2, ↓px_p3, ↓px_pop, px_k_0, px_k_s, px_k3_0, px_stk_, px_cats, px_ent, px_st1, px_st2, px_mask, ↓px_tsw, ↓px_lsw, ct_, mls_0, mls_1, mls_2, mls_3, mls_4, mls_5, kd_0, kd_1, kd_2, kd_3, ln_0, ln_1, ln_2, ln_3, gf_0, gf_1, gf_2, gf_3, gf_4, gf_7, gf_21, gf_63, dy_0, dy_1, dy_2, dy_3, dy_7, dy_21, px_brT, px_brF, true_and, and_true, and_false, false_and, and_self, true_implies, false_implies, or_true, true_or, or_false, false_or, eq_self, ne_eq, not_false_eq_true, not_true_eq_false, if_true, if_false, List.mem_cons, List.not_mem_nil, List.length_cons, List.length_nil, Nat.reduceEqDiff, Nat.reduceAdd, Nat.reduceSub, Nat.reduceLeDiff, Nat.reduceLT, Int.reduceEq, Int.reduceLT, Int.reduceLE, Int.reduceNeg, Int.reduceAdd, Int.reduceSub, Int.reduceToNat, ↓reduceIte, one_ne_zero_, zero_ne_one_, px_in32L, cd_127]
      repeat' (first | (with_reducible apply And.intro) | (with_reducible refine px_br_intro (fun _ => ?_) (fun _ => ?_)))
      all_goals (try (first | (unfold px_in32; omega) | omega))
      exact ih (by omega) M' p (n + d) (by omega) ⟨by omega, by omega, by rw [hd.2.1]; omega⟩ ⟨_, _, hi⟩ (htr2 M' p d (Or.inr ⟨c3, hd, rfl⟩)) (by omega)
    · rename_i c2 c3
      have := htr2 M (p + 1) 0 (Or.inl ⟨c3, rfl, rfl, rfl⟩)
      rw [Int.add_zero] at this
      exact ih (by omega) M (p + 1) n (by omega) (by omega) ⟨pl, nm, hed, hnum, hci⟩ this (by omega)
set_option maxHeartbeats 600000 in
set_option maxRecDepth 100000 in
theorem sp_thin {latest : Int} {pl : Int → Int → List Int} {nm : Int → List Int} (hed : edA M pl nm) (hnum : numI M) (hci : ci M) (h0 : ¬ (0 ≤ latest ∧ latest ≤ 10) → Q (some (0, -1)) M) (h : ∀ M' p n, (0 ≤ latest ∧ latest ≤ 10) → (∃ pl nm, edA M' pl nm ∧ numI M' ∧ ci M') → thtr M (M 20 1 - latest).toNat M' p n → Q (some (0, n)) M') : px_Ok 127 [(2, 1), (0, latest)] LAY M Q := by
  have hn := hed.1.2.2
  refine px_ok_go (inl := []) (ls0 := [(2, 1), (0, latest), (9, 0), (9, 0), (9, 0), (9, 0), (9, 0)]) 60 (by decide) (Nat.le_of_ble_eq_true rfl) rfl ?_
  simp only [px_go, px_Q0_at, px_sx_0, px_sx_s, px_cl, px_step, ↓px_ll, px_lg, f4_, ↓px_r1, ↓px_r2, ↓px_r4, ↓px_r5, ↓px_p1, ↓px_p2, ↓px_p3, ↓px_pop, px_k_0, px_k_s, px_k3_0, px_stk_, px_cats, px_ent, px_st1, px_st2, px_mask, ↓px_tsw, ↓px_lsw, ct_, mls_0, mls_1, mls_2, mls_3, mls_4, mls_5, kd_0, kd_1, kd_2, kd_3, ln_0, ln_1, ln_2, ln_3, gf_0, gf_1, gf_2, gf_3, gf_4, gf_7, gf_21, gf_63, dy_0, dy_1, dy_2, dy_3, dy_7, dy_21, px_brT, px_brF, true_and, and_true, and_false, false_and, and_self, true_implies, false_implies, or_true, true_or, or_false, false_or, eq_self, ne_eq, not_false_eq_true, not_true_eq_false, if_true, if_false, List.mem_cons, List.not_mem_nil, List.length_cons, List.length_nil, Nat.reduceEqDiff, Nat.reduceAdd, Nat.reduceSub, Nat.reduceLeDiff, Nat.reduceLT, Int.reduceEq, Int.reduceLT, Int.reduceLE, Int.reduceNeg, Int.reduceAdd, Int.reduceSub, Int.reduceToNat, ↓reduceIte, one_ne_zero_, zero_ne_one_, px_in32L, cd_127]
  repeat' (first | (with_reducible apply And.intro) | (with_reducible refine px_br_intro (fun _ => ?_) (fun _ => ?_)))
  all_goals (try (first | (unfold px_in32; omega) | omega))
  · exact h0 (by omega)
  · rename_i c1 c2
    rcases Int.lt_or_le (M 20 1 - latest) 0 with q | q
    · refine px_go_ok (inl := []) 60 ?_
      simp only [px_go, px_Q0_at, px_sx_0, px_sx_s, px_cl, px_step, ↓px_ll, px_lg, f4_, ↓px_r1, ↓px_r2, ↓px_r4, ↓px_r5, ↓px_p1, ↓px_p2, ↓px_p3, ↓px_pop, px_k_0, px_k_s, px_k3_0, px_stk_, px_cats, px_ent, px_st1, px_st2, px_mask, ↓px_tsw, ↓px_lsw, ct_, mls_0, mls_1, mls_2, mls_3, mls_4, mls_5, kd_0, kd_1, kd_2, kd_3, ln_0, ln_1, ln_2, ln_3, gf_0, gf_1, gf_2, gf_3, gf_4, gf_7, gf_21, gf_63, dy_0, dy_1, dy_2, dy_3, dy_7, dy_21, px_brT, px_brF, true_and, and_true, and_false, false_and, and_self, true_implies, false_implies, or_true, true_or, or_false, false_or, eq_self, ne_eq, not_false_eq_true, not_true_eq_false, if_true, if_false, List.mem_cons, List.not_mem_nil, List.length_cons, List.length_nil, Nat.reduceEqDiff, Nat.reduceAdd, Nat.reduceSub, Nat.reduceLeDiff, Nat.reduceLT, Int.reduceEq, Int.reduceLT, Int.reduceLE, Int.reduceNeg, Int.reduceAdd, Int.reduceSub, Int.reduceToNat, ↓reduceIte, one_ne_zero_, zero_ne_one_, px_in32L, cd_127]
      repeat' (first | (with_reducible apply And.intro) | (with_reducible refine px_br_intro (fun _ => ?_) (fun _ => ?_)))
      all_goals (try (first | (unfold px_in32; omega) | omega))
      have e : (M 20 1 - latest).toNat = 0 := by omega
      exact h M 0 0 (by omega) ⟨pl, nm, hed, hnum, hci⟩ (by rw [e]; exact ⟨rfl, rfl, rfl⟩)
    · exact lp_thin (M0 := M) (by omega) (fun M' p n a b => h M' p n (by omega) a b) 0 q M 0 0 (Int.le_refl 0) (by omega) ⟨pl, nm, hed, hnum, hci⟩ ⟨rfl, rfl, rfl⟩ (by omega)
  · exact h0 (by omega)
set_option maxHeartbeats 600000 in
set_option maxRecDepth 100000 in
theorem sp_seal {num is : Int} {pl : Int → Int → List Int} {nm : Int → List Int} (hed : edA M pl nm) (his : is = 0 ∨ is = 1) (h2 : slot M num < 0 → Q (some (0, -2)) M) (h3 : 0 ≤ slot M num → M (M 21 (slot M num)) 6 = is → Q (some (0, -3)) M) (h1 : 0 ≤ slot M num → slot M num < M 20 1 → M (M 21 (slot M num)) 6 ≠ is → Q (some (0, 1)) (px_up M (M 21 (slot M num)) 6 is)) : px_Ok 128 [(2, 1), (0, num), (0, is)] LAY M Q := by
  refine px_ok_go (inl := []) (ls0 := [(2, 1), (0, num), (0, is), (9, 0)]) 60 (by decide) (Nat.le_of_ble_eq_true rfl) rfl ?_
  simp only [px_go, px_Q0_at, px_sx_0, px_sx_s, px_cl, px_step, ↓px_ll, px_lg, f4_, ↓px_r1, ↓px_r2, ↓px_r4, ↓px_r5, ↓px_p1, ↓px_p2, ↓px_p3, ↓px_pop, px_k_0, px_k_s, px_k3_0, px_stk_, px_cats, px_ent, px_st1, px_st2, px_mask, ↓px_tsw, ↓px_lsw, ct_, mls_0, mls_1, mls_2, mls_3, mls_4, mls_5, kd_0, kd_1, kd_2, kd_3, ln_0, ln_1, ln_2, ln_3, gf_0, gf_1, gf_2, gf_3, gf_4, gf_7, gf_21, gf_63, dy_0, dy_1, dy_2, dy_3, dy_7, dy_21, px_brT, px_brF, true_and, and_true, and_false, false_and, and_self, true_implies, false_implies, or_true, true_or, or_false, false_or, eq_self, ne_eq, not_false_eq_true, not_true_eq_false, if_true, if_false, List.mem_cons, List.not_mem_nil, List.length_cons, List.length_nil, Nat.reduceEqDiff, Nat.reduceAdd, Nat.reduceSub, Nat.reduceLeDiff, Nat.reduceLT, Int.reduceEq, Int.reduceLT, Int.reduceLE, Int.reduceNeg, Int.reduceAdd, Int.reduceSub, Int.reduceToNat, ↓reduceIte, one_ne_zero_, zero_ne_one_, px_in32L, cd_128]
  repeat' (first | (with_reducible apply And.intro) | (with_reducible refine px_br_intro (fun _ => ?_) (fun _ => ?_)))
  all_goals (try (first | (unfold px_in32; omega) | omega))
  have hw := hed.1
  refine sp_numbered hw ?_
  unfold edR
  have hs := slot_rng (M := M) num
  generalize slot M num = s at *
  by_cases q : s < 0
  · rw [if_pos q]
    simp only [px_go, px_Q0_at, px_sx_0, px_sx_s, px_cl, px_step, ↓px_ll, px_lg, f4_, ↓px_r1, ↓px_r2, ↓px_r4, ↓px_r5, ↓px_p1, ↓px_p2, ↓px_p3, ↓px_pop, px_k_0, px_k_s, px_k3_0, px_stk_, px_cats, px_ent, px_st1, px_st2, px_mask, ↓px_tsw, ↓px_lsw, ct_, mls_0, mls_1, mls_2, mls_3, mls_4, mls_5, kd_0, kd_1, kd_2, kd_3, ln_0, ln_1, ln_2, ln_3, gf_0, gf_1, gf_2, gf_3, gf_4, gf_7, gf_21, gf_63, dy_0, dy_1, dy_2, dy_3, dy_7, dy_21, px_brT, px_brF, true_and, and_true, and_false, false_and, and_self, true_implies, false_implies, or_true, true_or, or_false, false_or, eq_self, ne_eq, not_false_eq_true, not_true_eq_false, if_true, if_false, List.mem_cons, List.not_mem_nil, List.length_cons, List.length_nil, Nat.reduceEqDiff, Nat.reduceAdd, Nat.reduceSub, Nat.reduceLeDiff, Nat.reduceLT, Int.reduceEq, Int.reduceLT, Int.reduceLE, Int.reduceNeg, Int.reduceAdd, Int.reduceSub, Int.reduceToNat, ↓reduceIte, one_ne_zero_, zero_ne_one_, px_in32L, cd_128]
    exact h2 q
  · rw [if_neg q]
    have hE := hw.1 s (by omega) (by have := hw.2.2; omega)
    have hel := isE_lay hE.1
    have heg := isE_gf hE.1
    have hem := isE_m hE.1
    simp only [px_go, px_Q0_at, px_sx_0, px_sx_s, px_cl, px_step, ↓px_ll, px_lg, f4_, ↓px_r1, ↓px_r2, ↓px_r4, ↓px_r5, ↓px_p1, ↓px_p2, ↓px_p3, ↓px_pop, px_k_0, px_k_s, px_k3_0, px_stk_, px_cats, px_ent, px_st1, px_st2, px_mask, ↓px_tsw, ↓px_lsw, ct_, mls_0, mls_1, mls_2, mls_3, mls_4, mls_5, kd_0, kd_1, kd_2, kd_3, ln_0, ln_1, ln_2, ln_3, gf_0, gf_1, gf_2, gf_3, gf_4, gf_7, gf_21, gf_63, dy_0, dy_1, dy_2, dy_3, dy_7, dy_21, px_brT, px_brF, true_and, and_true, and_false, false_and, and_self, true_implies, false_implies, or_true, true_or, or_false, false_or, eq_self, ne_eq, not_false_eq_true, not_true_eq_false, if_true, if_false, List.mem_cons, List.not_mem_nil, List.length_cons, List.length_nil, Nat.reduceEqDiff, Nat.reduceAdd, Nat.reduceSub, Nat.reduceLeDiff, Nat.reduceLT, Int.reduceEq, Int.reduceLT, Int.reduceLE, Int.reduceNeg, Int.reduceAdd, Int.reduceSub, Int.reduceToNat, ↓reduceIte, one_ne_zero_, zero_ne_one_, px_in32L, cd_128, hel, heg]
    repeat' (first | (with_reducible apply And.intro) | (with_reducible refine px_br_intro (fun _ => ?_) (fun _ => ?_)))
    all_goals (try (first | (unfold px_in32; omega) | omega))
    · rename_i c1 c2
      exact h3 (by omega) c2
    · rename_i c1 c2
      exact h1 (by omega) (by omega) c2
/-- a name: letters alone; none is also one, of no length -/
def isNm (l : List Int) : Prop := l ≠ [] → (isP l ∧ ∀ b ∈ l, b ≠ 47)
noncomputable def nmV (l : List Int) : Int := by
  classical
  exact if isP l ∧ (∀ b ∈ l, b ≠ 47) then enc l else 0
theorem sp_nameV {q : Int} (ht : tpI M) (hq : 0 ≤ q ∧ q ≤ 12 ∧ q ≤ M 2 1) (h : Q (some (1, nmV (lst (M 3) q))) M) : px_Ok 104 [(2, 2), (0, q)] LAY M Q := by
  refine sp_nameFrom hq.1 hq.2.1 hq.2.2 ht.2.1 (fun a b => ?_) (fun a => ?_)
  · have e : nmV (lst (M 3) q) = enc (lst (M 3) q) := by unfold nmV; rw [if_pos ⟨a, b⟩]
    rw [← e]; exact h
  · have e : nmV (lst (M 3) q) = 0 := by unfold nmV; rw [if_neg a]
    rw [← e]; exact h
set_option maxHeartbeats 600000 in
set_option maxRecDepth 100000 in
theorem sp_name {num q : Int} {pl : Int → Int → List Int} {nm : Int → List Int} (ht : tpI M) (hed : edA M pl nm) (h0 : ¬ (0 ≤ q ∧ q ≤ 12 ∧ q ≤ M 2 1) → Q (some (0, -1)) M) (h2 : (0 ≤ q ∧ q ≤ 12 ∧ q ≤ M 2 1) → slot M num < 0 → Q (some (0, -2)) (px_up M 2 1 0)) (h3 : (0 ≤ q ∧ q ≤ 12 ∧ q ≤ M 2 1) → 0 ≤ slot M num → 0 < q → nmV (lst (M 3) q) = 0 → Q (some (0, -3)) (px_up M 2 1 0)) (h4 : (0 ≤ q ∧ q ≤ 12 ∧ q ≤ M 2 1) → 0 ≤ slot M num → ¬ (0 < q ∧ nmV (lst (M 3) q) = 0) → 0 ≤ bearer M (nmV (lst (M 3) q)) → bearer M (nmV (lst (M 3) q)) ≠ slot M num → Q (some (0, -4)) (px_up M 2 1 0)) (h1 : (0 ≤ q ∧ q ≤ 12 ∧ q ≤ M 2 1) → 0 ≤ slot M num → slot M num < M 20 1 → ¬ (0 < q ∧ nmV (lst (M 3) q) = 0) → (bearer M (nmV (lst (M 3) q)) < 0 ∨ bearer M (nmV (lst (M 3) q)) = slot M num) → Q (some (0, q)) (px_up (px_up M 2 1 0) (M 21 (slot M num)) 7 (nmV (lst (M 3) q)))) : px_Ok 129 [(2, 1), (0, num), (0, q)] LAY M Q := by
  have ht1 := ht.1
  have ht2 := ht.2.1
  have hw := hed.1
  have hw2 : edW (px_up M 2 1 0) := by unfold edW; rw [row_ne (by decide), row_ne (by decide)]; exact hw
  refine px_ok_go (inl := [100, 101]) (ls0 := [(2, 1), (0, num), (0, q), (9, 0), (9, 0), (9, 0), (9, 0)]) 60 (by decide) (Nat.le_of_ble_eq_true rfl) rfl ?_
  simp only [px_go, px_Q0_at, px_sx_0, px_sx_s, px_cl, px_step, ↓px_ll, px_lg, f4_, ↓px_r1, ↓px_r2, ↓px_r4, ↓px_r5, ↓px_p1, ↓px_p2, ↓px_p3, ↓px_pop, px_k_0, px_k_s, px_k3_0, px_stk_, px_cats, px_ent, px_st1, px_st2, px_mask, ↓px_tsw, ↓px_lsw, ct_, mls_0, mls_1, mls_2, mls_3, mls_4, mls_5, kd_0, kd_1, kd_2, kd_3, ln_0, ln_1, ln_2, ln_3, gf_0, gf_1, gf_2, gf_3, gf_4, gf_7, gf_21, gf_63, dy_0, dy_1, dy_2, dy_3, dy_7, dy_21, px_brT, px_brF, true_and, and_true, and_false, false_and, and_self, true_implies, false_implies, or_true, true_or, or_false, false_or, eq_self, ne_eq, not_false_eq_true, not_true_eq_false, if_true, if_false, List.mem_cons, List.not_mem_nil, List.length_cons, List.length_nil, Nat.reduceEqDiff, Nat.reduceAdd, Nat.reduceSub, Nat.reduceLeDiff, Nat.reduceLT, Int.reduceEq, Int.reduceLT, Int.reduceLE, Int.reduceNeg, Int.reduceAdd, Int.reduceSub, Int.reduceToNat, ↓reduceIte, one_ne_zero_, zero_ne_one_, px_in32L, cd_129, cd_100, cd_101]
  repeat' (first | (with_reducible apply And.intro) | (with_reducible refine px_br_intro (fun _ => ?_) (fun _ => ?_)))
  all_goals (try (first | (unfold px_in32; omega) | omega))
  all_goals (try exact h0 (by omega))
  refine sp_nameV ht ⟨by omega, by omega, by omega⟩ ?_
  have hlc := (lcmp_lt (nmV (lst (M 3) q)) 0).2.1
  generalize nmV (lst (M 3) q) = v at *
  simp only [px_go, px_Q0_at, px_sx_0, px_sx_s, px_cl, px_step, ↓px_ll, px_lg, f4_, ↓px_r1, ↓px_r2, ↓px_r4, ↓px_r5, ↓px_p1, ↓px_p2, ↓px_p3, ↓px_pop, px_k_0, px_k_s, px_k3_0, px_stk_, px_cats, px_ent, px_st1, px_st2, px_mask, ↓px_tsw, ↓px_lsw, ct_, mls_0, mls_1, mls_2, mls_3, mls_4, mls_5, kd_0, kd_1, kd_2, kd_3, ln_0, ln_1, ln_2, ln_3, gf_0, gf_1, gf_2, gf_3, gf_4, gf_7, gf_21, gf_63, dy_0, dy_1, dy_2, dy_3, dy_7, dy_21, px_brT, px_brF, true_and, and_true, and_false, false_and, and_self, true_implies, false_implies, or_true, true_or, or_false, false_or, eq_self, ne_eq, not_false_eq_true, not_true_eq_false, if_true, if_false, List.mem_cons, List.not_mem_nil, List.length_cons, List.length_nil, Nat.reduceEqDiff, Nat.reduceAdd, Nat.reduceSub, Nat.reduceLeDiff, Nat.reduceLT, Int.reduceEq, Int.reduceLT, Int.reduceLE, Int.reduceNeg, Int.reduceAdd, Int.reduceSub, Int.reduceToNat, ↓reduceIte, one_ne_zero_, zero_ne_one_, px_in32L, cd_129, cd_100, cd_101]
  repeat' (first | (with_reducible apply And.intro) | (with_reducible refine px_br_intro (fun _ => ?_) (fun _ => ?_)))
  all_goals (try (first | (unfold px_in32; omega) | omega))
  refine sp_numbered hw2 ?_
  have hn := hw.2.2
  have es : slot (px_up M 2 1 0) num = slot M num := by
    unfold slot
    rw [row_ne (by decide), row_ne (by decide)]
    refine fnd_congr (fun j j0 j1 => ?_)
    have := isE_m (hw.1 j j0 (by omega)).1
    rw [row_ne (by omega)]
  have eb : bearer (px_up M 2 1 0) v = bearer M v := by
    unfold bearer
    rw [row_ne (by decide), row_ne (by decide)]
    split
    · rfl
    · refine fnd_congr (fun j j0 j1 => ?_)
      have := isE_m (hw.1 j j0 (by omega)).1
      rw [row_ne (by omega)]
  have e21 : px_up M 2 1 0 21 = M 21 := row_ne (by decide)
  unfold edR
  rw [es, e21]
  have hs := slot_rng (M := M) num
  have hbr : bearer M v < 0 ∨ (0 ≤ bearer M v ∧ bearer M v < M 20 1) := by
    unfold bearer
    split
    · left; decide
    · rcases fnd_spec (M 20 1) (fun i => M (M 21 i) 7 = v) with z | z
      · left; omega
      · right; exact ⟨z.1, z.2.1⟩
  generalize slot M num = s at *
  by_cases qs : s < 0
  · rw [if_pos qs]
    simp only [px_go, px_Q0_at, px_sx_0, px_sx_s, px_cl, px_step, ↓px_ll, px_lg, f4_, ↓px_r1, ↓px_r2, ↓px_r4, ↓px_r5, ↓px_p1, ↓px_p2, ↓px_p3, ↓px_pop, px_k_0, px_k_s, px_k3_0, px_stk_, px_cats, px_ent, px_st1, px_st2, px_mask, ↓px_tsw, ↓px_lsw, ct_, mls_0, mls_1, mls_2, mls_3, mls_4, mls_5, kd_0, kd_1, kd_2, kd_3, ln_0, ln_1, ln_2, ln_3, gf_0, gf_1, gf_2, gf_3, gf_4, gf_7, gf_21, gf_63, dy_0, dy_1, dy_2, dy_3, dy_7, dy_21, px_brT, px_brF, true_and, and_true, and_false, false_and, and_self, true_implies, false_implies, or_true, true_or, or_false, false_or, eq_self, ne_eq, not_false_eq_true, not_true_eq_false, if_true, if_false, List.mem_cons, List.not_mem_nil, List.length_cons, List.length_nil, Nat.reduceEqDiff, Nat.reduceAdd, Nat.reduceSub, Nat.reduceLeDiff, Nat.reduceLT, Int.reduceEq, Int.reduceLT, Int.reduceLE, Int.reduceNeg, Int.reduceAdd, Int.reduceSub, Int.reduceToNat, ↓reduceIte, one_ne_zero_, zero_ne_one_, px_in32L, cd_129, cd_100, cd_101]
    exact h2 (by omega) qs
  · rw [if_neg qs]
    have hE := hw.1 s (by omega) (by omega)
    have hel := isE_lay hE.1
    have hem := isE_m hE.1
    have hbe : 0 ≤ bearer M v → isE (M 21 (bearer M v)) ∧ M 21 (bearer M v) < 52 := fun z => hw.1 _ z (by omega)
    have hbm : 0 ≤ bearer M v → 22 ≤ M 21 (bearer M v) := fun z => (isE_m (hbe z).1).2.1
    have hinj : 0 ≤ bearer M v → (M 21 (bearer M v) = M 21 s → bearer M v = s) := fun z w => hw.2.1 _ _ z (by omega) (by omega) (by omega) w
    simp only [px_go, px_Q0_at, px_sx_0, px_sx_s, px_cl, px_step, ↓px_ll, px_lg, f4_, ↓px_r1, ↓px_r2, ↓px_r4, ↓px_r5, ↓px_p1, ↓px_p2, ↓px_p3, ↓px_pop, px_k_0, px_k_s, px_k3_0, px_stk_, px_cats, px_ent, px_st1, px_st2, px_mask, ↓px_tsw, ↓px_lsw, ct_, mls_0, mls_1, mls_2, mls_3, mls_4, mls_5, kd_0, kd_1, kd_2, kd_3, ln_0, ln_1, ln_2, ln_3, gf_0, gf_1, gf_2, gf_3, gf_4, gf_7, gf_21, gf_63, dy_0, dy_1, dy_2, dy_3, dy_7, dy_21, px_brT, px_brF, true_and, and_true, and_false, false_and, and_self, true_implies, false_implies, or_true, true_or, or_false, false_or, eq_self, ne_eq, not_false_eq_true, not_true_eq_false, if_true, if_false, List.mem_cons, List.not_mem_nil, List.length_cons, List.length_nil, Nat.reduceEqDiff, Nat.reduceAdd, Nat.reduceSub, Nat.reduceLeDiff, Nat.reduceLT, Int.reduceEq, Int.reduceLT, Int.reduceLE, Int.reduceNeg, Int.reduceAdd, Int.reduceSub, Int.reduceToNat, ↓reduceIte, one_ne_zero_, zero_ne_one_, px_in32L, cd_129, cd_100, cd_101, hel]
    repeat' (first | (with_reducible apply And.intro) | (with_reducible refine px_br_intro (fun _ => ?_) (fun _ => ?_)))
    all_goals (try (first | (unfold px_in32; omega) | omega))
    · rename_i c1 c2
      refine sp_bearing hw2 ?_
      rw [eb, e21]
      generalize bearer M v = r at *
      by_cases qr : r < 0
      · rw [if_pos qr]
        simp only [px_go, px_Q0_at, px_sx_0, px_sx_s, px_cl, px_step, ↓px_ll, px_lg, f4_, ↓px_r1, ↓px_r2, ↓px_r4, ↓px_r5, ↓px_p1, ↓px_p2, ↓px_p3, ↓px_pop, px_k_0, px_k_s, px_k3_0, px_stk_, px_cats, px_ent, px_st1, px_st2, px_mask, ↓px_tsw, ↓px_lsw, ct_, mls_0, mls_1, mls_2, mls_3, mls_4, mls_5, kd_0, kd_1, kd_2, kd_3, ln_0, ln_1, ln_2, ln_3, gf_0, gf_1, gf_2, gf_3, gf_4, gf_7, gf_21, gf_63, dy_0, dy_1, dy_2, dy_3, dy_7, dy_21, px_brT, px_brF, true_and, and_true, and_false, false_and, and_self, true_implies, false_implies, or_true, true_or, or_false, false_or, eq_self, ne_eq, not_false_eq_true, not_true_eq_false, if_true, if_false, List.mem_cons, List.not_mem_nil, List.length_cons, List.length_nil, Nat.reduceEqDiff, Nat.reduceAdd, Nat.reduceSub, Nat.reduceLeDiff, Nat.reduceLT, Int.reduceEq, Int.reduceLT, Int.reduceLE, Int.reduceNeg, Int.reduceAdd, Int.reduceSub, Int.reduceToNat, ↓reduceIte, one_ne_zero_, zero_ne_one_, px_in32L, cd_129, cd_100, cd_101, hel]
        repeat' (first | (with_reducible apply And.intro) | (with_reducible refine px_br_intro (fun _ => ?_) (fun _ => ?_)))
        all_goals (try (first | (unfold px_in32; omega) | omega))
        exact h1 (by omega) (by omega) (by omega) (by omega) (Or.inl qr)
      · rw [if_neg qr]
        simp only [px_go, px_Q0_at, px_sx_0, px_sx_s, px_cl, px_step, ↓px_ll, px_lg, f4_, ↓px_r1, ↓px_r2, ↓px_r4, ↓px_r5, ↓px_p1, ↓px_p2, ↓px_p3, ↓px_pop, px_k_0, px_k_s, px_k3_0, px_stk_, px_cats, px_ent, px_st1, px_st2, px_mask, ↓px_tsw, ↓px_lsw, ct_, mls_0, mls_1, mls_2, mls_3, mls_4, mls_5, kd_0, kd_1, kd_2, kd_3, ln_0, ln_1, ln_2, ln_3, gf_0, gf_1, gf_2, gf_3, gf_4, gf_7, gf_21, gf_63, dy_0, dy_1, dy_2, dy_3, dy_7, dy_21, px_brT, px_brF, true_and, and_true, and_false, false_and, and_self, true_implies, false_implies, or_true, true_or, or_false, false_or, eq_self, ne_eq, not_false_eq_true, not_true_eq_false, if_true, if_false, List.mem_cons, List.not_mem_nil, List.length_cons, List.length_nil, Nat.reduceEqDiff, Nat.reduceAdd, Nat.reduceSub, Nat.reduceLeDiff, Nat.reduceLT, Int.reduceEq, Int.reduceLT, Int.reduceLE, Int.reduceNeg, Int.reduceAdd, Int.reduceSub, Int.reduceToNat, ↓reduceIte, one_ne_zero_, zero_ne_one_, px_in32L, cd_129, cd_100, cd_101, hel]
        repeat' (first | (with_reducible apply And.intro) | (with_reducible refine px_br_intro (fun _ => ?_) (fun _ => ?_)))
        all_goals (try (first | (unfold px_in32; omega) | omega))
        · rename_i c3 c4
          exact h1 (by omega) (by omega) (by omega) (by omega) (Or.inr (hinj (by omega) c4))
        · rename_i c3 c4
          exact h4 (by omega) (by omega) (by omega) (by omega) (fun z => c4 (by rw [z]))
    · rename_i c1 c2 c3
      exact h3 (by omega) (by omega) (by omega) (hlc.mp c3)
    · rename_i c1 c2 c3
      have hv : v ≠ 0 := fun z => c3 (hlc.mpr z)
      refine sp_bearing hw2 ?_
      rw [eb, e21]
      generalize bearer M v = r at *
      by_cases qr : r < 0
      · rw [if_pos qr]
        simp only [px_go, px_Q0_at, px_sx_0, px_sx_s, px_cl, px_step, ↓px_ll, px_lg, f4_, ↓px_r1, ↓px_r2, ↓px_r4, ↓px_r5, ↓px_p1, ↓px_p2, ↓px_p3, ↓px_pop, px_k_0, px_k_s, px_k3_0, px_stk_, px_cats, px_ent, px_st1, px_st2, px_mask, ↓px_tsw, ↓px_lsw, ct_, mls_0, mls_1, mls_2, mls_3, mls_4, mls_5, kd_0, kd_1, kd_2, kd_3, ln_0, ln_1, ln_2, ln_3, gf_0, gf_1, gf_2, gf_3, gf_4, gf_7, gf_21, gf_63, dy_0, dy_1, dy_2, dy_3, dy_7, dy_21, px_brT, px_brF, true_and, and_true, and_false, false_and, and_self, true_implies, false_implies, or_true, true_or, or_false, false_or, eq_self, ne_eq, not_false_eq_true, not_true_eq_false, if_true, if_false, List.mem_cons, List.not_mem_nil, List.length_cons, List.length_nil, Nat.reduceEqDiff, Nat.reduceAdd, Nat.reduceSub, Nat.reduceLeDiff, Nat.reduceLT, Int.reduceEq, Int.reduceLT, Int.reduceLE, Int.reduceNeg, Int.reduceAdd, Int.reduceSub, Int.reduceToNat, ↓reduceIte, one_ne_zero_, zero_ne_one_, px_in32L, cd_129, cd_100, cd_101, hel]
        repeat' (first | (with_reducible apply And.intro) | (with_reducible refine px_br_intro (fun _ => ?_) (fun _ => ?_)))
        all_goals (try (first | (unfold px_in32; omega) | omega))
        exact h1 (by omega) (by omega) (by omega) (by omega) (Or.inl qr)
      · rw [if_neg qr]
        simp only [px_go, px_Q0_at, px_sx_0, px_sx_s, px_cl, px_step, ↓px_ll, px_lg, f4_, ↓px_r1, ↓px_r2, ↓px_r4, ↓px_r5, ↓px_p1, ↓px_p2, ↓px_p3, ↓px_pop, px_k_0, px_k_s, px_k3_0, px_stk_, px_cats, px_ent, px_st1, px_st2, px_mask, ↓px_tsw, ↓px_lsw, ct_, mls_0, mls_1, mls_2, mls_3, mls_4, mls_5, kd_0, kd_1, kd_2, kd_3, ln_0, ln_1, ln_2, ln_3, gf_0, gf_1, gf_2, gf_3, gf_4, gf_7, gf_21, gf_63, dy_0, dy_1, dy_2, dy_3, dy_7, dy_21, px_brT, px_brF, true_and, and_true, and_false, false_and, and_self, true_implies, false_implies, or_true, true_or, or_false, false_or, eq_self, ne_eq, not_false_eq_true, not_true_eq_false, if_true, if_false, List.mem_cons, List.not_mem_nil, List.length_cons, List.length_nil, Nat.reduceEqDiff, Nat.reduceAdd, Nat.reduceSub, Nat.reduceLeDiff, Nat.reduceLT, Int.reduceEq, Int.reduceLT, Int.reduceLE, Int.reduceNeg, Int.reduceAdd, Int.reduceSub, Int.reduceToNat, ↓reduceIte, one_ne_zero_, zero_ne_one_, px_in32L, cd_129, cd_100, cd_101, hel]
        repeat' (first | (with_reducible apply And.intro) | (with_reducible refine px_br_intro (fun _ => ?_) (fun _ => ?_)))
        all_goals (try (first | (unfold px_in32; omega) | omega))
        · rename_i c4 c5
          exact h1 (by omega) (by omega) (by omega) (by omega) (Or.inr (hinj (by omega) c5))
        · rename_i c4 c5
          exact h4 (by omega) (by omega) (by omega) (by omega) (fun z => c5 (by rw [z]))
set_option maxHeartbeats 600000 in
set_option maxRecDepth 100000 in
theorem sp_named {q : Int} {pl : Int → Int → List Int} {nm : Int → List Int} (ht : tpI M) (hed : edA M pl nm) (h0 : ¬ (1 ≤ q ∧ q ≤ 12 ∧ q ≤ M 2 1) → Q (some (0, -1)) M) (h2 : (1 ≤ q ∧ q ≤ 12 ∧ q ≤ M 2 1) → bearer M (nmV (lst (M 3) q)) < 0 → Q (some (0, -2)) M) (h1 : (1 ≤ q ∧ q ≤ 12 ∧ q ≤ M 2 1) → 0 ≤ bearer M (nmV (lst (M 3) q)) → bearer M (nmV (lst (M 3) q)) < M 20 1 → Q (some (0, M (M 21 (bearer M (nmV (lst (M 3) q)))) 3)) M) : px_Ok 130 [(2, 1), (0, q)] LAY M Q := by
  have ht1 := ht.1
  have ht2 := ht.2.1
  have hw := hed.1
  refine px_ok_go (inl := [101, 102]) (ls0 := [(2, 1), (0, q), (9, 0)]) 60 (by decide) (Nat.le_of_ble_eq_true rfl) rfl ?_
  simp only [px_go, px_Q0_at, px_sx_0, px_sx_s, px_cl, px_step, ↓px_ll, px_lg, f4_, ↓px_r1, ↓px_r2, ↓px_r4, ↓px_r5, ↓px_p1, ↓px_p2, ↓px_p3, ↓px_pop, px_k_0, px_k_s, px_k3_0, px_stk_, px_cats, px_ent, px_st1, px_st2, px_mask, ↓px_tsw, ↓px_lsw, ct_, mls_0, mls_1, mls_2, mls_3, mls_4, mls_5, kd_0, kd_1, kd_2, kd_3, ln_0, ln_1, ln_2, ln_3, gf_0, gf_1, gf_2, gf_3, gf_4, gf_7, gf_21, gf_63, dy_0, dy_1, dy_2, dy_3, dy_7, dy_21, px_brT, px_brF, true_and, and_true, and_false, false_and, and_self, true_implies, false_implies, or_true, true_or, or_false, false_or, eq_self, ne_eq, not_false_eq_true, not_true_eq_false, if_true, if_false, List.mem_cons, List.not_mem_nil, List.length_cons, List.length_nil, Nat.reduceEqDiff, Nat.reduceAdd, Nat.reduceSub, Nat.reduceLeDiff, Nat.reduceLT, Int.reduceEq, Int.reduceLT, Int.reduceLE, Int.reduceNeg, Int.reduceAdd, Int.reduceSub, Int.reduceToNat, ↓reduceIte, one_ne_zero_, zero_ne_one_, px_in32L, cd_130, cd_101, cd_102]
  repeat' (first | (with_reducible apply And.intro) | (with_reducible refine px_br_intro (fun _ => ?_) (fun _ => ?_)))
  all_goals (try (first | (unfold px_in32; omega) | omega))
  all_goals (try exact h0 (by omega))
  refine sp_nameV ht ⟨by omega, by omega, by omega⟩ ?_
  generalize nmV (lst (M 3) q) = v at *
  simp only [px_go, px_Q0_at, px_sx_0, px_sx_s, px_cl, px_step, ↓px_ll, px_lg, f4_, ↓px_r1, ↓px_r2, ↓px_r4, ↓px_r5, ↓px_p1, ↓px_p2, ↓px_p3, ↓px_pop, px_k_0, px_k_s, px_k3_0, px_stk_, px_cats, px_ent, px_st1, px_st2, px_mask, ↓px_tsw, ↓px_lsw, ct_, mls_0, mls_1, mls_2, mls_3, mls_4, mls_5, kd_0, kd_1, kd_2, kd_3, ln_0, ln_1, ln_2, ln_3, gf_0, gf_1, gf_2, gf_3, gf_4, gf_7, gf_21, gf_63, dy_0, dy_1, dy_2, dy_3, dy_7, dy_21, px_brT, px_brF, true_and, and_true, and_false, false_and, and_self, true_implies, false_implies, or_true, true_or, or_false, false_or, eq_self, ne_eq, not_false_eq_true, not_true_eq_false, if_true, if_false, List.mem_cons, List.not_mem_nil, List.length_cons, List.length_nil, Nat.reduceEqDiff, Nat.reduceAdd, Nat.reduceSub, Nat.reduceLeDiff, Nat.reduceLT, Int.reduceEq, Int.reduceLT, Int.reduceLE, Int.reduceNeg, Int.reduceAdd, Int.reduceSub, Int.reduceToNat, ↓reduceIte, one_ne_zero_, zero_ne_one_, px_in32L, cd_130, cd_101, cd_102]
  refine sp_bearing hw ?_
  have hbr : bearer M v < 0 ∨ (0 ≤ bearer M v ∧ bearer M v < M 20 1) := by
    unfold bearer
    split
    · left; decide
    · rcases fnd_spec (M 20 1) (fun i => M (M 21 i) 7 = v) with z | z
      · left; omega
      · right; exact ⟨z.1, z.2.1⟩
  have hn := hw.2.2
  have hbe : 0 ≤ bearer M v → isE (M 21 (bearer M v)) ∧ M 21 (bearer M v) < 52 := fun z => hw.1 _ z (by omega)
  generalize bearer M v = r at *
  by_cases qr : r < 0
  · rw [if_pos qr]
    simp only [px_go, px_Q0_at, px_sx_0, px_sx_s, px_cl, px_step, ↓px_ll, px_lg, f4_, ↓px_r1, ↓px_r2, ↓px_r4, ↓px_r5, ↓px_p1, ↓px_p2, ↓px_p3, ↓px_pop, px_k_0, px_k_s, px_k3_0, px_stk_, px_cats, px_ent, px_st1, px_st2, px_mask, ↓px_tsw, ↓px_lsw, ct_, mls_0, mls_1, mls_2, mls_3, mls_4, mls_5, kd_0, kd_1, kd_2, kd_3, ln_0, ln_1, ln_2, ln_3, gf_0, gf_1, gf_2, gf_3, gf_4, gf_7, gf_21, gf_63, dy_0, dy_1, dy_2, dy_3, dy_7, dy_21, px_brT, px_brF, true_and, and_true, and_false, false_and, and_self, true_implies, false_implies, or_true, true_or, or_false, false_or, eq_self, ne_eq, not_false_eq_true, not_true_eq_false, if_true, if_false, List.mem_cons, List.not_mem_nil, List.length_cons, List.length_nil, Nat.reduceEqDiff, Nat.reduceAdd, Nat.reduceSub, Nat.reduceLeDiff, Nat.reduceLT, Int.reduceEq, Int.reduceLT, Int.reduceLE, Int.reduceNeg, Int.reduceAdd, Int.reduceSub, Int.reduceToNat, ↓reduceIte, one_ne_zero_, zero_ne_one_, px_in32L, cd_130, cd_101, cd_102]
    exact h2 (by omega) qr
  · rw [if_neg qr]
    have hE := hbe (by omega)
    have hel := isE_lay hE.1
    have heg := isE_gf hE.1
    have hem := isE_m hE.1
    simp only [px_go, px_Q0_at, px_sx_0, px_sx_s, px_cl, px_step, ↓px_ll, px_lg, f4_, ↓px_r1, ↓px_r2, ↓px_r4, ↓px_r5, ↓px_p1, ↓px_p2, ↓px_p3, ↓px_pop, px_k_0, px_k_s, px_k3_0, px_stk_, px_cats, px_ent, px_st1, px_st2, px_mask, ↓px_tsw, ↓px_lsw, ct_, mls_0, mls_1, mls_2, mls_3, mls_4, mls_5, kd_0, kd_1, kd_2, kd_3, ln_0, ln_1, ln_2, ln_3, gf_0, gf_1, gf_2, gf_3, gf_4, gf_7, gf_21, gf_63, dy_0, dy_1, dy_2, dy_3, dy_7, dy_21, px_brT, px_brF, true_and, and_true, and_false, false_and, and_self, true_implies, false_implies, or_true, true_or, or_false, false_or, eq_self, ne_eq, not_false_eq_true, not_true_eq_false, if_true, if_false, List.mem_cons, List.not_mem_nil, List.length_cons, List.length_nil, Nat.reduceEqDiff, Nat.reduceAdd, Nat.reduceSub, Nat.reduceLeDiff, Nat.reduceLT, Int.reduceEq, Int.reduceLT, Int.reduceLE, Int.reduceNeg, Int.reduceAdd, Int.reduceSub, Int.reduceToNat, ↓reduceIte, one_ne_zero_, zero_ne_one_, px_in32L, cd_130, cd_101, cd_102, hel, heg]
    repeat' (first | (with_reducible apply And.intro) | (with_reducible refine px_br_intro (fun _ => ?_) (fun _ => ?_)))
    all_goals (try (first | (unfold px_in32; omega) | omega))
    exact h1 (by omega) (by omega) (by omega)
set_option maxHeartbeats 600000 in
set_option maxRecDepth 100000 in
theorem sp_nameByte {num k : Int} {pl : Int → Int → List Int} {nm : Int → List Int} (hed : edA M pl nm) (h0 : (slot M num < 0 ∨ k < 0) → Q (some (0, -1)) M) (h1 : 0 ≤ slot M num → 0 ≤ k → Q (some (0, usg (sgA (nm (slot M num)) k))) M) : px_Ok 131 [(2, 1), (0, num), (0, k)] LAY M Q := by
  refine px_ok_go (inl := []) (ls0 := [(2, 1), (0, num), (0, k), (9, 0)]) 60 (by decide) (Nat.le_of_ble_eq_true rfl) rfl ?_
  simp only [px_go, px_Q0_at, px_sx_0, px_sx_s, px_cl, px_step, ↓px_ll, px_lg, f4_, ↓px_r1, ↓px_r2, ↓px_r4, ↓px_r5, ↓px_p1, ↓px_p2, ↓px_p3, ↓px_pop, px_k_0, px_k_s, px_k3_0, px_stk_, px_cats, px_ent, px_st1, px_st2, px_mask, ↓px_tsw, ↓px_lsw, ct_, mls_0, mls_1, mls_2, mls_3, mls_4, mls_5, kd_0, kd_1, kd_2, kd_3, ln_0, ln_1, ln_2, ln_3, gf_0, gf_1, gf_2, gf_3, gf_4, gf_7, gf_21, gf_63, dy_0, dy_1, dy_2, dy_3, dy_7, dy_21, px_brT, px_brF, true_and, and_true, and_false, false_and, and_self, true_implies, false_implies, or_true, true_or, or_false, false_or, eq_self, ne_eq, not_false_eq_true, not_true_eq_false, if_true, if_false, List.mem_cons, List.not_mem_nil, List.length_cons, List.length_nil, Nat.reduceEqDiff, Nat.reduceAdd, Nat.reduceSub, Nat.reduceLeDiff, Nat.reduceLT, Int.reduceEq, Int.reduceLT, Int.reduceLE, Int.reduceNeg, Int.reduceAdd, Int.reduceSub, Int.reduceToNat, ↓reduceIte, one_ne_zero_, zero_ne_one_, px_in32L, cd_131]
  repeat' (first | (with_reducible apply And.intro) | (with_reducible refine px_br_intro (fun _ => ?_) (fun _ => ?_)))
  all_goals (try (first | (unfold px_in32; omega) | omega))
  have hw := hed.1
  refine sp_numbered hw ?_
  unfold edR
  have hs := slot_rng (M := M) num
  generalize slot M num = s at *
  by_cases q : s < 0
  · rw [if_pos q]
    simp only [px_go, px_Q0_at, px_sx_0, px_sx_s, px_cl, px_step, ↓px_ll, px_lg, f4_, ↓px_r1, ↓px_r2, ↓px_r4, ↓px_r5, ↓px_p1, ↓px_p2, ↓px_p3, ↓px_pop, px_k_0, px_k_s, px_k3_0, px_stk_, px_cats, px_ent, px_st1, px_st2, px_mask, ↓px_tsw, ↓px_lsw, ct_, mls_0, mls_1, mls_2, mls_3, mls_4, mls_5, kd_0, kd_1, kd_2, kd_3, ln_0, ln_1, ln_2, ln_3, gf_0, gf_1, gf_2, gf_3, gf_4, gf_7, gf_21, gf_63, dy_0, dy_1, dy_2, dy_3, dy_7, dy_21, px_brT, px_brF, true_and, and_true, and_false, false_and, and_self, true_implies, false_implies, or_true, true_or, or_false, false_or, eq_self, ne_eq, not_false_eq_true, not_true_eq_false, if_true, if_false, List.mem_cons, List.not_mem_nil, List.length_cons, List.length_nil, Nat.reduceEqDiff, Nat.reduceAdd, Nat.reduceSub, Nat.reduceLeDiff, Nat.reduceLT, Int.reduceEq, Int.reduceLT, Int.reduceLE, Int.reduceNeg, Int.reduceAdd, Int.reduceSub, Int.reduceToNat, ↓reduceIte, one_ne_zero_, zero_ne_one_, px_in32L, cd_131]
    exact h0 (Or.inl q)
  · rw [if_neg q]
    have hE := hw.1 s (by omega) (by have := hw.2.2; omega)
    have hel := isE_lay hE.1
    have heg := isE_gf hE.1
    have hem := isE_m hE.1
    have hei := hed.2 s (by omega) (by omega)
    obtain ⟨_, _, _, _, _, n1, n2, n3⟩ := hei
    simp only [px_go, px_Q0_at, px_sx_0, px_sx_s, px_cl, px_step, ↓px_ll, px_lg, f4_, ↓px_r1, ↓px_r2, ↓px_r4, ↓px_r5, ↓px_p1, ↓px_p2, ↓px_p3, ↓px_pop, px_k_0, px_k_s, px_k3_0, px_stk_, px_cats, px_ent, px_st1, px_st2, px_mask, ↓px_tsw, ↓px_lsw, ct_, mls_0, mls_1, mls_2, mls_3, mls_4, mls_5, kd_0, kd_1, kd_2, kd_3, ln_0, ln_1, ln_2, ln_3, gf_0, gf_1, gf_2, gf_3, gf_4, gf_7, gf_21, gf_63, dy_0, dy_1, dy_2, dy_3, dy_7, dy_21, px_brT, px_brF, true_and, and_true, and_false, false_and, and_self, true_implies, false_implies, or_true, true_or, or_false, false_or, eq_self, ne_eq, not_false_eq_true, not_true_eq_false, if_true, if_false, List.mem_cons, List.not_mem_nil, List.length_cons, List.length_nil, Nat.reduceEqDiff, Nat.reduceAdd, Nat.reduceSub, Nat.reduceLeDiff, Nat.reduceLT, Int.reduceEq, Int.reduceLT, Int.reduceLE, Int.reduceNeg, Int.reduceAdd, Int.reduceSub, Int.reduceToNat, ↓reduceIte, one_ne_zero_, zero_ne_one_, px_in32L, cd_131, hel, heg]
    repeat' (first | (with_reducible apply And.intro) | (with_reducible refine px_br_intro (fun _ => ?_) (fun _ => ?_)))
    all_goals (try (first | (unfold px_in32; omega) | omega))
    · rename_i c1 c2
      rw [n3]
      refine sp_byteOr n1.2 ?_
      simp only [px_go, px_Q0_at, px_sx_0, px_sx_s, px_cl, px_step, ↓px_ll, px_lg, f4_, ↓px_r1, ↓px_r2, ↓px_r4, ↓px_r5, ↓px_p1, ↓px_p2, ↓px_p3, ↓px_pop, px_k_0, px_k_s, px_k3_0, px_stk_, px_cats, px_ent, px_st1, px_st2, px_mask, ↓px_tsw, ↓px_lsw, ct_, mls_0, mls_1, mls_2, mls_3, mls_4, mls_5, kd_0, kd_1, kd_2, kd_3, ln_0, ln_1, ln_2, ln_3, gf_0, gf_1, gf_2, gf_3, gf_4, gf_7, gf_21, gf_63, dy_0, dy_1, dy_2, dy_3, dy_7, dy_21, px_brT, px_brF, true_and, and_true, and_false, false_and, and_self, true_implies, false_implies, or_true, true_or, or_false, false_or, eq_self, ne_eq, not_false_eq_true, not_true_eq_false, if_true, if_false, List.mem_cons, List.not_mem_nil, List.length_cons, List.length_nil, Nat.reduceEqDiff, Nat.reduceAdd, Nat.reduceSub, Nat.reduceLeDiff, Nat.reduceLT, Int.reduceEq, Int.reduceLT, Int.reduceLE, Int.reduceNeg, Int.reduceAdd, Int.reduceSub, Int.reduceToNat, ↓reduceIte, one_ne_zero_, zero_ne_one_, px_in32L, cd_131]
      exact h1 (by omega) c2
    · rename_i c1 c2
      exact h0 (Or.inr (by omega))
end PS
