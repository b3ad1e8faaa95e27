/-! EditionVault.Path -/
set_option maxRecDepth 100000 in
/-- X5_signOf -/
theorem cd_60 : px_at 60 0 = some (1, [], .iload_n 0, []) ∧ px_at 60 1 = some (3, [], .bipush 47, []) ∧ px_at 60 3 = some (6, [], .if_icmp .ne 5, [8]) ∧ px_at 60 6 = some (7, [], .iconst 1, []) ∧ px_at 60 7 = some (8, [], .ireturn, [0]) ∧ px_at 60 8 = some (9, [], .iload_n 0, []) ∧ px_at 60 9 = some (11, [], .bipush 97, []) ∧ px_at 60 11 = some (14, [], .if_icmp .lt 20, [31]) ∧ px_at 60 14 = some (15, [], .iload_n 0, []) ∧ px_at 60 15 = some (17, [], .bipush 122, []) ∧ px_at 60 17 = some (20, [], .if_icmp .gt 14, [31]) ∧ px_at 60 20 = some (21, [], .iload_n 0, []) ∧ px_at 60 21 = some (23, [], .bipush 97, []) ∧ px_at 60 23 = some (24, [], .isub, []) ∧ px_at 60 24 = some (25, [], .iconst 1, []) ∧ px_at 60 25 = some (26, [], .iadd, []) ∧ px_at 60 26 = some (27, [], .iconst 1, []) ∧ px_at 60 27 = some (28, [], .iadd, []) ∧ px_at 60 28 = some (31, [], .goto 4, [32]) ∧ px_at 60 31 = some (32, [], .iconst 0, []) ∧ px_at 60 32 = some (33, [], .ireturn, [0]) := ⟨rfl, rfl, rfl, rfl, rfl, rfl, rfl, rfl, rfl, rfl, rfl, rfl, rfl, rfl, rfl, rfl, rfl, rfl, rfl, rfl, rfl⟩
set_option maxRecDepth 100000 in
/-- X5_signAt -/
theorem cd_61 : px_at 61 0 = some (1, [], .iload_n 2, []) ∧ px_at 61 1 = some (4, [], .ifCond .lt 9, [10]) ∧ px_at 61 4 = some (5, [], .iload_n 2, []) ∧ px_at 61 5 = some (7, [], .bipush 12, []) ∧ px_at 61 7 = some (10, [], .if_icmp .lt 7, [14]) ∧ px_at 61 10 = some (11, [], .iconst 0, []) ∧ px_at 61 11 = some (14, [], .goto 15, [26]) ∧ px_at 61 14 = some (15, [], .lload_n 0, []) ∧ px_at 61 15 = some (17, [], .bipush 55, []) ∧ px_at 61 17 = some (18, [], .iconst 5, []) ∧ px_at 61 18 = some (19, [], .iload_n 2, []) ∧ px_at 61 19 = some (20, [], .imul, []) ∧ px_at 61 20 = some (21, [], .isub, []) ∧ px_at 61 21 = some (22, [], .lushr, []) ∧ px_at 61 22 = some (23, [], .l2i, []) ∧ px_at 61 23 = some (25, [], .bipush 31, []) ∧ px_at 61 25 = some (26, [], .iand, []) ∧ px_at 61 26 = some (27, [], .ireturn, [0]) := ⟨rfl, rfl, rfl, rfl, rfl, rfl, rfl, rfl, rfl, rfl, rfl, rfl, rfl, rfl, rfl, rfl, rfl, rfl⟩
set_option maxRecDepth 100000 in
/-- X5_withSign -/
theorem cd_62 : px_at 62 0 = some (1, [], .iload_n 2, []) ∧ px_at 62 1 = some (4, [], .ifCond .lt 9, [10]) ∧ px_at 62 4 = some (5, [], .iload_n 2, []) ∧ px_at 62 5 = some (7, [], .bipush 12, []) ∧ px_at 62 7 = some (10, [], .if_icmp .lt 7, [14]) ∧ px_at 62 10 = some (11, [], .lload_n 0, []) ∧ px_at 62 11 = some (14, [], .goto 14, [25]) ∧ px_at 62 14 = some (15, [], .lload_n 0, []) ∧ px_at 62 15 = some (16, [], .iload_n 3, []) ∧ px_at 62 16 = some (17, [], .i2l, []) ∧ px_at 62 17 = some (19, [], .bipush 55, []) ∧ px_at 62 19 = some (20, [], .iconst 5, []) ∧ px_at 62 20 = some (21, [], .iload_n 2, []) ∧ px_at 62 21 = some (22, [], .imul, []) ∧ px_at 62 22 = some (23, [], .isub, []) ∧ px_at 62 23 = some (24, [], .lshl, []) ∧ px_at 62 24 = some (25, [], .lor, []) ∧ px_at 62 25 = some (26, [], .lreturn, []) := ⟨rfl, rfl, rfl, rfl, rfl, rfl, rfl, rfl, rfl, rfl, rfl, rfl, rfl, rfl, rfl, rfl, rfl, rfl⟩
set_option maxRecDepth 100000 in
/-- X5_lengthOf -/
theorem cd_63 : px_at 63 0 = some (1, [], .iconst 0, []) ∧ px_at 63 1 = some (2, [], .istore_n 2, []) ∧ px_at 63 2 = some (3, [], .lload_n 0, []) ∧ px_at 63 3 = some (4, [], .lstore_n 3, []) ∧ px_at 63 4 = some (5, [0, 0, 1, 1, 0], .iload_n 2, []) ∧ px_at 63 5 = some (7, [], .bipush 12, []) ∧ px_at 63 7 = some (10, [], .if_icmp .ge 23, [30]) ∧ px_at 63 10 = some (11, [], .lload_n 3, []) ∧ px_at 63 11 = some (12, [], .lconst 0, []) ∧ px_at 63 12 = some (13, [], .lcmp, []) ∧ px_at 63 13 = some (16, [], .ifCond .eq 17, [30]) ∧ px_at 63 16 = some (17, [], .lload_n 3, []) ∧ px_at 63 17 = some (18, [], .iconst 5, []) ∧ px_at 63 18 = some (19, [], .lshl, []) ∧ px_at 63 19 = some (22, [], .ldc2_w 9, [1152921504606846975, 5]) ∧ px_at 63 22 = some (23, [], .land, []) ∧ px_at 63 23 = some (24, [], .lstore_n 3, []) ∧ px_at 63 24 = some (27, [], .iinc 2 1, []) ∧ px_at 63 27 = some (30, [], .goto (-23), [4]) ∧ px_at 63 30 = some (31, [], .iload_n 2, []) ∧ px_at 63 31 = some (32, [], .ireturn, [0]) := ⟨rfl, rfl, rfl, rfl, rfl, rfl, rfl, rfl, rfl, rfl, rfl, rfl, rfl, rfl, rfl, rfl, rfl, rfl, rfl, rfl, rfl⟩
set_option maxRecDepth 100000 in
/-- X5_byteOrNothing -/
theorem cd_64 : px_at 64 0 = some (1, [], .lload_n 0, []) ∧ px_at 64 1 = some (2, [], .iload_n 2, []) ∧ px_at 64 2 = some (5, [], .invokestatic 11, [61, 2, 0, 40]) ∧ px_at 64 5 = some (6, [], .istore_n 3, []) ∧ px_at 64 6 = some (7, [], .iload_n 3, []) ∧ px_at 64 7 = some (10, [], .ifCond .ne 6, [13]) ∧ px_at 64 10 = some (12, [], .bipush (-2), []) ∧ px_at 64 12 = some (13, [], .ireturn, [0]) ∧ px_at 64 13 = some (14, [], .iload_n 3, []) ∧ px_at 64 14 = some (15, [], .iconst 1, []) ∧ px_at 64 15 = some (18, [], .if_icmp .ne 8, [23]) ∧ px_at 64 18 = some (20, [], .bipush 47, []) ∧ px_at 64 20 = some (23, [], .goto 11, [31]) ∧ px_at 64 23 = some (24, [], .iload_n 3, []) ∧ px_at 64 24 = some (25, [], .iconst 1, []) ∧ px_at 64 25 = some (26, [], .isub, []) ∧ px_at 64 26 = some (27, [], .iconst 1, []) ∧ px_at 64 27 = some (28, [], .isub, []) ∧ px_at 64 28 = some (30, [], .bipush 97, []) ∧ px_at 64 30 = some (31, [], .iadd, []) ∧ px_at 64 31 = some (32, [], .ireturn, [0]) := ⟨rfl, rfl, rfl, rfl, rfl, rfl, rfl, rfl, rfl, rfl, rfl, rfl, rfl, rfl, rfl, rfl, rfl, rfl, rfl, rfl, rfl⟩
set_option maxRecDepth 100000 in
/-- X5_isAbove -/
theorem cd_65 : px_at 65 0 = some (1, [], .lload_n 0, []) ∧ px_at 65 1 = some (4, [], .invokestatic 17, [63, 1, 0, 39]) ∧ px_at 65 4 = some (6, [], .istore 4, []) ∧ px_at 65 6 = some (8, [], .iload 4, []) ∧ px_at 65 8 = some (11, [], .ifCond .eq 13, [21]) ∧ px_at 65 11 = some (12, [], .lload_n 2, []) ∧ px_at 65 12 = some (14, [], .iload 4, []) ∧ px_at 65 14 = some (17, [], .invokestatic 11, [61, 2, 0, 40]) ∧ px_at 65 17 = some (18, [], .iconst 1, []) ∧ px_at 65 18 = some (21, [], .if_icmp .eq 5, [23]) ∧ px_at 65 21 = some (22, [], .iconst 0, []) ∧ px_at 65 22 = some (23, [], .ireturn, [4]) ∧ px_at 65 23 = some (25, [], .bipush 60, []) ∧ px_at 65 25 = some (26, [], .iconst 5, []) ∧ px_at 65 26 = some (28, [], .iload 4, []) ∧ px_at 65 28 = some (29, [], .imul, []) ∧ px_at 65 29 = some (30, [], .isub, []) ∧ px_at 65 30 = some (32, [], .istore 5, []) ∧ px_at 65 32 = some (33, [], .lload_n 0, []) ∧ px_at 65 33 = some (35, [], .iload 5, []) ∧ px_at 65 35 = some (36, [], .lushr, []) ∧ px_at 65 36 = some (37, [], .lload_n 2, []) ∧ px_at 65 37 = some (39, [], .iload 5, []) ∧ px_at 65 39 = some (40, [], .lushr, []) ∧ px_at 65 40 = some (41, [], .lcmp, []) ∧ px_at 65 41 = some (44, [], .ifCond .ne 7, [48]) ∧ px_at 65 44 = some (45, [], .iconst 1, []) ∧ px_at 65 45 = some (48, [], .goto 4, [49]) ∧ px_at 65 48 = some (49, [], .iconst 0, []) ∧ px_at 65 49 = some (50, [], .ireturn, [4]) := ⟨rfl, rfl, rfl, rfl, rfl, rfl, rfl, rfl, rfl, rfl, rfl, rfl, rfl, rfl, rfl, rfl, rfl, rfl, rfl, rfl, rfl, rfl, rfl, rfl, rfl, rfl, rfl, rfl, rfl, rfl⟩
set_option maxRecDepth 100000 in
/-- X5_isWithin -/
theorem cd_66 : px_at 66 0 = some (1, [], .lload_n 0, []) ∧ px_at 66 1 = some (2, [], .lload_n 2, []) ∧ px_at 66 2 = some (3, [], .lcmp, []) ∧ px_at 66 3 = some (6, [], .ifCond .eq 11, [14]) ∧ px_at 66 6 = some (7, [], .lload_n 2, []) ∧ px_at 66 7 = some (8, [], .lload_n 0, []) ∧ px_at 66 8 = some (11, [], .invokestatic 21, [65, 2, 0, 38]) ∧ px_at 66 11 = some (14, [], .ifCond .eq 7, [18]) ∧ px_at 66 14 = some (15, [], .iconst 1, []) ∧ px_at 66 15 = some (18, [], .goto 4, [19]) ∧ px_at 66 18 = some (19, [], .iconst 0, []) ∧ px_at 66 19 = some (20, [], .ireturn, [4]) := ⟨rfl, rfl, rfl, rfl, rfl, rfl, rfl, rfl, rfl, rfl, rfl, rfl⟩
set_option maxRecDepth 100000 in
/-- X5_placeIn -/
theorem cd_67 : px_at 67 0 = some (1, [], .iconst 0, []) ∧ px_at 67 1 = some (3, [], .istore 4, []) ∧ px_at 67 3 = some (5, [1, 1, 1, 0, 1], .iload 4, []) ∧ px_at 67 5 = some (6, [], .iload_n 1, []) ∧ px_at 67 6 = some (9, [], .if_icmp .ge 28, [34]) ∧ px_at 67 9 = some (11, [], .iload 4, []) ∧ px_at 67 11 = some (12, [], .aload_n 0, []) ∧ px_at 67 12 = some (13, [], .arraylength, []) ∧ px_at 67 13 = some (16, [], .if_icmp .ge 21, [34]) ∧ px_at 67 16 = some (17, [], .aload_n 0, []) ∧ px_at 67 17 = some (19, [], .iload 4, []) ∧ px_at 67 19 = some (20, [], .laload, []) ∧ px_at 67 20 = some (21, [], .lload_n 2, []) ∧ px_at 67 21 = some (22, [], .lcmp, []) ∧ px_at 67 22 = some (25, [], .ifCond .ne 6, [28]) ∧ px_at 67 25 = some (27, [], .iload 4, []) ∧ px_at 67 27 = some (28, [], .ireturn, [0]) ∧ px_at 67 28 = some (31, [], .iinc 4 1, []) ∧ px_at 67 31 = some (34, [], .goto (-28), [3]) ∧ px_at 67 34 = some (36, [], .bipush (-2), []) ∧ px_at 67 36 = some (37, [], .ireturn, [0]) := ⟨rfl, rfl, rfl, rfl, rfl, rfl, rfl, rfl, rfl, rfl, rfl, rfl, rfl, rfl, rfl, rfl, rfl, rfl, rfl, rfl, rfl⟩
set_option maxRecDepth 100000 in
/-- X5_howManyWithin -/
theorem cd_68 : px_at 68 0 = some (1, [], .iconst 0, []) ∧ px_at 68 1 = some (3, [], .istore 4, []) ∧ px_at 68 3 = some (4, [], .iconst 0, []) ∧ px_at 68 4 = some (6, [], .istore 5, []) ∧ px_at 68 6 = some (8, [1, 1, 1, 0, 1, 1], .iload 5, []) ∧ px_at 68 8 = some (9, [], .iload_n 1, []) ∧ px_at 68 9 = some (12, [], .if_icmp .ge 30, [39]) ∧ px_at 68 12 = some (14, [], .iload 5, []) ∧ px_at 68 14 = some (15, [], .aload_n 0, []) ∧ px_at 68 15 = some (16, [], .arraylength, []) ∧ px_at 68 16 = some (19, [], .if_icmp .ge 23, [39]) ∧ px_at 68 19 = some (20, [], .aload_n 0, []) ∧ px_at 68 20 = some (22, [], .iload 5, []) ∧ px_at 68 22 = some (23, [], .laload, []) ∧ px_at 68 23 = some (24, [], .lload_n 2, []) ∧ px_at 68 24 = some (27, [], .invokestatic 25, [66, 2, 0, 53]) ∧ px_at 68 27 = some (30, [], .ifCond .eq 6, [33]) ∧ px_at 68 30 = some (33, [], .iinc 4 1, []) ∧ px_at 68 33 = some (36, [], .iinc 5 1, []) ∧ px_at 68 36 = some (39, [], .goto (-30), [6]) ∧ px_at 68 39 = some (41, [], .iload 4, []) ∧ px_at 68 41 = some (42, [], .ireturn, [0]) := ⟨rfl, rfl, rfl, rfl, rfl, rfl, rfl, rfl, rfl, rfl, rfl, rfl, rfl, rfl, rfl, rfl, rfl, rfl, rfl, rfl, rfl, rfl⟩
set_option maxRecDepth 100000 in
/-- X5_renamed -/
theorem cd_69 : px_at 69 0 = some (1, [], .lload_n 2, []) ∧ px_at 69 1 = some (4, [], .invokestatic 17, [63, 1, 0, 39]) ∧ px_at 69 4 = some (6, [], .istore 6, []) ∧ px_at 69 6 = some (8, [], .lload 4, []) ∧ px_at 69 8 = some (11, [], .invokestatic 17, [63, 1, 0, 39]) ∧ px_at 69 11 = some (13, [], .istore 7, []) ∧ px_at 69 13 = some (14, [], .lload_n 0, []) ∧ px_at 69 14 = some (17, [], .invokestatic 17, [63, 1, 0, 39]) ∧ px_at 69 17 = some (19, [], .iload 6, []) ∧ px_at 69 19 = some (20, [], .isub, []) ∧ px_at 69 20 = some (22, [], .iload 7, []) ∧ px_at 69 22 = some (23, [], .iadd, []) ∧ px_at 69 23 = some (25, [], .bipush 12, []) ∧ px_at 69 25 = some (28, [], .if_icmp .le 5, [30]) ∧ px_at 69 28 = some (29, [], .lconst 0, []) ∧ px_at 69 29 = some (30, [], .lreturn, []) ∧ px_at 69 30 = some (31, [], .lload_n 0, []) ∧ px_at 69 31 = some (32, [], .iconst 5, []) ∧ px_at 69 32 = some (34, [], .iload 6, []) ∧ px_at 69 34 = some (35, [], .imul, []) ∧ px_at 69 35 = some (36, [], .lshl, []) ∧ px_at 69 36 = some (39, [], .ldc2_w 9, [1152921504606846975, 5]) ∧ px_at 69 39 = some (40, [], .land, []) ∧ px_at 69 40 = some (42, [], .lstore 8, []) ∧ px_at 69 42 = some (44, [], .lload 4, []) ∧ px_at 69 44 = some (46, [], .lload 8, []) ∧ px_at 69 46 = some (47, [], .iconst 5, []) ∧ px_at 69 47 = some (49, [], .iload 7, []) ∧ px_at 69 49 = some (50, [], .imul, []) ∧ px_at 69 50 = some (51, [], .lushr, []) ∧ px_at 69 51 = some (52, [], .lor, []) ∧ px_at 69 52 = some (53, [], .lreturn, []) := ⟨rfl, rfl, rfl, rfl, rfl, rfl, rfl, rfl, rfl, rfl, rfl, rfl, rfl, rfl, rfl, rfl, rfl, rfl, rfl, rfl, rfl, rfl, rfl, rfl, rfl, rfl, rfl, rfl, rfl, rfl, rfl, rfl⟩
def sgA (l : List Int) (k : Int) : Int := if 0 ≤ k then (match l[k.toNat]? with | some b => sg b | none => 0) else 0
theorem sgA_rng (l : List Int) (k : Int) : 0 ≤ sgA l k ∧ sgA l k ≤ 27 := by
  unfold sgA
  split
  · split
    · exact sg_rng _
    · omega
  · omega
theorem sgA_dig {l : List Int} {k : Int} (h0 : 0 ≤ k) (h1 : k < 12) : px_iand (px_l2i (px_lushr (enc l) (55 - 5 * k))) 31 = sgA l k := by
  obtain ⟨n, rfl⟩ := Int.eq_ofNat_of_zero_le h0
  have hr := enc_rng l
  rw [l2i_31, lushr_eq (by omega) (by omega) hr.1 (by omega), show (55 - 5 * (n : Int)).toNat = 5 * (12 - 1 - n) by omega, ← P32_2]
  have h := encF_dig (d := 12) l (k := n) (by omega)
  unfold sgA
  rw [if_pos h0, Int.toNat_natCast]
  exact h
theorem sgA_out {l : List Int} {k : Int} (hl : l.length ≤ 12) (h : ¬ (0 ≤ k ∧ k < 12)) : sgA l k = 0 := by
  unfold sgA
  split
  · rw [List.getElem?_eq_none (by omega)]
  · rfl
theorem sgA_at {l : List Int} {k : Nat} {b : Int} (h : l[k]? = some b) : sgA l (k : Int) = sg b := by
  unfold sgA
  rw [if_pos (by omega), Int.toNat_natCast, h]
theorem sgA_none {l : List Int} {k : Int} (h : (l.length : Int) ≤ k) : sgA l k = 0 := by
  unfold sgA
  split
  · rw [List.getElem?_eq_none (by omega)]
  · rfl
/-- the byte of a sign -/
def usg (s : Int) : Int := if s = 0 then -2 else if s = 1 then 47 else s + 95
theorem usg_sg {b : Int} (h : sg b ≠ 0) : usg (sg b) = b := by
  unfold usg
  rw [if_neg h]
  unfold sg at h ⊢
  split <;> (try split) <;> (try split) <;> omega
theorem enc_tail {l : List Int} (hl : l.length ≤ 12) : px_land (px_lshl (enc l) 5) 1152921504606846975 = enc (l.drop 1) := by
  have hr := enc_rng l
  rw [lshl_eq (by decide) (by decide) hr.1 (by omega), land_low, show (5 : Int).toNat = 5 from rfl]
  have h := encF_shl hl 1
  rw [P32_12, show P32 1 = 32 from by decide] at h
  rw [show enc (l.drop 1) = enc l * 32 % 1152921504606846976 from h.symm, show (2 : Int) ^ 5 = 32 from rfl]
  unfold Int.bmod
  dsimp only
  omega
section PS
variable {M : px_mem} {Q : Option pv → px_mem → Prop}
set_option maxHeartbeats 4000000 in
set_option maxRecDepth 100000 in
theorem sp_signOf {v : Int} (h : Q (some (0, sg v)) M) : px_Ok 60 [(0, v)] LAY M Q := by
  refine px_ok_go (inl := []) (ls0 := [(0, v)]) 40 (by decide) (Nat.le_of_ble_eq_true rfl) rfl ?_
  simp only [px_go, px_Q0_at, px_sx_0, px_sx_s, px_cl, px_step, ↓px_ll, px_lg, f4_, ↓px_r1, ↓px_r2, ↓px_r4, ↓px_r5, ↓px_p1, ↓px_p2, ↓px_p3, ↓px_pop, px_k_0, px_k_s, px_k3_0, px_stk_, px_cats, px_ent, px_st1, px_st2, px_mask, ↓px_tsw, ↓px_lsw, ct_, mls_0, mls_1, mls_2, mls_3, mls_4, mls_5, kd_0, kd_1, kd_2, kd_3, ln_0, ln_1, ln_2, ln_3, gf_0, gf_1, gf_2, gf_3, gf_4, gf_7, gf_21, gf_63, dy_0, dy_1, dy_2, dy_3, dy_7, dy_21, px_brT, px_brF, true_and, and_true, and_false, false_and, and_self, true_implies, false_implies, or_true, true_or, or_false, false_or, eq_self, ne_eq, not_false_eq_true, not_true_eq_false, if_true, if_false, List.mem_cons, List.not_mem_nil, List.length_cons, List.length_nil, Nat.reduceEqDiff, Nat.reduceAdd, Nat.reduceSub, Nat.reduceLeDiff, Nat.reduceLT, Int.reduceEq, Int.reduceLT, Int.reduceLE, Int.reduceNeg, Int.reduceAdd, Int.reduceSub, Int.reduceToNat, ↓reduceIte, one_ne_zero_, zero_ne_one_, px_in32L, cd_60]
  repeat' (first | (with_reducible apply And.intro) | (with_reducible refine px_br_intro (fun _ => ?_) (fun _ => ?_)))
  all_goals (try (first | (unfold px_in32; omega) | omega))
  all_goals (refine qe h ?_; unfold sg; (repeat' split) <;> omega)
set_option maxHeartbeats 4000000 in
set_option maxRecDepth 100000 in
theorem sp_signAt {l : List Int} {k : Int} (hl : l.length ≤ 12) (h : Q (some (0, sgA l k)) M) : px_Ok 61 [(1, enc l), (0, k)] LAY M Q := by
  refine px_ok_go (inl := []) (ls0 := [(1, enc l), (9, 0), (0, k)]) 40 (by decide) (Nat.le_of_ble_eq_true rfl) rfl ?_
  simp only [px_go, px_Q0_at, px_sx_0, px_sx_s, px_cl, px_step, ↓px_ll, px_lg, f4_, ↓px_r1, ↓px_r2, ↓px_r4, ↓px_r5, ↓px_p1, ↓px_p2, ↓px_p3, ↓px_pop, px_k_0, px_k_s, px_k3_0, px_stk_, px_cats, px_ent, px_st1, px_st2, px_mask, ↓px_tsw, ↓px_lsw, ct_, mls_0, mls_1, mls_2, mls_3, mls_4, mls_5, kd_0, kd_1, kd_2, kd_3, ln_0, ln_1, ln_2, ln_3, gf_0, gf_1, gf_2, gf_3, gf_4, gf_7, gf_21, gf_63, dy_0, dy_1, dy_2, dy_3, dy_7, dy_21, px_brT, px_brF, true_and, and_true, and_false, false_and, and_self, true_implies, false_implies, or_true, true_or, or_false, false_or, eq_self, ne_eq, not_false_eq_true, not_true_eq_false, if_true, if_false, List.mem_cons, List.not_mem_nil, List.length_cons, List.length_nil, Nat.reduceEqDiff, Nat.reduceAdd, Nat.reduceSub, Nat.reduceLeDiff, Nat.reduceLT, Int.reduceEq, Int.reduceLT, Int.reduceLE, Int.reduceNeg, Int.reduceAdd, Int.reduceSub, Int.reduceToNat, ↓reduceIte, one_ne_zero_, zero_ne_one_, px_in32L, cd_61]
  repeat' (first | (with_reducible apply And.intro) | (with_reducible refine px_br_intro (fun _ => ?_) (fun _ => ?_)))
  all_goals (try (first | (unfold px_in32; omega) | omega))
  · exact qe h (sgA_out hl (by omega)).symm
  · exact qe h (sgA_dig (by omega) (by omega))
  · exact qe h (sgA_out hl (by omega)).symm
set_option maxHeartbeats 4000000 in
set_option maxRecDepth 100000 in
theorem sp_withSign {c : Int} {k s : Int} (h : Q (some (1, if 0 ≤ k ∧ k < 12 then px_lor c (px_lshl s (55 - 5 * k)) else c)) M) : px_Ok 62 [(1, c), (0, k), (0, s)] LAY M Q := by
  refine px_ok_go (inl := []) (ls0 := [(1, c), (9, 0), (0, k), (0, s)]) 40 (by decide) (Nat.le_of_ble_eq_true rfl) rfl ?_
  simp only [px_go, px_Q0_at, px_sx_0, px_sx_s, px_cl, px_step, ↓px_ll, px_lg, f4_, ↓px_r1, ↓px_r2, ↓px_r4, ↓px_r5, ↓px_p1, ↓px_p2, ↓px_p3, ↓px_pop, px_k_0, px_k_s, px_k3_0, px_stk_, px_cats, px_ent, px_st1, px_st2, px_mask, ↓px_tsw, ↓px_lsw, ct_, mls_0, mls_1, mls_2, mls_3, mls_4, mls_5, kd_0, kd_1, kd_2, kd_3, ln_0, ln_1, ln_2, ln_3, gf_0, gf_1, gf_2, gf_3, gf_4, gf_7, gf_21, gf_63, dy_0, dy_1, dy_2, dy_3, dy_7, dy_21, px_brT, px_brF, true_and, and_true, and_false, false_and, and_self, true_implies, false_implies, or_true, true_or, or_false, false_or, eq_self, ne_eq, not_false_eq_true, not_true_eq_false, if_true, if_false, List.mem_cons, List.not_mem_nil, List.length_cons, List.length_nil, Nat.reduceEqDiff, Nat.reduceAdd, Nat.reduceSub, Nat.reduceLeDiff, Nat.reduceLT, Int.reduceEq, Int.reduceLT, Int.reduceLE, Int.reduceNeg, Int.reduceAdd, Int.reduceSub, Int.reduceToNat, ↓reduceIte, one_ne_zero_, zero_ne_one_, px_in32L, cd_62]
  repeat' (first | (with_reducible apply And.intro) | (with_reducible refine px_br_intro (fun _ => ?_) (fun _ => ?_)))
  all_goals (try (first | (unfold px_in32; omega) | omega))
  · exact qe h (if_neg (by omega)).symm
  · exact qe h (if_pos (by omega)).symm
  · exact qe h (if_neg (by omega)).symm
set_option maxHeartbeats 4000000 in
set_option maxRecDepth 100000 in
theorem lp_lengthOf {l : List Int} (hl : l.length ≤ 12) (hk : okl l) (h : Q (some (0, (l.length : Int))) M) (i : Int) (hi : i ≤ l.length) : 0 ≤ i → px_WP 63 0 0 (px_Q0 LAY Q) 4 [(9, 0), (9, 0), (0, i), (1, enc (l.drop i.toNat)), (9, 0)] [] LAY M 0 0 := by
  refine up_ind (P := fun i => 0 ≤ i → px_WP 63 0 0 (px_Q0 LAY Q) 4 [(9, 0), (9, 0), (0, i), (1, enc (l.drop i.toNat)), (9, 0)] [] LAY M 0 0) l.length (fun i hi ih h0 => ?_) i hi
  refine px_go_ok (inl := []) 40 ?_
  simp only [px_go, px_Q0_at, px_sx_0, px_sx_s, px_cl, px_step, ↓px_ll, px_lg, f4_, ↓px_r1, ↓px_r2, ↓px_r4, ↓px_r5, ↓px_p1, ↓px_p2, ↓px_p3, ↓px_pop, px_k_0, px_k_s, px_k3_0, px_stk_, px_cats, px_ent, px_st1, px_st2, px_mask, ↓px_tsw, ↓px_lsw, ct_, mls_0, mls_1, mls_2, mls_3, mls_4, mls_5, kd_0, kd_1, kd_2, kd_3, ln_0, ln_1, ln_2, ln_3, gf_0, gf_1, gf_2, gf_3, gf_4, gf_7, gf_21, gf_63, dy_0, dy_1, dy_2, dy_3, dy_7, dy_21, px_brT, px_brF, true_and, and_true, and_false, false_and, and_self, true_implies, false_implies, or_true, true_or, or_false, false_or, eq_self, ne_eq, not_false_eq_true, not_true_eq_false, if_true, if_false, List.mem_cons, List.not_mem_nil, List.length_cons, List.length_nil, Nat.reduceEqDiff, Nat.reduceAdd, Nat.reduceSub, Nat.reduceLeDiff, Nat.reduceLT, Int.reduceEq, Int.reduceLT, Int.reduceLE, Int.reduceNeg, Int.reduceAdd, Int.reduceSub, Int.reduceToNat, ↓reduceIte, one_ne_zero_, zero_ne_one_, px_in32L, cd_63]
  repeat' (first | (with_reducible apply And.intro) | (with_reducible refine px_br_intro (fun _ => ?_) (fun _ => ?_)))
  all_goals (try (first | (unfold px_in32; omega) | omega))
  · have e : i = l.length := by omega
    exact qe h e
  · rename_i h1 h2
    have e : l.drop i.toNat = [] := (enc_0 (okl_drop hk _) (by rw [List.length_drop]; omega)).mp ((lcmp_lt _ _).2.1.mp h2)
    have := List.drop_eq_nil_iff.mp e
    exact qe h (by omega)
  · rename_i h1 h2
    have hlt : i < l.length := by
      rcases Int.lt_or_le i l.length with h3 | h3
      · exact h3
      · exfalso
        apply h2
        rw [List.drop_eq_nil_of_le (by omega)]
        rfl
    rw [enc_tail (by rw [List.length_drop]; omega), List.drop_drop]
    have := ih hlt (by omega)
    rw [show (i + 1).toNat = i.toNat + 1 by omega] at this
    exact this
set_option maxHeartbeats 4000000 in
set_option maxRecDepth 100000 in
theorem sp_lengthOf {l : List Int} (hl : l.length ≤ 12) (hk : okl l) (h : Q (some (0, (l.length : Int))) M) : px_Ok 63 [(1, enc l)] LAY M Q := by
  refine px_ok_go (inl := []) (ls0 := [(1, enc l), (9, 0), (9, 0), (9, 0), (9, 0)]) 40 (by decide) (Nat.le_of_ble_eq_true rfl) rfl ?_
  simp only [px_go, px_Q0_at, px_sx_0, px_sx_s, px_cl, px_step, ↓px_ll, px_lg, f4_, ↓px_r1, ↓px_r2, ↓px_r4, ↓px_r5, ↓px_p1, ↓px_p2, ↓px_p3, ↓px_pop, px_k_0, px_k_s, px_k3_0, px_stk_, px_cats, px_ent, px_st1, px_st2, px_mask, ↓px_tsw, ↓px_lsw, ct_, mls_0, mls_1, mls_2, mls_3, mls_4, mls_5, kd_0, kd_1, kd_2, kd_3, ln_0, ln_1, ln_2, ln_3, gf_0, gf_1, gf_2, gf_3, gf_4, gf_7, gf_21, gf_63, dy_0, dy_1, dy_2, dy_3, dy_7, dy_21, px_brT, px_brF, true_and, and_true, and_false, false_and, and_self, true_implies, false_implies, or_true, true_or, or_false, false_or, eq_self, ne_eq, not_false_eq_true, not_true_eq_false, if_true, if_false, List.mem_cons, List.not_mem_nil, List.length_cons, List.length_nil, Nat.reduceEqDiff, Nat.reduceAdd, Nat.reduceSub, Nat.reduceLeDiff, Nat.reduceLT, Int.reduceEq, Int.reduceLT, Int.reduceLE, Int.reduceNeg, Int.reduceAdd, Int.reduceSub, Int.reduceToNat, ↓reduceIte, one_ne_zero_, zero_ne_one_, px_in32L, cd_63]
  exact lp_lengthOf hl hk h 0 (by omega) (by omega)
set_option maxHeartbeats 4000000 in
set_option maxRecDepth 100000 in
theorem sp_byteOr {l : List Int} {k : Int} (hl : l.length ≤ 12) (h : Q (some (0, usg (sgA l k))) M) : px_Ok 64 [(1, enc l), (0, k)] LAY M Q := by
  refine px_ok_go (inl := []) (ls0 := [(1, enc l), (9, 0), (0, k), (9, 0)]) 40 (by decide) (Nat.le_of_ble_eq_true rfl) rfl ?_
  simp only [px_go, px_Q0_at, px_sx_0, px_sx_s, px_cl, px_step, ↓px_ll, px_lg, f4_, ↓px_r1, ↓px_r2, ↓px_r4, ↓px_r5, ↓px_p1, ↓px_p2, ↓px_p3, ↓px_pop, px_k_0, px_k_s, px_k3_0, px_stk_, px_cats, px_ent, px_st1, px_st2, px_mask, ↓px_tsw, ↓px_lsw, ct_, mls_0, mls_1, mls_2, mls_3, mls_4, mls_5, kd_0, kd_1, kd_2, kd_3, ln_0, ln_1, ln_2, ln_3, gf_0, gf_1, gf_2, gf_3, gf_4, gf_7, gf_21, gf_63, dy_0, dy_1, dy_2, dy_3, dy_7, dy_21, px_brT, px_brF, true_and, and_true, and_false, false_and, and_self, true_implies, false_implies, or_true, true_or, or_false, false_or, eq_self, ne_eq, not_false_eq_true, not_true_eq_false, if_true, if_false, List.mem_cons, List.not_mem_nil, List.length_cons, List.length_nil, Nat.reduceEqDiff, Nat.reduceAdd, Nat.reduceSub, Nat.reduceLeDiff, Nat.reduceLT, Int.reduceEq, Int.reduceLT, Int.reduceLE, Int.reduceNeg, Int.reduceAdd, Int.reduceSub, Int.reduceToNat, ↓reduceIte, one_ne_zero_, zero_ne_one_, px_in32L, cd_64]
  refine sp_signAt hl ?_
  have hr := sgA_rng l k
  simp only [px_go, px_Q0_at, px_sx_0, px_sx_s, px_cl, px_step, ↓px_ll, px_lg, f4_, ↓px_r1, ↓px_r2, ↓px_r4, ↓px_r5, ↓px_p1, ↓px_p2, ↓px_p3, ↓px_pop, px_k_0, px_k_s, px_k3_0, px_stk_, px_cats, px_ent, px_st1, px_st2, px_mask, ↓px_tsw, ↓px_lsw, ct_, mls_0, mls_1, mls_2, mls_3, mls_4, mls_5, kd_0, kd_1, kd_2, kd_3, ln_0, ln_1, ln_2, ln_3, gf_0, gf_1, gf_2, gf_3, gf_4, gf_7, gf_21, gf_63, dy_0, dy_1, dy_2, dy_3, dy_7, dy_21, px_brT, px_brF, true_and, and_true, and_false, false_and, and_self, true_implies, false_implies, or_true, true_or, or_false, false_or, eq_self, ne_eq, not_false_eq_true, not_true_eq_false, if_true, if_false, List.mem_cons, List.not_mem_nil, List.length_cons, List.length_nil, Nat.reduceEqDiff, Nat.reduceAdd, Nat.reduceSub, Nat.reduceLeDiff, Nat.reduceLT, Int.reduceEq, Int.reduceLT, Int.reduceLE, Int.reduceNeg, Int.reduceAdd, Int.reduceSub, Int.reduceToNat, ↓reduceIte, one_ne_zero_, zero_ne_one_, px_in32L, cd_64]
  repeat' (first | (with_reducible apply And.intro) | (with_reducible refine px_br_intro (fun _ => ?_) (fun _ => ?_)))
  all_goals (try (first | (unfold px_in32; omega) | omega))
  all_goals (refine qe h ?_; unfold usg; (repeat' split) <;> omega)
end PS
