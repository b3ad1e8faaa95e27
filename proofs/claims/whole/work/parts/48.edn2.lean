/-! EditionVault.Editions: one more, one less; Edition -/
set_option maxRecDepth 100000 in
/-- X3_addOf -/
theorem cd_49 : px_at 49 0 = some (1, [], .aload_n 0, []) ∧ px_at 49 1 = some (4, [], .getfield 18, [3, 1, 0, 0, 48]) ∧ px_at 49 4 = some (6, [], .bipush 10, []) ∧ px_at 49 6 = some (9, [], .if_icmp .lt 5, [11]) ∧ px_at 49 9 = some (10, [], .iconst (-1), []) ∧ px_at 49 10 = some (11, [], .ireturn, [0]) ∧ px_at 49 11 = some (12, [], .aload_n 0, []) ∧ px_at 49 12 = some (15, [], .getfield 11, [3, 0, 2, 1, 47]) ∧ px_at 49 15 = some (16, [], .aload_n 0, []) ∧ px_at 49 16 = some (19, [], .getfield 18, [3, 1, 0, 0, 48]) ∧ px_at 49 19 = some (20, [], .aaload, []) ∧ px_at 49 20 = some (21, [], .astore_n 3, []) ∧ px_at 49 21 = some (22, [], .aload_n 3, []) ∧ px_at 49 22 = some (23, [], .aload_n 1, []) ∧ px_at 49 23 = some (26, [], .getfield 37, [7, 3, 0, 0, 12]) ∧ px_at 49 26 = some (29, [], .putfield 42, [2, 2, 0, 0, 32]) ∧ px_at 49 29 = some (30, [], .iconst 0, []) ∧ px_at 49 30 = some (32, [], .istore 4, []) ∧ px_at 49 32 = some (34, [1, 1, 1, 1, 1], .iload 4, []) ∧ px_at 49 34 = some (35, [], .aload_n 1, []) ∧ px_at 49 35 = some (38, [], .getfield 37, [7, 3, 0, 0, 12]) ∧ px_at 49 38 = some (41, [], .if_icmp .ge 34, [72]) ∧ px_at 49 41 = some (42, [], .aload_n 3, []) ∧ px_at 49 42 = some (45, [], .getfield 43, [2, 0, 2, 1, 22]) ∧ px_at 49 45 = some (47, [], .iload 4, []) ∧ px_at 49 47 = some (48, [], .aload_n 1, []) ∧ px_at 49 48 = some (51, [], .getfield 47, [7, 0, 2, 1, 5]) ∧ px_at 49 51 = some (53, [], .iload 4, []) ∧ px_at 49 53 = some (54, [], .laload, []) ∧ px_at 49 54 = some (55, [], .lastore, []) ∧ px_at 49 55 = some (56, [], .aload_n 3, []) ∧ px_at 49 56 = some (59, [], .getfield 48, [2, 1, 2, 1, 27]) ∧ px_at 49 59 = some (61, [], .iload 4, []) ∧ px_at 49 61 = some (62, [], .aload_n 2, []) ∧ px_at 49 62 = some (64, [], .iload 4, []) ∧ px_at 49 64 = some (65, [], .iaload, []) ∧ px_at 49 65 = some (66, [], .iastore, []) ∧ px_at 49 66 = some (69, [], .iinc 4 1, []) ∧ px_at 49 69 = some (72, [], .goto (-37), [32]) ∧ px_at 49 72 = some (73, [], .aload_n 3, []) ∧ px_at 49 73 = some (74, [], .aload_n 0, []) ∧ px_at 49 74 = some (77, [], .getfield 52, [3, 2, 0, 0, 51]) ∧ px_at 49 77 = some (80, [], .putfield 22, [2, 3, 0, 0, 34]) ∧ px_at 49 80 = some (81, [], .aload_n 3, []) ∧ px_at 49 81 = some (82, [], .aload_n 1, []) ∧ px_at 49 82 = some (85, [], .getfield 55, [7, 4, 0, 0, 15]) ∧ px_at 49 85 = some (88, [], .putfield 58, [2, 4, 0, 0, 37]) ∧ px_at 49 88 = some (89, [], .aload_n 3, []) ∧ px_at 49 89 = some (90, [], .aload_n 1, []) ∧ px_at 49 90 = some (93, [], .getfield 59, [7, 5, 0, 0, 18]) ∧ px_at 49 93 = some (96, [], .putfield 62, [2, 5, 0, 0, 40]) ∧ px_at 49 96 = some (97, [], .aload_n 3, []) ∧ px_at 49 97 = some (98, [], .iconst 0, []) ∧ px_at 49 98 = some (101, [], .putfield 63, [2, 6, 4, 0, 42]) ∧ px_at 49 101 = some (102, [], .aload_n 3, []) ∧ px_at 49 102 = some (103, [], .lconst 0, []) ∧ px_at 49 103 = some (106, [], .putfield 33, [2, 7, 1, 0, 45]) ∧ px_at 49 106 = some (107, [], .aload_n 0, []) ∧ px_at 49 107 = some (108, [], .dup, []) ∧ px_at 49 108 = some (111, [], .getfield 18, [3, 1, 0, 0, 48]) ∧ px_at 49 111 = some (112, [], .iconst 1, []) ∧ px_at 49 112 = some (113, [], .iadd, []) ∧ px_at 49 113 = some (116, [], .putfield 18, [3, 1, 0, 0, 48]) ∧ px_at 49 116 = some (117, [], .aload_n 0, []) ∧ px_at 49 117 = some (118, [], .dup, []) ∧ px_at 49 118 = some (121, [], .getfield 52, [3, 2, 0, 0, 51]) ∧ px_at 49 121 = some (122, [], .iconst 1, []) ∧ px_at 49 122 = some (123, [], .iadd, []) ∧ px_at 49 123 = some (126, [], .putfield 52, [3, 2, 0, 0, 51]) ∧ px_at 49 126 = some (127, [], .aload_n 3, []) ∧ px_at 49 127 = some (130, [], .getfield 22, [2, 3, 0, 0, 34]) ∧ px_at 49 130 = some (131, [], .ireturn, [0]) := ⟨rfl, rfl, rfl, rfl, rfl, rfl, rfl, rfl, rfl, rfl, rfl, rfl, rfl, rfl, rfl, rfl, rfl, rfl, rfl, rfl, rfl, rfl, rfl, rfl, rfl, rfl, rfl, rfl, rfl, rfl, rfl, rfl, rfl, rfl, rfl, rfl, rfl, rfl, rfl, rfl, rfl, rfl, rfl, rfl, rfl, rfl, rfl, rfl, rfl, rfl, rfl, rfl, rfl, rfl, rfl, rfl, rfl, rfl, rfl, rfl, rfl, rfl, rfl, rfl, rfl, rfl, rfl, rfl, rfl, rfl, rfl, rfl⟩
set_option maxRecDepth 100000 in
/-- X3_take -/
theorem cd_50 : px_at 50 0 = some (1, [], .aload_n 0, []) ∧ px_at 50 1 = some (2, [], .iload_n 1, []) ∧ px_at 50 2 = some (5, [], .invokevirtual 25, [46, 1, 3, 62]) ∧ px_at 50 5 = some (6, [], .istore_n 3, []) ∧ px_at 50 6 = some (7, [], .iload_n 3, []) ∧ px_at 50 7 = some (10, [], .ifCond .ge 4, [11]) ∧ px_at 50 10 = some (11, [], .return_, []) ∧ px_at 50 11 = some (12, [], .aload_n 0, []) ∧ px_at 50 12 = some (15, [], .getfield 11, [3, 0, 2, 1, 47]) ∧ px_at 50 15 = some (16, [], .iload_n 3, []) ∧ px_at 50 16 = some (17, [], .aaload, []) ∧ px_at 50 17 = some (19, [], .astore 4, []) ∧ px_at 50 19 = some (20, [], .iload_n 3, []) ∧ px_at 50 20 = some (22, [], .istore 5, []) ∧ px_at 50 22 = some (24, [1, 1, 1, 0, 1, 1], .iload 5, []) ∧ px_at 50 24 = some (25, [], .iconst 1, []) ∧ px_at 50 25 = some (26, [], .iadd, []) ∧ px_at 50 26 = some (27, [], .aload_n 0, []) ∧ px_at 50 27 = some (30, [], .getfield 18, [3, 1, 0, 0, 48]) ∧ px_at 50 30 = some (33, [], .if_icmp .ge 25, [55]) ∧ px_at 50 33 = some (34, [], .aload_n 0, []) ∧ px_at 50 34 = some (37, [], .getfield 11, [3, 0, 2, 1, 47]) ∧ px_at 50 37 = some (39, [], .iload 5, []) ∧ px_at 50 39 = some (40, [], .aload_n 0, []) ∧ px_at 50 40 = some (43, [], .getfield 11, [3, 0, 2, 1, 47]) ∧ px_at 50 43 = some (45, [], .iload 5, []) ∧ px_at 50 45 = some (46, [], .iconst 1, []) ∧ px_at 50 46 = some (47, [], .iadd, []) ∧ px_at 50 47 = some (48, [], .aaload, []) ∧ px_at 50 48 = some (49, [], .aastore, []) ∧ px_at 50 49 = some (52, [], .iinc 5 1, []) ∧ px_at 50 52 = some (55, [], .goto (-30), [22]) ∧ px_at 50 55 = some (56, [], .aload_n 0, []) ∧ px_at 50 56 = some (57, [], .dup, []) ∧ px_at 50 57 = some (60, [], .getfield 18, [3, 1, 0, 0, 48]) ∧ px_at 50 60 = some (61, [], .iconst 1, []) ∧ px_at 50 61 = some (62, [], .isub, []) ∧ px_at 50 62 = some (65, [], .putfield 18, [3, 1, 0, 0, 48]) ∧ px_at 50 65 = some (66, [], .aload_n 0, []) ∧ px_at 50 66 = some (69, [], .getfield 11, [3, 0, 2, 1, 47]) ∧ px_at 50 69 = some (70, [], .aload_n 0, []) ∧ px_at 50 70 = some (73, [], .getfield 18, [3, 1, 0, 0, 48]) ∧ px_at 50 73 = some (75, [], .aload 4, []) ∧ px_at 50 75 = some (76, [], .aastore, []) ∧ px_at 50 76 = some (77, [], .iconst 0, []) ∧ px_at 50 77 = some (79, [], .istore 5, []) ∧ px_at 50 79 = some (81, [1, 1, 1, 0, 0, 1], .iload 5, []) ∧ px_at 50 81 = some (82, [], .aload_n 0, []) ∧ px_at 50 82 = some (85, [], .getfield 18, [3, 1, 0, 0, 48]) ∧ px_at 50 85 = some (88, [], .if_icmp .ge 59, [144]) ∧ px_at 50 88 = some (89, [], .aload_n 0, []) ∧ px_at 50 89 = some (92, [], .getfield 11, [3, 0, 2, 1, 47]) ∧ px_at 50 92 = some (94, [], .iload 5, []) ∧ px_at 50 94 = some (95, [], .aaload, []) ∧ px_at 50 95 = some (98, [], .getfield 58, [2, 4, 0, 0, 37]) ∧ px_at 50 98 = some (99, [], .iload_n 1, []) ∧ px_at 50 99 = some (102, [], .if_icmp .ne 14, [113]) ∧ px_at 50 102 = some (103, [], .aload_n 0, []) ∧ px_at 50 103 = some (106, [], .getfield 11, [3, 0, 2, 1, 47]) ∧ px_at 50 106 = some (108, [], .iload 5, []) ∧ px_at 50 108 = some (109, [], .aaload, []) ∧ px_at 50 109 = some (110, [], .iload_n 2, []) ∧ px_at 50 110 = some (113, [], .putfield 58, [2, 4, 0, 0, 37]) ∧ px_at 50 113 = some (114, [], .aload_n 0, []) ∧ px_at 50 114 = some (117, [], .getfield 11, [3, 0, 2, 1, 47]) ∧ px_at 50 117 = some (119, [], .iload 5, []) ∧ px_at 50 119 = some (120, [], .aaload, []) ∧ px_at 50 120 = some (123, [], .getfield 62, [2, 5, 0, 0, 40]) ∧ px_at 50 123 = some (124, [], .iload_n 1, []) ∧ px_at 50 124 = some (127, [], .if_icmp .ne 14, [138]) ∧ px_at 50 127 = some (128, [], .aload_n 0, []) ∧ px_at 50 128 = some (131, [], .getfield 11, [3, 0, 2, 1, 47]) ∧ px_at 50 131 = some (133, [], .iload 5, []) ∧ px_at 50 133 = some (134, [], .aaload, []) ∧ px_at 50 134 = some (135, [], .iload_n 2, []) ∧ px_at 50 135 = some (138, [], .putfield 62, [2, 5, 0, 0, 40]) ∧ px_at 50 138 = some (141, [], .iinc 5 1, []) ∧ px_at 50 141 = some (144, [], .goto (-62), [79]) ∧ px_at 50 144 = some (145, [], .return_, []) := ⟨rfl, rfl, rfl, rfl, rfl, rfl, rfl, rfl, rfl, rfl, rfl, rfl, rfl, rfl, rfl, rfl, rfl, rfl, rfl, rfl, rfl, rfl, rfl, rfl, rfl, rfl, rfl, rfl, rfl, rfl, rfl, rfl, rfl, rfl, rfl, rfl, rfl, rfl, rfl, rfl, rfl, rfl, rfl, rfl, rfl, rfl, rfl, rfl, rfl, rfl, rfl, rfl, rfl, rfl, rfl, rfl, rfl, rfl, rfl, rfl, rfl, rfl, rfl, rfl, rfl, rfl, rfl, rfl, rfl, rfl, rfl, rfl, rfl, rfl, rfl, rfl, rfl, rfl, rfl⟩
set_option maxRecDepth 100000 in
/-- X2_hasFile -/
theorem cd_36 : px_at 36 0 = some (1, [], .iload_n 1, []) ∧ px_at 36 1 = some (4, [], .ifCond .lt 15, [16]) ∧ px_at 36 4 = some (5, [], .iload_n 1, []) ∧ px_at 36 5 = some (6, [], .aload_n 0, []) ∧ px_at 36 6 = some (9, [], .getfield 30, [2, 2, 0, 0, 29]) ∧ px_at 36 9 = some (12, [], .if_icmp .ge 7, [16]) ∧ px_at 36 12 = some (13, [], .iconst 1, []) ∧ px_at 36 13 = some (16, [], .goto 4, [17]) ∧ px_at 36 16 = some (17, [], .iconst 0, []) ∧ px_at 36 17 = some (18, [], .ireturn, [4]) := ⟨rfl, rfl, rfl, rfl, rfl, rfl, rfl, rfl, rfl, rfl⟩
set_option maxRecDepth 100000 in
/-- X2_placeOf -/
theorem cd_37 : px_at 37 0 = some (1, [], .aload_n 0, []) ∧ px_at 37 1 = some (4, [], .getfield 9, [2, 0, 2, 1, 20]) ∧ px_at 37 4 = some (5, [], .aload_n 0, []) ∧ px_at 37 5 = some (8, [], .getfield 30, [2, 2, 0, 0, 29]) ∧ px_at 37 8 = some (9, [], .lload_n 1, []) ∧ px_at 37 9 = some (12, [], .invokestatic 33, [67, 3, 0, 103]) ∧ px_at 37 12 = some (13, [], .ireturn, [0]) := ⟨rfl, rfl, rfl, rfl, rfl, rfl, rfl⟩
set_option maxRecDepth 100000 in
/-- X2_contentAt -/
theorem cd_38 : px_at 38 0 = some (1, [], .aload_n 0, []) ∧ px_at 38 1 = some (2, [], .lload_n 1, []) ∧ px_at 38 2 = some (5, [], .invokevirtual 39, [37, 1, 2, 102]) ∧ px_at 38 5 = some (6, [], .istore_n 3, []) ∧ px_at 38 6 = some (7, [], .iload_n 3, []) ∧ px_at 38 7 = some (10, [], .ifCond .ge 8, [15]) ∧ px_at 38 10 = some (12, [], .bipush (-2), []) ∧ px_at 38 12 = some (15, [], .goto 9, [21]) ∧ px_at 38 15 = some (16, [], .aload_n 0, []) ∧ px_at 38 16 = some (19, [], .getfield 15, [2, 1, 2, 1, 24]) ∧ px_at 38 19 = some (20, [], .iload_n 3, []) ∧ px_at 38 20 = some (21, [], .iaload, []) ∧ px_at 38 21 = some (22, [], .ireturn, [0]) := ⟨rfl, rfl, rfl, rfl, rfl, rfl, rfl, rfl, rfl, rfl, rfl, rfl, rfl⟩
set_option maxRecDepth 100000 in
/-- X2_filesWithin -/
theorem cd_39 : px_at 39 0 = some (1, [], .aload_n 0, []) ∧ px_at 39 1 = some (4, [], .getfield 9, [2, 0, 2, 1, 20]) ∧ px_at 39 4 = some (5, [], .aload_n 0, []) ∧ px_at 39 5 = some (8, [], .getfield 30, [2, 2, 0, 0, 29]) ∧ px_at 39 8 = some (9, [], .lload_n 1, []) ∧ px_at 39 9 = some (12, [], .invokestatic 43, [68, 3, 0, 156]) ∧ px_at 39 12 = some (13, [], .ireturn, [0]) := ⟨rfl, rfl, rfl, rfl, rfl, rfl, rfl⟩
set_option maxRecDepth 100000 in
/-- X2_pathBehind -/
theorem cd_40 : px_at 40 0 = some (1, [], .iconst 0, []) ∧ px_at 40 1 = some (2, [], .istore_n 3, []) ∧ px_at 40 2 = some (3, [1, 1, 0, 1], .iload_n 3, []) ∧ px_at 40 3 = some (4, [], .aload_n 0, []) ∧ px_at 40 4 = some (7, [], .getfield 30, [2, 2, 0, 0, 29]) ∧ px_at 40 7 = some (10, [], .if_icmp .ge 27, [34]) ∧ px_at 40 10 = some (11, [], .aload_n 0, []) ∧ px_at 40 11 = some (14, [], .getfield 9, [2, 0, 2, 1, 20]) ∧ px_at 40 14 = some (15, [], .iload_n 3, []) ∧ px_at 40 15 = some (16, [], .laload, []) ∧ px_at 40 16 = some (17, [], .lload_n 1, []) ∧ px_at 40 17 = some (18, [], .lcmp, []) ∧ px_at 40 18 = some (21, [], .ifCond .le 10, [28]) ∧ px_at 40 21 = some (22, [], .aload_n 0, []) ∧ px_at 40 22 = some (25, [], .getfield 9, [2, 0, 2, 1, 20]) ∧ px_at 40 25 = some (26, [], .iload_n 3, []) ∧ px_at 40 26 = some (27, [], .laload, []) ∧ px_at 40 27 = some (28, [], .lreturn, []) ∧ px_at 40 28 = some (31, [], .iinc 3 1, []) ∧ px_at 40 31 = some (34, [], .goto (-29), [2]) ∧ px_at 40 34 = some (37, [], .ldc2_w 46, [1152921504606846976, 6]) ∧ px_at 40 37 = some (38, [], .lreturn, []) := ⟨rfl, rfl, rfl, rfl, rfl, rfl, rfl, rfl, rfl, rfl, rfl, rfl, rfl, rfl, rfl, rfl, rfl, rfl, rfl, rfl, rfl, rfl⟩
/-- the list behind: the one at p goes to the end, those behind it move up -/
def shf (f : Int → Int) (p n : Int) : Int → Int := fun i => if i < p then f i else if i < n - 1 then f (i + 1) else if i = n - 1 then f p else f i
theorem isE_ne {a b : Int} (ha : isE a) (hb : isE b) (h : a ≠ b) : a ≠ b + 1 ∧ a ≠ b + 2 ∧ b ≠ a + 1 ∧ b ≠ a + 2 ∧ a + 1 ≠ b + 1 ∧ a + 1 ≠ b + 2 ∧ a + 2 ≠ b + 1 ∧ a + 2 ≠ b + 2 := by
  have := isE_m ha
  have := isE_m hb
  omega
section PS
variable {M : px_mem} {Q : Option pv → px_mem → Prop}
set_option maxHeartbeats 600000 in
set_option maxRecDepth 100000 in
theorem lp_addOf {M0 : px_mem} {e n : Int} (he : isE e ∧ e < 52) (hn : 0 ≤ n ∧ n ≤ 12) (hM : M0 4 3 = n) (hsz : 0 ≤ M0 20 1 ∧ M0 20 1 < 10 ∧ 0 ≤ M0 20 2 ∧ M0 20 2 ≤ 1000) (h : ∀ M', (∀ j, 0 ≤ j → j < n → M' (e + 1) j = M0 5 j ∧ M' (e + 2) j = M0 126 j) → M' e 2 = M0 e 2 → M' e 3 = M0 20 2 → M' e 4 = M0 4 4 → M' e 5 = M0 4 5 → M' e 6 = 0 → M' e 7 = 0 → M' 20 1 = M0 20 1 + 1 → M' 20 2 = M0 20 2 + 1 → (∀ b, b ≠ 20 → b ≠ e → b ≠ e + 1 → b ≠ e + 2 → M' b = M0 b) → Q (some (0, M0 20 2)) M') (k : Int) (hk_k : k ≤ n) : ∀ (M : px_mem), 0 ≤ k → (∀ j, 0 ≤ j → j < k → M (e + 1) j = M0 5 j) → (∀ j, 0 ≤ j → j < k → M (e + 2) j = M0 126 j) → (∀ b, b ≠ e + 1 → b ≠ e + 2 → M b = M0 b) → px_WP 49 0 0 (px_Q0 LAY Q) 32 [(2, 20), (2, 4), (2, 126), (2, e), (0, k)] [] LAY M 0 0 := by
  refine up_ind (P := fun k => ∀ (M : px_mem), 0 ≤ k → (∀ j, 0 ≤ j → j < k → M (e + 1) j = M0 5 j) → (∀ j, 0 ≤ j → j < k → M (e + 2) j = M0 126 j) → (∀ b, b ≠ e + 1 → b ≠ e + 2 → M b = M0 b) → px_WP 49 0 0 (px_Q0 LAY Q) 32 [(2, 20), (2, 4), (2, 126), (2, e), (0, k)] [] LAY M 0 0) (n) (fun k hk_k ih => ?_) k hk_k
  intro M k0 h1 h2 hf
  have hel := isE_lay he.1
  have heg := isE_gf he.1
  have hm := isE_m he.1
  have f4 := hf 4 (by omega) (by omega)
  have f20 := hf 20 (by omega) (by omega)
  have fe := hf e (by omega) (by omega)
  have f4n : M 4 3 = n := by rw [f4]; exact hM
  have f21 : M 20 1 = M0 20 1 := by rw [f20]
  have f22 : M 20 2 = M0 20 2 := by rw [f20]
  refine px_go_ok (inl := []) 60 ?_
  simp only [px_go, px_Q0_at, px_sx_0, px_sx_s, px_cl, px_step, ↓px_ll, px_lg, f4_, ↓px_r1, ↓px_r2, ↓px_r4, ↓px_r5, ↓px_p1, ↓px_p2, ↓px_p3, ↓px_pop, px_k_0, px_k_s, px_k3_0, px_stk_, px_cats, px_ent, px_st1, px_st2, px_mask, ↓px_tsw, ↓px_lsw, ct_, mls_0, mls_1, mls_2, mls_3, mls_4, mls_5, kd_0, kd_1, kd_2, kd_3, ln_0, ln_1, ln_2, ln_3, gf_0, gf_1, gf_2, gf_3, gf_4, gf_7, gf_21, gf_63, dy_0, dy_1, dy_2, dy_3, dy_7, dy_21, px_brT, px_brF, true_and, and_true, and_false, false_and, and_self, true_implies, false_implies, or_true, true_or, or_false, false_or, eq_self, ne_eq, not_false_eq_true, not_true_eq_false, if_true, if_false, List.mem_cons, List.not_mem_nil, List.length_cons, List.length_nil, Nat.reduceEqDiff, Nat.reduceAdd, Nat.reduceSub, Nat.reduceLeDiff, Nat.reduceLT, Int.reduceEq, Int.reduceLT, Int.reduceLE, Int.reduceNeg, Int.reduceAdd, Int.reduceSub, Int.reduceToNat, ↓reduceIte, one_ne_zero_, zero_ne_one_, px_in32L, cd_49, hel, heg, px_up_at, f4n]
  repeat' (first | (with_reducible apply And.intro) | (with_reducible refine px_br_intro (fun _ => ?_) (fun _ => ?_)))
  all_goals (try (first | (unfold px_in32; omega) | omega))
  · rename_i c1
    have q1 : ¬ (4 : Int) = e := by omega
    have q2 : ¬ (20 : Int) = e := by omega
    rw [f22]
    have hk : k = n := by omega
    refine h _ (fun j j0 j1 => ⟨?_, ?_⟩) ?_ ?_ ?_ ?_ ?_ ?_ ?_ ?_ (fun b b0 b1 b2 b3 => ?_)
    · have := h1 j j0 (by omega)
      simp only [px_up_at]
      simp only [show ¬ (e + 1 = 20) by omega, show ¬ (e + 1 = e) by omega, false_and, if_false]
      exact this
    · have := h2 j j0 (by omega)
      simp only [px_up_at]
      simp only [show ¬ (e + 2 = 20) by omega, show ¬ (e + 2 = e) by omega, false_and, if_false]
      exact this
    · simp only [px_up_at]
      simp only [show ¬ (e = 20) by omega, false_and, if_false, fe]
      simp
    · simp only [px_up_at]
      simp only [show ¬ (e = 20) by omega, false_and, if_false]
      simp
    · simp only [px_up_at]
      simp only [show ¬ (e = 20) by omega, false_and, if_false, f4]
      simp
    · simp only [px_up_at]
      simp only [show ¬ (e = 20) by omega, false_and, if_false, f4]
      simp
    · simp only [px_up_at]
      simp only [show ¬ (e = 20) by omega, false_and, if_false]
      simp
    · simp only [px_up_at]
      simp only [show ¬ (e = 20) by omega, false_and, if_false]
      simp
    · simp only [px_up_at]
      simp [f21]
    · simp only [px_up_at]
      simp [f22]
    · rw [row_ne b0, row_ne b0, row_ne b1, row_ne b1, row_ne b1, row_ne b1, row_ne b1]
      exact hf b b2 b3
  · rename_i c1
    have f5 := hf 5 (by omega) (by omega)
    have f126 := hf 126 (by omega) (by omega)
    refine ih (by omega) _ (by omega) (fun j j0 j1 => ?_) (fun j j0 j1 => ?_) (fun b b0 b1 => ?_)
    · simp only [px_up_at]
      by_cases q : j = k
      · rw [if_neg (by omega), if_pos ⟨trivial, q⟩, q, f5]
      · rw [if_neg (by omega), if_neg (fun z => q z.2)]; exact h1 j j0 (by omega)
    · simp only [px_up_at]
      by_cases q : j = k
      · rw [if_pos ⟨trivial, q⟩, if_neg (by omega), q, f126]
      · rw [if_neg (fun z => q z.2), if_neg (by omega)]; exact h2 j j0 (by omega)
    · rw [row_ne b1, row_ne b0]; exact hf b b0 b1
set_option maxHeartbeats 600000 in
set_option maxRecDepth 100000 in
theorem sp_addOf {n : Int} (hw : edW M) (hs : M 20 1 < 10) (hn : 0 ≤ n ∧ n ≤ 12) (hM : M 4 3 = n) (hsz : 0 ≤ M 20 2 ∧ M 20 2 ≤ 1000) (h : ∀ M' e, e = M 21 (M 20 1) → (∀ j, 0 ≤ j → j < n → M' (e + 1) j = M 5 j ∧ M' (e + 2) j = M 126 j) → M' e 2 = n → M' e 3 = M 20 2 → M' e 4 = M 4 4 → M' e 5 = M 4 5 → M' e 6 = 0 → M' e 7 = 0 → M' 20 1 = M 20 1 + 1 → M' 20 2 = M 20 2 + 1 → (∀ b, b ≠ 20 → b ≠ e → b ≠ e + 1 → b ≠ e + 2 → M' b = M b) → Q (some (0, M 20 2)) M') : px_Ok 49 [(2, 20), (2, 4), (2, 126)] LAY M Q := by
  have hE := hw.1 (M 20 1) hw.2.2.1 hs
  have h20 := hw.2.2
  have hel := isE_lay hE.1
  have hm := isE_m hE.1
  refine px_ok_go (inl := []) (ls0 := [(2, 20), (2, 4), (2, 126), (9, 0), (9, 0)]) 60 (by decide) (Nat.le_of_ble_eq_true rfl) rfl ?_
  simp only [px_go, px_Q0_at, px_sx_0, px_sx_s, px_cl, px_step, ↓px_ll, px_lg, f4_, ↓px_r1, ↓px_r2, ↓px_r4, ↓px_r5, ↓px_p1, ↓px_p2, ↓px_p3, ↓px_pop, px_k_0, px_k_s, px_k3_0, px_stk_, px_cats, px_ent, px_st1, px_st2, px_mask, ↓px_tsw, ↓px_lsw, ct_, mls_0, mls_1, mls_2, mls_3, mls_4, mls_5, kd_0, kd_1, kd_2, kd_3, ln_0, ln_1, ln_2, ln_3, gf_0, gf_1, gf_2, gf_3, gf_4, gf_7, gf_21, gf_63, dy_0, dy_1, dy_2, dy_3, dy_7, dy_21, px_brT, px_brF, true_and, and_true, and_false, false_and, and_self, true_implies, false_implies, or_true, true_or, or_false, false_or, eq_self, ne_eq, not_false_eq_true, not_true_eq_false, if_true, if_false, List.mem_cons, List.not_mem_nil, List.length_cons, List.length_nil, Nat.reduceEqDiff, Nat.reduceAdd, Nat.reduceSub, Nat.reduceLeDiff, Nat.reduceLT, Int.reduceEq, Int.reduceLT, Int.reduceLE, Int.reduceNeg, Int.reduceAdd, Int.reduceSub, Int.reduceToNat, ↓reduceIte, one_ne_zero_, zero_ne_one_, px_in32L, cd_49, hel]
  repeat' (first | (with_reducible apply And.intro) | (with_reducible refine px_br_intro (fun _ => ?_) (fun _ => ?_)))
  all_goals (try (first | (unfold px_in32; omega) | omega))
  generalize he : M 21 (M 20 1) = e at *
  have g : ∀ b, b ≠ e → px_up M e 2 (M 4 3) b = M b := fun b b0 => row_ne b0
  have h4 := g 4 (by omega)
  have h20' := g 20 (by omega)
  refine lp_addOf (M0 := px_up M e 2 (M 4 3)) hE hn (by rw [h4]; exact hM) (by rw [h20']; omega) (fun M' a1 a2 a3 a4 a5 a6 a7 a8 a9 a10 => ?_) 0 hn.1 _ (Int.le_refl 0) (fun j _ _ => by omega) (fun j _ _ => by omega) (fun _ _ _ => rfl)
  rw [h20'] at a3 a8 a9 ⊢
  rw [h4] at a4 a5
  rw [g 5 (by omega), g 126 (by omega)] at a1
  refine h M' e rfl a1 ?_ a3 a4 a5 a6 a7 a8 a9 (fun b b0 b1 b2 b3 => by rw [a10 b b0 b1 b2 b3, g b b1])
  rw [a2, px_up_at, if_pos ⟨rfl, rfl⟩]; exact hM
def rlk (num heir x : Int) : Int := if x = num then heir else x
theorem take_step {M0 M M2 : px_mem} {num heir k : Int} (hw : edW M0) (k0 : 0 ≤ k) (k1 : k < M0 20 1)
    (h4 : ∀ i, 0 ≤ i → i < M0 20 1 → M (M0 21 i) 4 = if i < k then rlk num heir (M0 (M0 21 i) 4) else M0 (M0 21 i) 4)
    (h5 : ∀ i, 0 ≤ i → i < M0 20 1 → M (M0 21 i) 5 = if i < k then rlk num heir (M0 (M0 21 i) 5) else M0 (M0 21 i) 5)
    (hf : ∀ b j, (j ≠ 4 ∧ j ≠ 5) ∨ ¬ (isE b ∧ b < 52) → M b j = M0 b j)
    (e4 : M2 (M0 21 k) 4 = rlk num heir (M (M0 21 k) 4)) (e5 : M2 (M0 21 k) 5 = rlk num heir (M (M0 21 k) 5)) (e : ∀ b j, ¬ (b = M0 21 k ∧ (j = 4 ∨ j = 5)) → M2 b j = M b j) :
    (∀ i, 0 ≤ i → i < M0 20 1 → M2 (M0 21 i) 4 = if i < k + 1 then rlk num heir (M0 (M0 21 i) 4) else M0 (M0 21 i) 4) ∧
    (∀ i, 0 ≤ i → i < M0 20 1 → M2 (M0 21 i) 5 = if i < k + 1 then rlk num heir (M0 (M0 21 i) 5) else M0 (M0 21 i) 5) ∧
    (∀ b j, (j ≠ 4 ∧ j ≠ 5) ∨ ¬ (isE b ∧ b < 52) → M2 b j = M0 b j) := by
  have hn := hw.2.2
  have hk := hw.1 k k0 (by omega)
  have g4 := h4 k k0 k1
  have g5 := h5 k k0 k1
  rw [if_neg (by omega)] at g4 g5
  refine ⟨fun i i0 i1 => ?_, fun i i0 i1 => ?_, fun b j q => ?_⟩
  · by_cases c : i = k
    · rw [c, if_pos (by omega), e4, g4]
    · rw [e _ _ (fun z => c (hw.2.1 i k i0 (by omega) k0 (by omega) z.1)), h4 i i0 i1]
      by_cases c2 : i < k
      · rw [if_pos c2, if_pos (by omega)]
      · rw [if_neg c2, if_neg (by omega)]
  · by_cases c : i = k
    · rw [c, if_pos (by omega), e5, g5]
    · rw [e _ _ (fun z => c (hw.2.1 i k i0 (by omega) k0 (by omega) z.1)), h5 i i0 i1]
      by_cases c2 : i < k
      · rw [if_pos c2, if_pos (by omega)]
      · rw [if_neg c2, if_neg (by omega)]
  · rw [e b j (fun z => by
      rcases q with q | q
      · omega
      · exact q (by rw [z.1]; exact hk))]
    exact hf b j q
set_option maxHeartbeats 600000 in
set_option maxRecDepth 100000 in
theorem lp_take2 {M0 : px_mem} {num heir : Int} (hw : edW M0) (h : ∀ M', (∀ i, 0 ≤ i → i < M0 20 1 → M' (M0 21 i) 4 = rlk num heir (M0 (M0 21 i) 4)) → (∀ i, 0 ≤ i → i < M0 20 1 → M' (M0 21 i) 5 = rlk num heir (M0 (M0 21 i) 5)) → (∀ b j, (j ≠ 4 ∧ j ≠ 5) ∨ ¬ (isE b ∧ b < 52) → M' b j = M0 b j) → Q none M') (k : Int) (hk_k : k ≤ M0 20 1) : ∀ (M : px_mem), 0 ≤ k → (∀ i, 0 ≤ i → i < M0 20 1 → M (M0 21 i) 4 = if i < k then rlk num heir (M0 (M0 21 i) 4) else M0 (M0 21 i) 4) → (∀ i, 0 ≤ i → i < M0 20 1 → M (M0 21 i) 5 = if i < k then rlk num heir (M0 (M0 21 i) 5) else M0 (M0 21 i) 5) → (∀ b j, (j ≠ 4 ∧ j ≠ 5) ∨ ¬ (isE b ∧ b < 52) → M b j = M0 b j) → px_WP 50 0 0 (px_Q0 LAY Q) 79 [(2, 20), (0, num), (0, heir), (9, 0), (9, 0), (0, k)] [] LAY M 0 0 := by
  refine up_ind (P := fun k => ∀ (M : px_mem), 0 ≤ k → (∀ i, 0 ≤ i → i < M0 20 1 → M (M0 21 i) 4 = if i < k then rlk num heir (M0 (M0 21 i) 4) else M0 (M0 21 i) 4) → (∀ i, 0 ≤ i → i < M0 20 1 → M (M0 21 i) 5 = if i < k then rlk num heir (M0 (M0 21 i) 5) else M0 (M0 21 i) 5) → (∀ b j, (j ≠ 4 ∧ j ≠ 5) ∨ ¬ (isE b ∧ b < 52) → M b j = M0 b j) → px_WP 50 0 0 (px_Q0 LAY Q) 79 [(2, 20), (0, num), (0, heir), (9, 0), (9, 0), (0, k)] [] LAY M 0 0) (M0 20 1) (fun k hk_k ih => ?_) k hk_k
  intro M k0 h4 h5 hf
  have hn := hw.2.2
  have hE := fun i i0 i1 => (hw.1 i i0 i1)
  have f20 : M 20 1 = M0 20 1 := hf 20 1 (Or.inl (by decide))
  have f21 : ∀ j, M 21 j = M0 21 j := fun j => hf 21 j (Or.inr (fun q => by have := isE_m q.1; omega))
  rcases Int.lt_or_le k (M0 20 1) with hkn | hkn
  rotate_left
  · refine px_go_ok (inl := []) 60 ?_
    simp only [px_go, px_Q0_at, px_sx_0, px_sx_s, px_cl, px_step, ↓px_ll, px_lg, f4_, ↓px_r1, ↓px_r2, ↓px_r4, ↓px_r5, ↓px_p1, ↓px_p2, ↓px_p3, ↓px_pop, px_k_0, px_k_s, px_k3_0, px_stk_, px_cats, px_ent, px_st1, px_st2, px_mask, ↓px_tsw, ↓px_lsw, ct_, mls_0, mls_1, mls_2, mls_3, mls_4, mls_5, kd_0, kd_1, kd_2, kd_3, ln_0, ln_1, ln_2, ln_3, gf_0, gf_1, gf_2, gf_3, gf_4, gf_7, gf_21, gf_63, dy_0, dy_1, dy_2, dy_3, dy_7, dy_21, px_brT, px_brF, true_and, and_true, and_false, false_and, and_self, true_implies, false_implies, or_true, true_or, or_false, false_or, eq_self, ne_eq, not_false_eq_true, not_true_eq_false, if_true, if_false, List.mem_cons, List.not_mem_nil, List.length_cons, List.length_nil, Nat.reduceEqDiff, Nat.reduceAdd, Nat.reduceSub, Nat.reduceLeDiff, Nat.reduceLT, Int.reduceEq, Int.reduceLT, Int.reduceLE, Int.reduceNeg, Int.reduceAdd, Int.reduceSub, Int.reduceToNat, ↓reduceIte, one_ne_zero_, zero_ne_one_, px_in32L, cd_50, f20]
    repeat' (first | (with_reducible apply And.intro) | (with_reducible refine px_br_intro (fun _ => ?_) (fun _ => ?_)))
    all_goals (try (first | (unfold px_in32; omega) | omega))
    exact h M (fun i i0 i1 => by rw [h4 i i0 i1, if_pos (by omega)]) (fun i i0 i1 => by rw [h5 i i0 i1, if_pos (by omega)]) hf
  have hek := hE k k0 (by omega)
  have hel := isE_lay hek.1
  have heg := isE_gf hek.1
  have hem := isE_m hek.1
  have h21e : ((21 : Int) = M0 21 k) = False := eq_false (by omega)
  have st := fun M2 => take_step (M2 := M2) hw k0 hkn h4 h5 hf
  refine px_go_ok (inl := []) 60 ?_
  simp only [px_go, px_Q0_at, px_sx_0, px_sx_s, px_cl, px_step, ↓px_ll, px_lg, f4_, ↓px_r1, ↓px_r2, ↓px_r4, ↓px_r5, ↓px_p1, ↓px_p2, ↓px_p3, ↓px_pop, px_k_0, px_k_s, px_k3_0, px_stk_, px_cats, px_ent, px_st1, px_st2, px_mask, ↓px_tsw, ↓px_lsw, ct_, mls_0, mls_1, mls_2, mls_3, mls_4, mls_5, kd_0, kd_1, kd_2, kd_3, ln_0, ln_1, ln_2, ln_3, gf_0, gf_1, gf_2, gf_3, gf_4, gf_7, gf_21, gf_63, dy_0, dy_1, dy_2, dy_3, dy_7, dy_21, px_brT, px_brF, true_and, and_true, and_false, false_and, and_self, true_implies, false_implies, or_true, true_or, or_false, false_or, eq_self, ne_eq, not_false_eq_true, not_true_eq_false, if_true, if_false, List.mem_cons, List.not_mem_nil, List.length_cons, List.length_nil, Nat.reduceEqDiff, Nat.reduceAdd, Nat.reduceSub, Nat.reduceLeDiff, Nat.reduceLT, Int.reduceEq, Int.reduceLT, Int.reduceLE, Int.reduceNeg, Int.reduceAdd, Int.reduceSub, Int.reduceToNat, ↓reduceIte, one_ne_zero_, zero_ne_one_, px_in32L, cd_50, f20, f21, hel, heg, h21e, px_up_at]
  repeat' (first | (with_reducible apply And.intro) | (with_reducible refine px_br_intro (fun _ => ?_) (fun _ => ?_)))
  all_goals (try (first | (unfold px_in32; omega) | omega))
  · rename_i c1 c2 c3
    obtain ⟨s1, s2, s3⟩ := st (px_up (px_up M (M0 21 k) 4 heir) (M0 21 k) 5 heir) (by rw [px_up_at, if_neg (by omega), px_up_at, if_pos ⟨rfl, rfl⟩]; unfold rlk; rw [if_pos c2]) (by rw [px_up_at, if_pos ⟨rfl, rfl⟩]; unfold rlk; rw [if_pos c3]) (fun b j q => by rw [px_up_at, if_neg (by omega), px_up_at, if_neg (by omega)])
    exact ih hkn _ (by omega) s1 s2 s3
  · rename_i c1 c2 c3
    obtain ⟨s1, s2, s3⟩ := st (px_up M (M0 21 k) 4 heir) (by rw [px_up_at, if_pos ⟨rfl, rfl⟩]; unfold rlk; rw [if_pos c2]) (by rw [px_up_at, if_neg (by omega)]; unfold rlk; rw [if_neg c3]) (fun b j q => by rw [px_up_at, if_neg (by omega)])
    exact ih hkn _ (by omega) s1 s2 s3
  · rename_i c1 c2 c3
    obtain ⟨s1, s2, s3⟩ := st (px_up M (M0 21 k) 5 heir) (by rw [px_up_at, if_neg (by omega)]; unfold rlk; rw [if_neg c2]) (by rw [px_up_at, if_pos ⟨rfl, rfl⟩]; unfold rlk; rw [if_pos c3]) (fun b j q => by rw [px_up_at, if_neg (by omega)])
    exact ih hkn _ (by omega) s1 s2 s3
  · rename_i c1 c2 c3
    obtain ⟨s1, s2, s3⟩ := st M (by unfold rlk; rw [if_neg c2]) (by unfold rlk; rw [if_neg c3]) (fun b j q => rfl)
    exact ih hkn _ (by omega) s1 s2 s3
theorem shf_edW {M M' : px_mem} {p : Int} (hw : edW M) (p0 : 0 ≤ p) (p1 : p < M 20 1) (h1 : M' 20 1 = M 20 1 - 1) (h2 : ∀ i, 0 ≤ i → i < 10 → M' 21 i = shf (M 21) p (M 20 1) i) : edW M' := by
  obtain ⟨a, b, c⟩ := hw
  have hs : ∀ i, 0 ≤ i → i < 10 → ∃ j, 0 ≤ j ∧ j < 10 ∧ M' 21 i = M 21 j ∧ j = (if i < p then i else if i < M 20 1 - 1 then i + 1 else if i = M 20 1 - 1 then p else i) := fun i i0 i1 => by
    refine ⟨_, ?_, ?_, ?_, rfl⟩
    · split
      · omega
      · split
        · omega
        · split <;> omega
    · split
      · omega
      · split
        · omega
        · split <;> omega
    · rw [h2 i i0 i1]
      unfold shf
      split
      · rfl
      · split
        · rfl
        · split <;> rfl
  refine ⟨fun i i0 i1 => ?_, fun i j i0 i1 j0 j1 e => ?_, by omega, by omega⟩
  · obtain ⟨j, j0, j1, j2, _⟩ := hs i i0 i1
    rw [j2]; exact a j j0 j1
  · obtain ⟨x, x0, x1, x2, x3⟩ := hs i i0 i1
    obtain ⟨y, y0, y1, y2, y3⟩ := hs j j0 j1
    rw [x2, y2] at e
    have := b x y x0 x1 y0 y1 e
    rw [x3, y3] at this
    split at this <;> split at this <;> (try split at this) <;> (try split at this) <;> (try split at this) <;> (try split at this) <;> omega
set_option maxHeartbeats 600000 in
set_option maxRecDepth 100000 in
theorem lp_take1 {M0 : px_mem} {num heir p : Int} (hw : edW M0) (hp : 0 ≤ p ∧ p < M0 20 1) (h : ∀ M', (∀ i, 0 ≤ i → i < 10 → M' 21 i = shf (M0 21) p (M0 20 1) i) → M' 20 1 = M0 20 1 - 1 → (∀ j, j ≠ 1 → M' 20 j = M0 20 j) → (∀ i, 0 ≤ i → i < M0 20 1 - 1 → M' (M' 21 i) 4 = rlk num heir (M0 (M' 21 i) 4)) → (∀ i, 0 ≤ i → i < M0 20 1 - 1 → M' (M' 21 i) 5 = rlk num heir (M0 (M' 21 i) 5)) → (∀ b j, b ≠ 20 → b ≠ 21 → (j ≠ 4 ∧ j ≠ 5) ∨ ¬ (isE b ∧ b < 52) → M' b j = M0 b j) → Q none M') (k : Int) (hk_k : k ≤ M0 20 1) : ∀ (M : px_mem), p ≤ k → k < M0 20 1 → (∀ i, 0 ≤ i → i < 10 → M 21 i = if i < p then M0 21 i else if i < k then M0 21 (i + 1) else M0 21 i) → (∀ b, b ≠ 21 → M b = M0 b) → px_WP 50 0 0 (px_Q0 LAY Q) 22 [(2, 20), (0, num), (0, heir), (9, 0), (2, M0 21 p), (0, k)] [] LAY M 0 0 := by
  refine up_ind (P := fun k => ∀ (M : px_mem), p ≤ k → k < M0 20 1 → (∀ i, 0 ≤ i → i < 10 → M 21 i = if i < p then M0 21 i else if i < k then M0 21 (i + 1) else M0 21 i) → (∀ b, b ≠ 21 → M b = M0 b) → px_WP 50 0 0 (px_Q0 LAY Q) 22 [(2, 20), (0, num), (0, heir), (9, 0), (2, M0 21 p), (0, k)] [] LAY M 0 0) (M0 20 1) (fun k hk_k ih => ?_) k hk_k
  intro M k0 k1 h1 hf
  have hn := hw.2.2
  have f20 := hf 20 (by decide)
  have f201 : M 20 1 = M0 20 1 := by rw [f20]
  have hEp := (isE_lay (hw.1 p hp.1 (by omega)).1).1
  have hEk : k + 1 < M0 20 1 → px_kd LAY (M 21 (k + 1)) = 12 := fun q => by rw [h1 (k + 1) (by omega) (by omega), if_neg (by omega), if_neg (by omega)]; exact (isE_lay (hw.1 (k + 1) (by omega) (by omega)).1).1
  refine px_go_ok (inl := []) 60 ?_
  simp only [px_go, px_Q0_at, px_sx_0, px_sx_s, px_cl, px_step, ↓px_ll, px_lg, f4_, ↓px_r1, ↓px_r2, ↓px_r4, ↓px_r5, ↓px_p1, ↓px_p2, ↓px_p3, ↓px_pop, px_k_0, px_k_s, px_k3_0, px_stk_, px_cats, px_ent, px_st1, px_st2, px_mask, ↓px_tsw, ↓px_lsw, ct_, mls_0, mls_1, mls_2, mls_3, mls_4, mls_5, kd_0, kd_1, kd_2, kd_3, ln_0, ln_1, ln_2, ln_3, gf_0, gf_1, gf_2, gf_3, gf_4, gf_7, gf_21, gf_63, dy_0, dy_1, dy_2, dy_3, dy_7, dy_21, px_brT, px_brF, true_and, and_true, and_false, false_and, and_self, true_implies, false_implies, or_true, true_or, or_false, false_or, eq_self, ne_eq, not_false_eq_true, not_true_eq_false, if_true, if_false, List.mem_cons, List.not_mem_nil, List.length_cons, List.length_nil, Nat.reduceEqDiff, Nat.reduceAdd, Nat.reduceSub, Nat.reduceLeDiff, Nat.reduceLT, Int.reduceEq, Int.reduceLT, Int.reduceLE, Int.reduceNeg, Int.reduceAdd, Int.reduceSub, Int.reduceToNat, ↓reduceIte, one_ne_zero_, zero_ne_one_, px_in32L, cd_50, f201, hEp, px_up_at]
  repeat' (first | (with_reducible apply And.intro) | (with_reducible refine px_br_intro (fun _ => ?_) (fun _ => ?_)))
  all_goals (try (first | (unfold px_in32; omega) | omega))
  · rename_i c1
    have hk : k = M0 20 1 - 1 := by omega
    have hsh : ∀ i, 0 ≤ i → i < 10 → px_up (px_up M 20 1 (M0 20 1 - 1)) 21 (M0 20 1 - 1) (M0 21 p) 21 i = shf (M0 21) p (M0 20 1) i := fun i i0 i1 => by
      rw [px_up_at, row_ne (by decide), h1 i i0 i1]
      unfold shf
      by_cases e : i = M0 20 1 - 1
      · rw [if_pos ⟨rfl, e⟩, if_neg (by omega), if_neg (by omega), if_pos e]
      · rw [if_neg (fun z => e z.2)]
        by_cases e2 : i < p
        · rw [if_pos e2, if_pos e2]
        · rw [if_neg e2, if_neg e2, hk]
          by_cases e3 : i < M0 20 1 - 1
          · rw [if_pos e3, if_pos e3]
          · rw [if_neg e3, if_neg e3, if_neg e]
    have g20 : px_up (px_up M 20 1 (M0 20 1 - 1)) 21 (M0 20 1 - 1) (M0 21 p) 20 1 = M0 20 1 - 1 := by rw [row_ne (by decide), px_up_at, if_pos ⟨rfl, rfl⟩]
    have gf : ∀ b, b ≠ 20 → b ≠ 21 → px_up (px_up M 20 1 (M0 20 1 - 1)) 21 (M0 20 1 - 1) (M0 21 p) b = M0 b := fun b b0 b1 => by rw [row_ne b1, row_ne b0, hf b b1]
    have g20j : ∀ j, j ≠ 1 → px_up (px_up M 20 1 (M0 20 1 - 1)) 21 (M0 20 1 - 1) (M0 21 p) 20 j = M0 20 j := fun j j0 => by rw [row_ne (by decide), px_up_at, if_neg (fun z => j0 z.2), f20]
    generalize px_up (px_up M 20 1 (M0 20 1 - 1)) 21 (M0 20 1 - 1) (M0 21 p) = M1 at *
    have hw1 := shf_edW hw hp.1 hp.2 g20 hsh
    have hE1 := fun i i0 i1 => hw1.1 i i0 i1
    refine lp_take2 (M0 := M1) hw1 (fun M' a4 a5 af => ?_) 0 (by omega) M1 (Int.le_refl 0) (fun i _ _ => by rw [if_neg (by omega)]) (fun i _ _ => by rw [if_neg (by omega)]) (fun _ _ _ => rfl)
    have f21' : ∀ i, M' 21 i = M1 21 i := fun i => af 21 i (Or.inr (fun q => by have := isE_m q.1; omega))
    have f20' : ∀ i, M' 20 i = M1 20 i := fun i => af 20 i (Or.inr (fun q => by have := isE_m q.1; omega))
    rw [g20] at a4 a5
    refine h M' (fun i i0 i1 => by rw [f21']; exact hsh i i0 i1) (by rw [f20']; exact g20) (fun j j0 => by rw [f20']; exact g20j j j0) (fun i i0 i1 => ?_) (fun i i0 i1 => ?_) (fun b j b0 b1 q => by rw [af b j q, gf b b0 b1])
    · have he := hE1 i i0 (by omega)
      have hm := isE_m he.1
      rw [f21', a4 i i0 (by omega), gf (M1 21 i) (by omega) (by omega)]
    · have he := hE1 i i0 (by omega)
      have hm := isE_m he.1
      rw [f21', a5 i i0 (by omega), gf (M1 21 i) (by omega) (by omega)]
  · rename_i c1
    refine ih (by omega) _ (by omega) (by omega) (fun i i0 i1 => ?_) (fun b b0 => by rw [row_ne b0]; exact hf b b0)
    rw [px_up_at, h1 i i0 i1, h1 (k + 1) (by omega) (by omega)]
    by_cases e : i = k
    · rw [if_pos ⟨rfl, e⟩, if_neg (by omega), if_neg (by omega), if_neg (by omega), if_pos (by omega), e]
    · rw [if_neg (fun z => e z.2)]
      by_cases e2 : i < p
      · rw [if_pos e2, if_pos e2]
      · rw [if_neg e2, if_neg e2]
        by_cases e3 : i < k
        · rw [if_pos e3, if_pos (by omega)]
        · rw [if_neg e3, if_neg (by omega)]
set_option maxHeartbeats 600000 in
set_option maxRecDepth 100000 in
theorem sp_take {num heir p : Int} (hw : edW M) (hs : slot M num = p) (hp : 0 ≤ p) (h : ∀ M', (∀ i, 0 ≤ i → i < 10 → M' 21 i = shf (M 21) p (M 20 1) i) → M' 20 1 = M 20 1 - 1 → (∀ j, j ≠ 1 → M' 20 j = M 20 j) → (∀ i, 0 ≤ i → i < M 20 1 - 1 → M' (M' 21 i) 4 = rlk num heir (M (M' 21 i) 4)) → (∀ i, 0 ≤ i → i < M 20 1 - 1 → M' (M' 21 i) 5 = rlk num heir (M (M' 21 i) 5)) → (∀ b j, b ≠ 20 → b ≠ 21 → (j ≠ 4 ∧ j ≠ 5) ∨ ¬ (isE b ∧ b < 52) → M' b j = M b j) → Q none M') : px_Ok 50 [(2, 20), (0, num), (0, heir)] LAY M Q := by
  refine px_ok_go (inl := []) (ls0 := [(2, 20), (0, num), (0, heir), (9, 0), (9, 0), (9, 0)]) 60 (by decide) (Nat.le_of_ble_eq_true rfl) rfl ?_
  simp only [px_go, px_Q0_at, px_sx_0, px_sx_s, px_cl, px_step, ↓px_ll, px_lg, f4_, ↓px_r1, ↓px_r2, ↓px_r4, ↓px_r5, ↓px_p1, ↓px_p2, ↓px_p3, ↓px_pop, px_k_0, px_k_s, px_k3_0, px_stk_, px_cats, px_ent, px_st1, px_st2, px_mask, ↓px_tsw, ↓px_lsw, ct_, mls_0, mls_1, mls_2, mls_3, mls_4, mls_5, kd_0, kd_1, kd_2, kd_3, ln_0, ln_1, ln_2, ln_3, gf_0, gf_1, gf_2, gf_3, gf_4, gf_7, gf_21, gf_63, dy_0, dy_1, dy_2, dy_3, dy_7, dy_21, px_brT, px_brF, true_and, and_true, and_false, false_and, and_self, true_implies, false_implies, or_true, true_or, or_false, false_or, eq_self, ne_eq, not_false_eq_true, not_true_eq_false, if_true, if_false, List.mem_cons, List.not_mem_nil, List.length_cons, List.length_nil, Nat.reduceEqDiff, Nat.reduceAdd, Nat.reduceSub, Nat.reduceLeDiff, Nat.reduceLT, Int.reduceEq, Int.reduceLT, Int.reduceLE, Int.reduceNeg, Int.reduceAdd, Int.reduceSub, Int.reduceToNat, ↓reduceIte, one_ne_zero_, zero_ne_one_, px_in32L, cd_50]
  repeat' (first | (with_reducible apply And.intro) | (with_reducible refine px_br_intro (fun _ => ?_) (fun _ => ?_)))
  all_goals (try (first | (unfold px_in32; omega) | omega))
  have hn := hw.2.2
  have hr := slot_rng (M := M) num
  refine sp_edPlaceOf hw ?_
  rw [hs] at hr ⊢
  simp only [px_go, px_Q0_at, px_sx_0, px_sx_s, px_cl, px_step, ↓px_ll, px_lg, f4_, ↓px_r1, ↓px_r2, ↓px_r4, ↓px_r5, ↓px_p1, ↓px_p2, ↓px_p3, ↓px_pop, px_k_0, px_k_s, px_k3_0, px_stk_, px_cats, px_ent, px_st1, px_st2, px_mask, ↓px_tsw, ↓px_lsw, ct_, mls_0, mls_1, mls_2, mls_3, mls_4, mls_5, kd_0, kd_1, kd_2, kd_3, ln_0, ln_1, ln_2, ln_3, gf_0, gf_1, gf_2, gf_3, gf_4, gf_7, gf_21, gf_63, dy_0, dy_1, dy_2, dy_3, dy_7, dy_21, px_brT, px_brF, true_and, and_true, and_false, false_and, and_self, true_implies, false_implies, or_true, true_or, or_false, false_or, eq_self, ne_eq, not_false_eq_true, not_true_eq_false, if_true, if_false, List.mem_cons, List.not_mem_nil, List.length_cons, List.length_nil, Nat.reduceEqDiff, Nat.reduceAdd, Nat.reduceSub, Nat.reduceLeDiff, Nat.reduceLT, Int.reduceEq, Int.reduceLT, Int.reduceLE, Int.reduceNeg, Int.reduceAdd, Int.reduceSub, Int.reduceToNat, ↓reduceIte, one_ne_zero_, zero_ne_one_, px_in32L, cd_50]
  repeat' (first | (with_reducible apply And.intro) | (with_reducible refine px_br_intro (fun _ => ?_) (fun _ => ?_)))
  all_goals (try (first | (unfold px_in32; omega) | omega))
  exact lp_take1 (M0 := M) hw ⟨hp, by omega⟩ h p (by omega) M (Int.le_refl p) (by omega) (fun i i0 i1 => by
    by_cases e : i < p
    · rw [if_pos e]
    · rw [if_neg e, if_neg e]) (fun _ _ => rfl)
end PS
