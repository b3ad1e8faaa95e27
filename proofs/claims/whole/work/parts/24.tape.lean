/-! lists out of rows; EditionVault.Tape -/
set_option maxRecDepth 100000 in
/-- X9_append -/
theorem cd_99 : px_at 99 0 = some (2, [], .bipush 24, []) ∧ px_at 99 2 = some (3, [], .istore_n 2, []) ∧ px_at 99 3 = some (4, [1, 1, 1], .iload_n 2, []) ∧ px_at 99 4 = some (7, [], .ifCond .lt 45, [49]) ∧ px_at 99 7 = some (8, [], .aload_n 0, []) ∧ px_at 99 8 = some (11, [], .getfield 15, [8, 1, 0, 0, 3]) ∧ px_at 99 11 = some (14, [], .sipush 160, []) ∧ px_at 99 14 = some (17, [], .if_icmp .ge 35, [49]) ∧ px_at 99 17 = some (18, [], .aload_n 0, []) ∧ px_at 99 18 = some (21, [], .getfield 9, [8, 0, 2, 1, 0]) ∧ px_at 99 21 = some (22, [], .aload_n 0, []) ∧ px_at 99 22 = some (25, [], .getfield 15, [8, 1, 0, 0, 3]) ∧ px_at 99 25 = some (26, [], .iload_n 1, []) ∧ px_at 99 26 = some (27, [], .iload_n 2, []) ∧ px_at 99 27 = some (28, [], .iushr, []) ∧ px_at 99 28 = some (31, [], .sipush 255, []) ∧ px_at 99 31 = some (32, [], .iand, []) ∧ px_at 99 32 = some (33, [], .iastore, []) ∧ px_at 99 33 = some (34, [], .aload_n 0, []) ∧ px_at 99 34 = some (35, [], .dup, []) ∧ px_at 99 35 = some (38, [], .getfield 15, [8, 1, 0, 0, 3]) ∧ px_at 99 38 = some (39, [], .iconst 1, []) ∧ px_at 99 39 = some (40, [], .iadd, []) ∧ px_at 99 40 = some (43, [], .putfield 15, [8, 1, 0, 0, 3]) ∧ px_at 99 43 = some (46, [], .iinc 2 (-8), []) ∧ px_at 99 46 = some (49, [], .goto (-43), [3]) ∧ px_at 99 49 = some (50, [], .return_, []) := ⟨rfl, rfl, rfl, rfl, rfl, rfl, rfl, rfl, rfl, rfl, rfl, rfl, rfl, rfl, rfl, rfl, rfl, rfl, rfl, rfl, rfl, rfl, rfl, rfl, rfl, rfl, rfl⟩
set_option maxRecDepth 100000 in
/-- X9_clear -/
theorem cd_100 : px_at 100 0 = some (1, [], .aload_n 0, []) ∧ px_at 100 1 = some (2, [], .iconst 0, []) ∧ px_at 100 2 = some (5, [], .putfield 15, [8, 1, 0, 0, 3]) ∧ px_at 100 5 = some (6, [], .return_, []) := ⟨rfl, rfl, rfl, rfl⟩
set_option maxRecDepth 100000 in
/-- X9_has -/
theorem cd_101 : px_at 101 0 = some (1, [], .iload_n 1, []) ∧ px_at 101 1 = some (2, [], .aload_n 0, []) ∧ px_at 101 2 = some (5, [], .getfield 15, [8, 1, 0, 0, 3]) ∧ px_at 101 5 = some (8, [], .if_icmp .gt 7, [12]) ∧ px_at 101 8 = some (9, [], .iconst 1, []) ∧ px_at 101 9 = some (12, [], .goto 4, [13]) ∧ px_at 101 12 = some (13, [], .iconst 0, []) ∧ px_at 101 13 = some (14, [], .ireturn, [4]) := ⟨rfl, rfl, rfl, rfl, rfl, rfl, rfl, rfl⟩
set_option maxRecDepth 100000 in
/-- X9_hasWord -/
theorem cd_102 : px_at 102 0 = some (1, [], .iload_n 1, []) ∧ px_at 102 1 = some (2, [], .iconst 1, []) ∧ px_at 102 2 = some (5, [], .if_icmp .lt 21, [23]) ∧ px_at 102 5 = some (6, [], .iload_n 1, []) ∧ px_at 102 6 = some (8, [], .bipush 12, []) ∧ px_at 102 8 = some (11, [], .if_icmp .gt 15, [23]) ∧ px_at 102 11 = some (12, [], .aload_n 0, []) ∧ px_at 102 12 = some (13, [], .iload_n 1, []) ∧ px_at 102 13 = some (16, [], .invokevirtual 19, [101, 1, 8, 27]) ∧ px_at 102 16 = some (19, [], .ifCond .eq 7, [23]) ∧ px_at 102 19 = some (20, [], .iconst 1, []) ∧ px_at 102 20 = some (23, [], .goto 4, [24]) ∧ px_at 102 23 = some (24, [], .iconst 0, []) ∧ px_at 102 24 = some (25, [], .ireturn, [4]) := ⟨rfl, rfl, rfl, rfl, rfl, rfl, rfl, rfl, rfl, rfl, rfl, rfl, rfl, rfl⟩
set_option maxRecDepth 100000 in
/-- X9_pathFrom -/
theorem cd_103 : px_at 103 0 = some (1, [], .lconst 0, []) ∧ px_at 103 1 = some (2, [], .lstore_n 3, []) ∧ px_at 103 2 = some (3, [], .iconst 1, []) ∧ px_at 103 3 = some (5, [], .istore 5, []) ∧ px_at 103 5 = some (6, [], .iconst 0, []) ∧ px_at 103 6 = some (8, [], .istore 6, []) ∧ px_at 103 8 = some (10, [1, 1, 1, 1, 0, 1, 1, 0], .iload 6, []) ∧ px_at 103 10 = some (11, [], .iload_n 2, []) ∧ px_at 103 11 = some (14, [], .if_icmp .ge 66, [77]) ∧ px_at 103 14 = some (15, [], .iload_n 1, []) ∧ px_at 103 15 = some (17, [], .iload 6, []) ∧ px_at 103 17 = some (18, [], .iadd, []) ∧ px_at 103 18 = some (19, [], .aload_n 0, []) ∧ px_at 103 19 = some (22, [], .getfield 15, [8, 1, 0, 0, 3]) ∧ px_at 103 22 = some (25, [], .if_icmp .ge 55, [77]) ∧ px_at 103 25 = some (26, [], .aload_n 0, []) ∧ px_at 103 26 = some (29, [], .getfield 9, [8, 0, 2, 1, 0]) ∧ px_at 103 29 = some (30, [], .iload_n 1, []) ∧ px_at 103 30 = some (32, [], .iload 6, []) ∧ px_at 103 32 = some (33, [], .iadd, []) ∧ px_at 103 33 = some (34, [], .iaload, []) ∧ px_at 103 34 = some (37, [], .invokestatic 23, [60, 1, 0, 30]) ∧ px_at 103 37 = some (39, [], .istore 7, []) ∧ px_at 103 39 = some (41, [], .iload 7, []) ∧ px_at 103 41 = some (44, [], .ifCond .eq 15, [56]) ∧ px_at 103 44 = some (46, [], .iload 7, []) ∧ px_at 103 46 = some (47, [], .iconst 1, []) ∧ px_at 103 47 = some (50, [], .if_icmp .ne 11, [58]) ∧ px_at 103 50 = some (52, [], .iload 5, []) ∧ px_at 103 52 = some (53, [], .iconst 1, []) ∧ px_at 103 53 = some (56, [], .if_icmp .ne 5, [58]) ∧ px_at 103 56 = some (57, [], .lconst 0, []) ∧ px_at 103 57 = some (58, [], .lreturn, []) ∧ px_at 103 58 = some (59, [], .lload_n 3, []) ∧ px_at 103 59 = some (61, [], .iload 6, []) ∧ px_at 103 61 = some (63, [], .iload 7, []) ∧ px_at 103 63 = some (66, [], .invokestatic 29, [62, 3, 0, 31]) ∧ px_at 103 66 = some (67, [], .lstore_n 3, []) ∧ px_at 103 67 = some (69, [], .iload 7, []) ∧ px_at 103 69 = some (71, [], .istore 5, []) ∧ px_at 103 71 = some (74, [], .iinc 6 1, []) ∧ px_at 103 74 = some (77, [], .goto (-66), [8]) ∧ px_at 103 77 = some (79, [], .iload 5, []) ∧ px_at 103 79 = some (80, [], .iconst 1, []) ∧ px_at 103 80 = some (83, [], .if_icmp .ne 7, [87]) ∧ px_at 103 83 = some (84, [], .lconst 0, []) ∧ px_at 103 84 = some (87, [], .goto 4, [88]) ∧ px_at 103 87 = some (88, [], .lload_n 3, []) ∧ px_at 103 88 = some (89, [], .lreturn, []) := ⟨rfl, rfl, rfl, rfl, rfl, rfl, rfl, rfl, rfl, rfl, rfl, rfl, rfl, rfl, rfl, rfl, rfl, rfl, rfl, rfl, rfl, rfl, rfl, rfl, rfl, rfl, rfl, rfl, rfl, rfl, rfl, rfl, rfl, rfl, rfl, rfl, rfl, rfl, rfl, rfl, rfl, rfl, rfl, rfl, rfl, rfl, rfl, rfl, rfl⟩
set_option maxRecDepth 100000 in
/-- X9_nameFrom -/
theorem cd_104 : px_at 104 0 = some (1, [], .iconst 0, []) ∧ px_at 104 1 = some (2, [], .istore_n 2, []) ∧ px_at 104 2 = some (3, [1, 1, 1], .iload_n 2, []) ∧ px_at 104 3 = some (4, [], .iload_n 1, []) ∧ px_at 104 4 = some (7, [], .if_icmp .ge 30, [34]) ∧ px_at 104 7 = some (8, [], .iload_n 2, []) ∧ px_at 104 8 = some (9, [], .aload_n 0, []) ∧ px_at 104 9 = some (12, [], .getfield 15, [8, 1, 0, 0, 3]) ∧ px_at 104 12 = some (15, [], .if_icmp .ge 22, [34]) ∧ px_at 104 15 = some (16, [], .aload_n 0, []) ∧ px_at 104 16 = some (19, [], .getfield 9, [8, 0, 2, 1, 0]) ∧ px_at 104 19 = some (20, [], .iload_n 2, []) ∧ px_at 104 20 = some (21, [], .iaload, []) ∧ px_at 104 21 = some (23, [], .bipush 47, []) ∧ px_at 104 23 = some (26, [], .if_icmp .ne 5, [28]) ∧ px_at 104 26 = some (27, [], .lconst 0, []) ∧ px_at 104 27 = some (28, [], .lreturn, []) ∧ px_at 104 28 = some (31, [], .iinc 2 1, []) ∧ px_at 104 31 = some (34, [], .goto (-29), [2]) ∧ px_at 104 34 = some (35, [], .aload_n 0, []) ∧ px_at 104 35 = some (36, [], .iconst 0, []) ∧ px_at 104 36 = some (37, [], .iload_n 1, []) ∧ px_at 104 37 = some (40, [], .invokevirtual 33, [103, 2, 8, 119]) ∧ px_at 104 40 = some (41, [], .lreturn, []) := ⟨rfl, rfl, rfl, rfl, rfl, rfl, rfl, rfl, rfl, rfl, rfl, rfl, rfl, rfl, rfl, rfl, rfl, rfl, rfl, rfl, rfl, rfl, rfl, rfl⟩
set_option maxRecDepth 100000 in
/-- X9_isPattern -/
theorem cd_105 : px_at 105 0 = some (1, [], .iconst 0, []) ∧ px_at 105 1 = some (2, [], .istore_n 2, []) ∧ px_at 105 2 = some (3, [1, 1, 1, 0], .iload_n 2, []) ∧ px_at 105 3 = some (4, [], .iload_n 1, []) ∧ px_at 105 4 = some (7, [], .if_icmp .ge 45, [49]) ∧ px_at 105 7 = some (8, [], .iload_n 2, []) ∧ px_at 105 8 = some (9, [], .aload_n 0, []) ∧ px_at 105 9 = some (12, [], .getfield 15, [8, 1, 0, 0, 3]) ∧ px_at 105 12 = some (15, [], .if_icmp .ge 37, [49]) ∧ px_at 105 15 = some (16, [], .aload_n 0, []) ∧ px_at 105 16 = some (19, [], .getfield 9, [8, 0, 2, 1, 0]) ∧ px_at 105 19 = some (20, [], .iload_n 2, []) ∧ px_at 105 20 = some (21, [], .iaload, []) ∧ px_at 105 21 = some (22, [], .istore_n 3, []) ∧ px_at 105 22 = some (23, [], .iload_n 3, []) ∧ px_at 105 23 = some (26, [], .invokestatic 23, [60, 1, 0, 30]) ∧ px_at 105 26 = some (29, [], .ifCond .ne 17, [43]) ∧ px_at 105 29 = some (30, [], .iload_n 3, []) ∧ px_at 105 30 = some (32, [], .bipush 63, []) ∧ px_at 105 32 = some (35, [], .if_icmp .eq 11, [43]) ∧ px_at 105 35 = some (36, [], .iload_n 3, []) ∧ px_at 105 36 = some (38, [], .bipush 42, []) ∧ px_at 105 38 = some (41, [], .if_icmp .eq 5, [43]) ∧ px_at 105 41 = some (42, [], .iconst 0, []) ∧ px_at 105 42 = some (43, [], .ireturn, [4]) ∧ px_at 105 43 = some (46, [], .iinc 2 1, []) ∧ px_at 105 46 = some (49, [], .goto (-44), [2]) ∧ px_at 105 49 = some (50, [], .iconst 1, []) ∧ px_at 105 50 = some (51, [], .ireturn, [4]) := ⟨rfl, rfl, rfl, rfl, rfl, rfl, rfl, rfl, rfl, rfl, rfl, rfl, rfl, rfl, rfl, rfl, rfl, rfl, rfl, rfl, rfl, rfl, rfl, rfl, rfl, rfl, rfl, rfl, rfl⟩
set_option maxRecDepth 100000 in
/-- X9_fits -/
theorem cd_106 : px_at 106 0 = some (1, [], .iconst 1, []) ∧ px_at 106 1 = some (3, [], .istore 4, []) ∧ px_at 106 3 = some (4, [], .iconst 0, []) ∧ px_at 106 4 = some (6, [], .istore 5, []) ∧ px_at 106 6 = some (8, [1, 1, 0, 1, 1, 1], .iload 5, []) ∧ px_at 106 8 = some (9, [], .iload_n 3, []) ∧ px_at 106 9 = some (12, [], .if_icmp .ge 33, [42]) ∧ px_at 106 12 = some (14, [], .iload 5, []) ∧ px_at 106 14 = some (15, [], .aload_n 0, []) ∧ px_at 106 15 = some (18, [], .getfield 15, [8, 1, 0, 0, 3]) ∧ px_at 106 18 = some (21, [], .if_icmp .ge 24, [42]) ∧ px_at 106 21 = some (23, [], .iload 4, []) ∧ px_at 106 23 = some (24, [], .aload_n 0, []) ∧ px_at 106 24 = some (27, [], .getfield 9, [8, 0, 2, 1, 0]) ∧ px_at 106 27 = some (29, [], .iload 5, []) ∧ px_at 106 29 = some (30, [], .iaload, []) ∧ px_at 106 30 = some (31, [], .lload_n 1, []) ∧ px_at 106 31 = some (34, [], .invokestatic 37, [107, 3, 8, 166]) ∧ px_at 106 34 = some (36, [], .istore 4, []) ∧ px_at 106 36 = some (39, [], .iinc 5 1, []) ∧ px_at 106 39 = some (42, [], .goto (-33), [6]) ∧ px_at 106 42 = some (44, [], .iload 4, []) ∧ px_at 106 44 = some (45, [], .lload_n 1, []) ∧ px_at 106 45 = some (48, [], .invokestatic 41, [63, 1, 0, 168]) ∧ px_at 106 48 = some (49, [], .iushr, []) ∧ px_at 106 49 = some (50, [], .iconst 1, []) ∧ px_at 106 50 = some (51, [], .iand, []) ∧ px_at 106 51 = some (54, [], .ifCond .eq 7, [58]) ∧ px_at 106 54 = some (55, [], .iconst 1, []) ∧ px_at 106 55 = some (58, [], .goto 4, [59]) ∧ px_at 106 58 = some (59, [], .iconst 0, []) ∧ px_at 106 59 = some (60, [], .ireturn, [4]) := ⟨rfl, rfl, rfl, rfl, rfl, rfl, rfl, rfl, rfl, rfl, rfl, rfl, rfl, rfl, rfl, rfl, rfl, rfl, rfl, rfl, rfl, rfl, rfl, rfl, rfl, rfl, rfl, rfl, rfl, rfl, rfl, rfl⟩
set_option maxRecDepth 100000 in
/-- X9_waysBehind -/
theorem cd_107 : px_at 107 0 = some (1, [], .iload_n 1, []) ∧ px_at 107 1 = some (3, [], .bipush 42, []) ∧ px_at 107 3 = some (6, [], .if_icmp .ne 7, [10]) ∧ px_at 107 6 = some (7, [], .iload_n 0, []) ∧ px_at 107 7 = some (10, [], .goto 4, [11]) ∧ px_at 107 10 = some (11, [], .iconst 0, []) ∧ px_at 107 11 = some (13, [], .istore 4, []) ∧ px_at 107 13 = some (14, [], .iconst 0, []) ∧ px_at 107 14 = some (16, [], .istore 5, []) ∧ px_at 107 16 = some (18, [1, 1, 1, 0, 1, 1, 0, 0, 0], .iload 5, []) ∧ px_at 107 18 = some (20, [], .bipush 12, []) ∧ px_at 107 20 = some (23, [], .if_icmp .ge 115, [135]) ∧ px_at 107 23 = some (24, [], .lload_n 2, []) ∧ px_at 107 24 = some (26, [], .iload 5, []) ∧ px_at 107 26 = some (29, [], .invokestatic 45, [61, 2, 0, 167]) ∧ px_at 107 29 = some (31, [], .istore 6, []) ∧ px_at 107 31 = some (33, [], .iload 6, []) ∧ px_at 107 33 = some (34, [], .iconst 1, []) ∧ px_at 107 34 = some (37, [], .if_icmp .le 7, [41]) ∧ px_at 107 37 = some (38, [], .iconst 1, []) ∧ px_at 107 38 = some (41, [], .goto 4, [42]) ∧ px_at 107 41 = some (42, [], .iconst 0, []) ∧ px_at 107 42 = some (44, [], .istore 7, []) ∧ px_at 107 44 = some (45, [], .iload_n 1, []) ∧ px_at 107 45 = some (47, [], .bipush 42, []) ∧ px_at 107 47 = some (50, [], .if_icmp .ne 27, [74]) ∧ px_at 107 50 = some (52, [], .iload 7, []) ∧ px_at 107 52 = some (55, [], .ifCond .eq 22, [74]) ∧ px_at 107 55 = some (57, [], .iload 4, []) ∧ px_at 107 57 = some (59, [], .iload 5, []) ∧ px_at 107 59 = some (60, [], .iushr, []) ∧ px_at 107 60 = some (61, [], .iconst 1, []) ∧ px_at 107 61 = some (62, [], .iand, []) ∧ px_at 107 62 = some (65, [], .ifCond .eq 12, [74]) ∧ px_at 107 65 = some (67, [], .iload 4, []) ∧ px_at 107 67 = some (68, [], .iconst 2, []) ∧ px_at 107 68 = some (70, [], .iload 5, []) ∧ px_at 107 70 = some (71, [], .ishl, []) ∧ px_at 107 71 = some (72, [], .ior, []) ∧ px_at 107 72 = some (74, [], .istore 4, []) ∧ px_at 107 74 = some (75, [], .iload_n 1, []) ∧ px_at 107 75 = some (77, [], .bipush 63, []) ∧ px_at 107 77 = some (80, [], .if_icmp .ne 8, [85]) ∧ px_at 107 80 = some (82, [], .iload 7, []) ∧ px_at 107 82 = some (85, [], .goto 22, [104]) ∧ px_at 107 85 = some (87, [], .iload 6, []) ∧ px_at 107 87 = some (90, [], .ifCond .eq 16, [103]) ∧ px_at 107 90 = some (92, [], .iload 6, []) ∧ px_at 107 92 = some (93, [], .iload_n 1, []) ∧ px_at 107 93 = some (96, [], .invokestatic 23, [60, 1, 0, 30]) ∧ px_at 107 96 = some (99, [], .if_icmp .ne 7, [103]) ∧ px_at 107 99 = some (100, [], .iconst 1, []) ∧ px_at 107 100 = some (103, [], .goto 4, [104]) ∧ px_at 107 103 = some (104, [], .iconst 0, []) ∧ px_at 107 104 = some (106, [], .istore 8, []) ∧ px_at 107 106 = some (108, [], .iload 8, []) ∧ px_at 107 108 = some (111, [], .ifCond .eq 21, [129]) ∧ px_at 107 111 = some (112, [], .iload_n 0, []) ∧ px_at 107 112 = some (114, [], .iload 5, []) ∧ px_at 107 114 = some (115, [], .iushr, []) ∧ px_at 107 115 = some (116, [], .iconst 1, []) ∧ px_at 107 116 = some (117, [], .iand, []) ∧ px_at 107 117 = some (120, [], .ifCond .eq 12, [129]) ∧ px_at 107 120 = some (122, [], .iload 4, []) ∧ px_at 107 122 = some (123, [], .iconst 2, []) ∧ px_at 107 123 = some (125, [], .iload 5, []) ∧ px_at 107 125 = some (126, [], .ishl, []) ∧ px_at 107 126 = some (127, [], .ior, []) ∧ px_at 107 127 = some (129, [], .istore 4, []) ∧ px_at 107 129 = some (132, [], .iinc 5 1, []) ∧ px_at 107 132 = some (135, [], .goto (-116), [16]) ∧ px_at 107 135 = some (137, [], .iload 4, []) ∧ px_at 107 137 = some (138, [], .ireturn, [0]) := ⟨rfl, rfl, rfl, rfl, rfl, rfl, rfl, rfl, rfl, rfl, rfl, rfl, rfl, rfl, rfl, rfl, rfl, rfl, rfl, rfl, rfl, rfl, rfl, rfl, rfl, rfl, rfl, rfl, rfl, rfl, rfl, rfl, rfl, rfl, rfl, rfl, rfl, rfl, rfl, rfl, rfl, rfl, rfl, rfl, rfl, rfl, rfl, rfl, rfl, rfl, rfl, rfl, rfl, rfl, rfl, rfl, rfl, rfl, rfl, rfl, rfl, rfl, rfl, rfl, rfl, rfl, rfl, rfl, rfl, rfl, rfl, rfl, rfl⟩
def lst (f : Int → Int) (n : Int) : List Int := (List.range n.toNat).map (fun k : Nat => f (k : Int))
theorem lst_len {f : Int → Int} {n : Int} (h : 0 ≤ n) : ((lst f n).length : Int) = n := by unfold lst; rw [List.length_map, List.length_range]; omega
theorem lst_lenN (f : Int → Int) (n : Int) : (lst f n).length = n.toNat := by unfold lst; rw [List.length_map, List.length_range]
theorem lst_get {f : Int → Int} {n : Int} {k : Nat} (h : (k : Int) < n) : (lst f n)[k]? = some (f k) := by
  unfold lst
  rw [List.getElem?_map, List.getElem?_range (by omega)]
  rfl
theorem lst_get_none {f : Int → Int} {n : Int} {k : Nat} (h : n ≤ (k : Int)) : (lst f n)[k]? = none := by
  rw [List.getElem?_eq_none_iff, lst_lenN]
  omega
theorem lst_drop {f : Int → Int} {n k : Int} (h0 : 0 ≤ k) (h : k < n) : (lst f n).drop k.toNat = f k :: (lst f n).drop (k + 1).toNat := by
  have hl := lst_lenN f n
  rw [show (k + 1).toNat = k.toNat + 1 by omega]
  rw [List.drop_eq_getElem_cons (by omega)]
  congr 1
  have := lst_get (f := f) (n := n) (k := k.toNat) (by omega)
  rw [Int.toNat_of_nonneg h0] at this
  rw [List.getElem?_eq_getElem (by omega)] at this
  exact Option.some.inj this
theorem lst_take {f : Int → Int} {n k : Int} (h0 : 0 ≤ k) (h : k ≤ n) : (lst f n).take k.toNat = lst f k := by
  apply List.ext_getElem?
  intro i
  rw [List.getElem?_take]
  by_cases hi : (i : Int) < k
  · rw [if_pos (by omega), lst_get hi, lst_get (by omega)]
  · rw [if_neg (by omega), lst_get_none (by omega)]
theorem lst_snoc {f : Int → Int} {k : Int} (h0 : 0 ≤ k) : lst f (k + 1) = lst f k ++ [f k] := by
  unfold lst
  rw [show (k + 1).toNat = k.toNat + 1 by omega, List.range_succ, List.map_append]
  simp only [List.map_cons, List.map_nil]
  rw [Int.toNat_of_nonneg h0]
theorem lst_congr {f g : Int → Int} {n : Int} (h : ∀ k, 0 ≤ k → k < n → f k = g k) : lst f n = lst g n := by
  unfold lst
  apply List.map_congr_left
  intro k hk
  have := List.mem_range.mp hk
  exact h k (by omega) (by omega)
theorem lst_mem {f : Int → Int} {n b : Int} : b ∈ lst f n ↔ ∃ k, 0 ≤ k ∧ k < n ∧ f k = b := by
  unfold lst
  rw [List.mem_map]
  constructor
  · rintro ⟨k, h1, h2⟩
    have := List.mem_range.mp h1
    exact ⟨k, by omega, by omega, h2⟩
  · rintro ⟨k, h1, h2, h3⟩
    exact ⟨k.toNat, List.mem_range.mpr (by omega), by rw [Int.toNat_of_nonneg h1]; exact h3⟩
/-- a path, behind a sign -/
def pthF : Int → List Int → Prop
  | b, [] => b ≠ 1
  | b, x :: l => sg x ≠ 0 ∧ ¬ (sg x = 1 ∧ b = 1) ∧ pthF (sg x) l
def isP (l : List Int) : Prop := pthF 1 l
theorem pthF_okl {b : Int} {l : List Int} (h : pthF b l) : okl l := by
  induction l generalizing b with
  | nil => exact okl_nil
  | cons x l ih => exact okl_cons.mpr ⟨h.1, ih h.2.2⟩
theorem isP_okl {l : List Int} (h : isP l) : okl l := pthF_okl h
theorem isP_ne {l : List Int} (h : isP l) : l ≠ [] := fun e => by subst e; exact h rfl
theorem enc_snoc {a : List Int} {b : Int} (h : a.length < 12) : px_lor (enc a) (px_lshl (sg b) (55 - 5 * (a.length : Int))) = enc (a ++ [b]) := by
  have hs := sg_rng b
  have h1 : enc (a ++ [b]) = enc a + sg b * P32 (11 - a.length) := by
    have := encF_app (d := 12) (a := a) (b := [b]) (by omega)
    rw [show enc (a ++ [b]) = _ from this, show 12 - a.length = (11 - a.length) + 1 by omega]
    show enc a + (sg b * P32 (11 - a.length) + encF (11 - a.length) []) = _
    rw [encF_nil, Int.add_zero]
  have hP := P32_pos (11 - a.length)
  have hle : P32 (11 - a.length) ≤ P32 11 := by
    rw [P32_2, P32_2]; exact p2_le (by omega)
  have h11 : P32 11 = 36028797018963968 := by decide
  have hm : sg b * P32 (11 - a.length) ≤ 27 * P32 (11 - a.length) := Int.mul_le_mul_of_nonneg_right hs.2 (Int.le_of_lt hP)
  have hm0 : 0 ≤ sg b * P32 (11 - a.length) := Int.mul_nonneg hs.1 (Int.le_of_lt hP)
  have h2 : px_lshl (sg b) (55 - 5 * (a.length : Int)) = sg b * P32 (11 - a.length) := by
    rw [lshl_eq (by omega) (by omega) hs.1 (by omega), show (55 - 5 * (a.length : Int)).toNat = 5 * (11 - a.length) by omega, ← P32_2, Int.bmod_eq_of_le (by omega) (by omega)]
  have ht := enc_rng a
  have h3 : enc a = encF a.length a * P32 (12 - a.length) := by
    have := encF_up (d := a.length) (l := a) (12 - a.length) (by omega)
    rw [show a.length + (12 - a.length) = 12 by omega] at this
    exact this
  have hP12 : P32 (12 - a.length) = 32 * P32 (11 - a.length) := by rw [show 12 - a.length = (11 - a.length) + 1 by omega, P32_s]
  rw [h1, h2, lor_add (n := 5 * (12 - a.length)) ht.1 (by omega) (by rw [← P32_2, h3]; exact Int.mul_emod_left _ _) hm0 (by rw [← P32_2, hP12]; omega) (by omega)]
section PS
variable {M : px_mem} {Q : Option pv → px_mem → Prop}
set_option maxHeartbeats 4000000 in
set_option maxRecDepth 100000 in
theorem lp_pathFrom {s n : Int} (h0 : 0 ≤ s) (hn0 : 0 ≤ n) (hn : n ≤ 12) (hs : s + n ≤ M 2 1) (hsz : M 2 1 ≤ 160) (h1 : isP (lst (fun k => M 3 (s + k)) n) → Q (some (1, enc (lst (fun k => M 3 (s + k)) n))) M) (h2 : ¬ isP (lst (fun k => M 3 (s + k)) n) → Q (some (1, 0)) M) (k : Int) (hk : k ≤ n) : 0 ≤ k → ∀ b, (isP (lst (fun k => M 3 (s + k)) n) ↔ pthF b ((lst (fun k => M 3 (s + k)) n).drop k.toNat)) → px_WP 103 0 0 (px_Q0 LAY Q) 8 [(2, 2), (0, s), (0, n), (1, enc (lst (fun k => M 3 (s + k)) k)), (9, 0), (0, b), (0, k), (9, 0)] [] LAY M 0 0 := by
  refine up_ind (P := fun k => 0 ≤ k → ∀ b, (isP (lst (fun k => M 3 (s + k)) n) ↔ pthF b ((lst (fun k => M 3 (s + k)) n).drop k.toNat)) → px_WP 103 0 0 (px_Q0 LAY Q) 8 [(2, 2), (0, s), (0, n), (1, enc (lst (fun k => M 3 (s + k)) k)), (9, 0), (0, b), (0, k), (9, 0)] [] LAY M 0 0) n (fun k hk ih hk0 b hb => ?_) k hk
  have hfin : k = n → (isP (lst (fun k => M 3 (s + k)) n) ↔ b ≠ 1) := by
    intro e
    rw [hb, List.drop_eq_nil_of_le (by rw [lst_lenN]; omega)]
    rfl
  refine px_go_ok (inl := []) 60 ?_
  simp only [px_go, px_Q0_at, px_sx_0, px_sx_s, px_cl, px_step, ↓px_ll, px_lg, f4_, ↓px_r1, ↓px_r2, ↓px_r4, ↓px_r5, ↓px_p1, ↓px_p2, ↓px_p3, ↓px_pop, px_k_0, px_k_s, px_k3_0, px_stk_, px_cats, px_ent, px_st1, px_st2, px_mask, ↓px_tsw, ↓px_lsw, ct_, mls_0, mls_1, mls_2, mls_3, mls_4, mls_5, kd_0, kd_1, kd_2, kd_3, ln_0, ln_1, ln_2, ln_3, gf_0, gf_1, gf_2, gf_3, gf_4, gf_7, gf_21, gf_63, dy_0, dy_1, dy_2, dy_3, dy_7, dy_21, px_brT, px_brF, true_and, and_true, and_false, false_and, and_self, true_implies, false_implies, or_true, true_or, or_false, false_or, eq_self, ne_eq, not_false_eq_true, not_true_eq_false, if_true, if_false, List.mem_cons, List.not_mem_nil, List.length_cons, List.length_nil, Nat.reduceEqDiff, Nat.reduceAdd, Nat.reduceSub, Nat.reduceLeDiff, Nat.reduceLT, Int.reduceEq, Int.reduceLT, Int.reduceLE, Int.reduceNeg, Int.reduceAdd, Int.reduceSub, Int.reduceToNat, ↓reduceIte, one_ne_zero_, zero_ne_one_, px_in32L, cd_103]
  repeat' (first | (with_reducible apply And.intro) | (with_reducible refine px_br_intro (fun _ => ?_) (fun _ => ?_)))
  all_goals (try (first | (unfold px_in32; omega) | omega))
  · rename_i c1 c2; exact h2 (fun h => (hfin (by omega)).mp h c2)
  · rename_i c1 c2
    rw [show k = n by omega]
    exact h1 ((hfin (by omega)).mpr c2)
  · rename_i c1
    rw [lst_drop hk0 (by omega)] at hb
    refine sp_signOf ?_
    simp only [px_go, px_Q0_at, px_sx_0, px_sx_s, px_cl, px_step, ↓px_ll, px_lg, f4_, ↓px_r1, ↓px_r2, ↓px_r4, ↓px_r5, ↓px_p1, ↓px_p2, ↓px_p3, ↓px_pop, px_k_0, px_k_s, px_k3_0, px_stk_, px_cats, px_ent, px_st1, px_st2, px_mask, ↓px_tsw, ↓px_lsw, ct_, mls_0, mls_1, mls_2, mls_3, mls_4, mls_5, kd_0, kd_1, kd_2, kd_3, ln_0, ln_1, ln_2, ln_3, gf_0, gf_1, gf_2, gf_3, gf_4, gf_7, gf_21, gf_63, dy_0, dy_1, dy_2, dy_3, dy_7, dy_21, px_brT, px_brF, true_and, and_true, and_false, false_and, and_self, true_implies, false_implies, or_true, true_or, or_false, false_or, eq_self, ne_eq, not_false_eq_true, not_true_eq_false, if_true, if_false, List.mem_cons, List.not_mem_nil, List.length_cons, List.length_nil, Nat.reduceEqDiff, Nat.reduceAdd, Nat.reduceSub, Nat.reduceLeDiff, Nat.reduceLT, Int.reduceEq, Int.reduceLT, Int.reduceLE, Int.reduceNeg, Int.reduceAdd, Int.reduceSub, Int.reduceToNat, ↓reduceIte, one_ne_zero_, zero_ne_one_, px_in32L, cd_103]
    repeat' (first | (with_reducible apply And.intro) | (with_reducible refine px_br_intro (fun _ => ?_) (fun _ => ?_)))
    all_goals (try (first | (unfold px_in32; omega) | omega))
    · rename_i c3; exact h2 (fun h => (hb.mp h).1 c3)
    · rename_i c3 c4 c5; exact h2 (fun h => (hb.mp h).2.1 ⟨c4, c5⟩)
    · rename_i c3 c4 c5
      
      refine sp_withSign ?_
      simp only [px_go, px_Q0_at, px_sx_0, px_sx_s, px_cl, px_step, ↓px_ll, px_lg, f4_, ↓px_r1, ↓px_r2, ↓px_r4, ↓px_r5, ↓px_p1, ↓px_p2, ↓px_p3, ↓px_pop, px_k_0, px_k_s, px_k3_0, px_stk_, px_cats, px_ent, px_st1, px_st2, px_mask, ↓px_tsw, ↓px_lsw, ct_, mls_0, mls_1, mls_2, mls_3, mls_4, mls_5, kd_0, kd_1, kd_2, kd_3, ln_0, ln_1, ln_2, ln_3, gf_0, gf_1, gf_2, gf_3, gf_4, gf_7, gf_21, gf_63, dy_0, dy_1, dy_2, dy_3, dy_7, dy_21, px_brT, px_brF, true_and, and_true, and_false, false_and, and_self, true_implies, false_implies, or_true, true_or, or_false, false_or, eq_self, ne_eq, not_false_eq_true, not_true_eq_false, if_true, if_false, List.mem_cons, List.not_mem_nil, List.length_cons, List.length_nil, Nat.reduceEqDiff, Nat.reduceAdd, Nat.reduceSub, Nat.reduceLeDiff, Nat.reduceLT, Int.reduceEq, Int.reduceLT, Int.reduceLE, Int.reduceNeg, Int.reduceAdd, Int.reduceSub, Int.reduceToNat, ↓reduceIte, one_ne_zero_, zero_ne_one_, px_in32L, cd_103]
      repeat' (first | (with_reducible apply And.intro) | (with_reducible refine px_br_intro (fun _ => ?_) (fun _ => ?_)))
      all_goals (try (first | (unfold px_in32; omega) | omega))
      rw [if_pos (by omega)]
      have := ih (by omega) (by omega) (sg (M 3 (s + k))) (by rw [hb]; exact ⟨fun h => h.2.2, fun h => ⟨c3, fun e => c5 e.2, h⟩⟩)
      rw [lst_snoc hk0, ← enc_snoc (by rw [lst_lenN]; omega), lst_len hk0] at this
      exact this
    · rename_i c3 c4
      refine sp_withSign ?_
      simp only [px_go, px_Q0_at, px_sx_0, px_sx_s, px_cl, px_step, ↓px_ll, px_lg, f4_, ↓px_r1, ↓px_r2, ↓px_r4, ↓px_r5, ↓px_p1, ↓px_p2, ↓px_p3, ↓px_pop, px_k_0, px_k_s, px_k3_0, px_stk_, px_cats, px_ent, px_st1, px_st2, px_mask, ↓px_tsw, ↓px_lsw, ct_, mls_0, mls_1, mls_2, mls_3, mls_4, mls_5, kd_0, kd_1, kd_2, kd_3, ln_0, ln_1, ln_2, ln_3, gf_0, gf_1, gf_2, gf_3, gf_4, gf_7, gf_21, gf_63, dy_0, dy_1, dy_2, dy_3, dy_7, dy_21, px_brT, px_brF, true_and, and_true, and_false, false_and, and_self, true_implies, false_implies, or_true, true_or, or_false, false_or, eq_self, ne_eq, not_false_eq_true, not_true_eq_false, if_true, if_false, List.mem_cons, List.not_mem_nil, List.length_cons, List.length_nil, Nat.reduceEqDiff, Nat.reduceAdd, Nat.reduceSub, Nat.reduceLeDiff, Nat.reduceLT, Int.reduceEq, Int.reduceLT, Int.reduceLE, Int.reduceNeg, Int.reduceAdd, Int.reduceSub, Int.reduceToNat, ↓reduceIte, one_ne_zero_, zero_ne_one_, px_in32L, cd_103]
      repeat' (first | (with_reducible apply And.intro) | (with_reducible refine px_br_intro (fun _ => ?_) (fun _ => ?_)))
      all_goals (try (first | (unfold px_in32; omega) | omega))
      rw [if_pos (by omega)]
      have := ih (by omega) (by omega) (sg (M 3 (s + k))) (by rw [hb]; exact ⟨fun h => h.2.2, fun h => ⟨c3, fun e => c4 e.1, h⟩⟩)
      rw [lst_snoc hk0, ← enc_snoc (by rw [lst_lenN]; omega), lst_len hk0] at this
      exact this
set_option maxHeartbeats 4000000 in
set_option maxRecDepth 100000 in
theorem sp_pathFrom {s n : Int} (h0 : 0 ≤ s) (hn0 : 0 ≤ n) (hn : n ≤ 12) (hs : s + n ≤ M 2 1) (hsz : M 2 1 ≤ 160) (h1 : isP (lst (fun k => M 3 (s + k)) n) → Q (some (1, enc (lst (fun k => M 3 (s + k)) n))) M) (h2 : ¬ isP (lst (fun k => M 3 (s + k)) n) → Q (some (1, 0)) M) : px_Ok 103 [(2, 2), (0, s), (0, n)] LAY M Q := by
  refine px_ok_go (inl := []) (ls0 := [(2, 2), (0, s), (0, n), (9, 0), (9, 0), (9, 0), (9, 0), (9, 0)]) 40 (by decide) (Nat.le_of_ble_eq_true rfl) rfl ?_
  simp only [px_go, px_Q0_at, px_sx_0, px_sx_s, px_cl, px_step, ↓px_ll, px_lg, f4_, ↓px_r1, ↓px_r2, ↓px_r4, ↓px_r5, ↓px_p1, ↓px_p2, ↓px_p3, ↓px_pop, px_k_0, px_k_s, px_k3_0, px_stk_, px_cats, px_ent, px_st1, px_st2, px_mask, ↓px_tsw, ↓px_lsw, ct_, mls_0, mls_1, mls_2, mls_3, mls_4, mls_5, kd_0, kd_1, kd_2, kd_3, ln_0, ln_1, ln_2, ln_3, gf_0, gf_1, gf_2, gf_3, gf_4, gf_7, gf_21, gf_63, dy_0, dy_1, dy_2, dy_3, dy_7, dy_21, px_brT, px_brF, true_and, and_true, and_false, false_and, and_self, true_implies, false_implies, or_true, true_or, or_false, false_or, eq_self, ne_eq, not_false_eq_true, not_true_eq_false, if_true, if_false, List.mem_cons, List.not_mem_nil, List.length_cons, List.length_nil, Nat.reduceEqDiff, Nat.reduceAdd, Nat.reduceSub, Nat.reduceLeDiff, Nat.reduceLT, Int.reduceEq, Int.reduceLT, Int.reduceLE, Int.reduceNeg, Int.reduceAdd, Int.reduceSub, Int.reduceToNat, ↓reduceIte, one_ne_zero_, zero_ne_one_, px_in32L, cd_103]
  have := lp_pathFrom h0 hn0 hn hs hsz h1 h2 0 hn0 (Int.le_refl 0) 1 (by rw [Int.toNat_zero, List.drop_zero]; rfl)
  exact this
end PS
