/-! EditionVault.Stage: files in order; a file is a path and its bytes -/
set_option maxRecDepth 100000 in
/-- X8_hasFile -/
theorem cd_84 : px_at 84 0 = some (1, [], .iload_n 1, []) ∧ px_at 84 1 = some (4, [], .ifCond .lt 15, [16]) ∧ px_at 84 4 = some (5, [], .iload_n 1, []) ∧ px_at 84 5 = some (6, [], .aload_n 0, []) ∧ px_at 84 6 = some (9, [], .getfield 31, [7, 3, 0, 0, 11]) ∧ px_at 84 9 = some (12, [], .if_icmp .ge 7, [16]) ∧ px_at 84 12 = some (13, [], .iconst 1, []) ∧ px_at 84 13 = some (16, [], .goto 4, [17]) ∧ px_at 84 16 = some (17, [], .iconst 0, []) ∧ px_at 84 17 = some (18, [], .ireturn, [4]) := ⟨rfl, rfl, rfl, rfl, rfl, rfl, rfl, rfl, rfl, rfl⟩
set_option maxRecDepth 100000 in
/-- X8_placeOf -/
theorem cd_85 : px_at 85 0 = some (1, [], .aload_n 0, []) ∧ px_at 85 1 = some (4, [], .getfield 9, [7, 0, 2, 1, 4]) ∧ px_at 85 4 = some (5, [], .aload_n 0, []) ∧ px_at 85 5 = some (8, [], .getfield 31, [7, 3, 0, 0, 11]) ∧ px_at 85 8 = some (9, [], .lload_n 1, []) ∧ px_at 85 9 = some (12, [], .invokestatic 34, [67, 3, 0, 34]) ∧ px_at 85 12 = some (13, [], .ireturn, [0]) := ⟨rfl, rfl, rfl, rfl, rfl, rfl, rfl⟩
set_option maxRecDepth 100000 in
/-- X8_filesWithin -/
theorem cd_86 : px_at 86 0 = some (1, [], .aload_n 0, []) ∧ px_at 86 1 = some (4, [], .getfield 9, [7, 0, 2, 1, 4]) ∧ px_at 86 4 = some (5, [], .aload_n 0, []) ∧ px_at 86 5 = some (8, [], .getfield 31, [7, 3, 0, 0, 11]) ∧ px_at 86 8 = some (9, [], .lload_n 1, []) ∧ px_at 86 9 = some (12, [], .invokestatic 40, [68, 3, 0, 52]) ∧ px_at 86 12 = some (13, [], .ireturn, [0]) := ⟨rfl, rfl, rfl, rfl, rfl, rfl, rfl⟩
set_option maxRecDepth 100000 in
/-- X8_meets -/
theorem cd_87 : px_at 87 0 = some (1, [], .iconst 0, []) ∧ px_at 87 1 = some (3, [], .istore 5, []) ∧ px_at 87 3 = some (5, [1, 1, 0, 1, 0, 1, 0], .iload 5, []) ∧ px_at 87 5 = some (6, [], .aload_n 0, []) ∧ px_at 87 6 = some (9, [], .getfield 31, [7, 3, 0, 0, 11]) ∧ px_at 87 9 = some (12, [], .if_icmp .ge 57, [66]) ∧ px_at 87 12 = some (13, [], .aload_n 0, []) ∧ px_at 87 13 = some (16, [], .getfield 9, [7, 0, 2, 1, 4]) ∧ px_at 87 16 = some (18, [], .iload 5, []) ∧ px_at 87 18 = some (19, [], .laload, []) ∧ px_at 87 19 = some (20, [], .lload_n 3, []) ∧ px_at 87 20 = some (23, [], .invokestatic 43, [66, 2, 0, 37]) ∧ px_at 87 23 = some (25, [], .istore 6, []) ∧ px_at 87 25 = some (27, [], .iload 6, []) ∧ px_at 87 27 = some (30, [], .ifCond .ne 33, [60]) ∧ px_at 87 30 = some (31, [], .aload_n 0, []) ∧ px_at 87 31 = some (34, [], .getfield 9, [7, 0, 2, 1, 4]) ∧ px_at 87 34 = some (36, [], .iload 5, []) ∧ px_at 87 36 = some (37, [], .laload, []) ∧ px_at 87 37 = some (38, [], .lload_n 1, []) ∧ px_at 87 38 = some (41, [], .invokestatic 43, [66, 2, 0, 37]) ∧ px_at 87 41 = some (44, [], .ifCond .ne 17, [58]) ∧ px_at 87 44 = some (45, [], .aload_n 0, []) ∧ px_at 87 45 = some (48, [], .getfield 9, [7, 0, 2, 1, 4]) ∧ px_at 87 48 = some (50, [], .iload 5, []) ∧ px_at 87 50 = some (51, [], .laload, []) ∧ px_at 87 51 = some (52, [], .lload_n 1, []) ∧ px_at 87 52 = some (55, [], .invokestatic 47, [65, 2, 0, 41]) ∧ px_at 87 55 = some (58, [], .ifCond .eq 5, [60]) ∧ px_at 87 58 = some (59, [], .iconst 1, []) ∧ px_at 87 59 = some (60, [], .ireturn, [4]) ∧ px_at 87 60 = some (63, [], .iinc 5 1, []) ∧ px_at 87 63 = some (66, [], .goto (-60), [3]) ∧ px_at 87 66 = some (67, [], .iconst 0, []) ∧ px_at 87 67 = some (68, [], .ireturn, [4]) := ⟨rfl, rfl, rfl, rfl, rfl, rfl, rfl, rfl, rfl, rfl, rfl, rfl, rfl, rfl, rfl, rfl, rfl, rfl, rfl, rfl, rfl, rfl, rfl, rfl, rfl, rfl, rfl, rfl, rfl, rfl, rfl, rfl, rfl, rfl, rfl⟩
set_option maxRecDepth 100000 in
/-- X8_putFile -/
theorem cd_88 : px_at 88 0 = some (1, [], .lload_n 1, []) ∧ px_at 88 1 = some (2, [], .lconst 0, []) ∧ px_at 88 2 = some (3, [], .lcmp, []) ∧ px_at 88 3 = some (6, [], .ifCond .ne 6, [9]) ∧ px_at 88 6 = some (8, [], .bipush (-2), []) ∧ px_at 88 8 = some (9, [], .ireturn, [0]) ∧ px_at 88 9 = some (10, [], .aload_n 0, []) ∧ px_at 88 10 = some (11, [], .lload_n 1, []) ∧ px_at 88 11 = some (14, [], .invokevirtual 50, [85, 1, 7, 33]) ∧ px_at 88 14 = some (16, [], .istore 6, []) ∧ px_at 88 16 = some (18, [], .iload 6, []) ∧ px_at 88 18 = some (21, [], .ifCond .lt 19, [37]) ∧ px_at 88 21 = some (22, [], .aload_n 0, []) ∧ px_at 88 22 = some (24, [], .iload 6, []) ∧ px_at 88 24 = some (25, [], .aload_n 3, []) ∧ px_at 88 25 = some (27, [], .iload 4, []) ∧ px_at 88 27 = some (29, [], .iload 5, []) ∧ px_at 88 29 = some (32, [], .invokevirtual 54, [90, 4, 7, 35]) ∧ px_at 88 32 = some (33, [], .aload_n 0, []) ∧ px_at 88 33 = some (36, [], .getfield 31, [7, 3, 0, 0, 11]) ∧ px_at 88 36 = some (37, [], .ireturn, [0]) ∧ px_at 88 37 = some (38, [], .aload_n 0, []) ∧ px_at 88 38 = some (39, [], .lload_n 1, []) ∧ px_at 88 39 = some (40, [], .lconst 0, []) ∧ px_at 88 40 = some (43, [], .invokevirtual 58, [87, 2, 7, 36]) ∧ px_at 88 43 = some (46, [], .ifCond .eq 6, [49]) ∧ px_at 88 46 = some (48, [], .bipush (-3), []) ∧ px_at 88 48 = some (49, [], .ireturn, [0]) ∧ px_at 88 49 = some (50, [], .aload_n 0, []) ∧ px_at 88 50 = some (53, [], .getfield 31, [7, 3, 0, 0, 11]) ∧ px_at 88 53 = some (55, [], .bipush 12, []) ∧ px_at 88 55 = some (58, [], .if_icmp .lt 6, [61]) ∧ px_at 88 58 = some (60, [], .bipush (-4), []) ∧ px_at 88 60 = some (61, [], .ireturn, [0]) ∧ px_at 88 61 = some (62, [], .aload_n 0, []) ∧ px_at 88 62 = some (63, [], .lload_n 1, []) ∧ px_at 88 63 = some (64, [], .aload_n 3, []) ∧ px_at 88 64 = some (66, [], .iload 4, []) ∧ px_at 88 66 = some (68, [], .iload 5, []) ∧ px_at 88 68 = some (71, [], .invokevirtual 61, [89, 4, 7, 42]) ∧ px_at 88 71 = some (72, [], .aload_n 0, []) ∧ px_at 88 72 = some (75, [], .invokevirtual 65, [91, 0, 7, 43]) ∧ px_at 88 75 = some (76, [], .aload_n 0, []) ∧ px_at 88 76 = some (79, [], .getfield 31, [7, 3, 0, 0, 11]) ∧ px_at 88 79 = some (80, [], .ireturn, [0]) := ⟨rfl, rfl, rfl, rfl, rfl, rfl, rfl, rfl, rfl, rfl, rfl, rfl, rfl, rfl, rfl, rfl, rfl, rfl, rfl, rfl, rfl, rfl, rfl, rfl, rfl, rfl, rfl, rfl, rfl, rfl, rfl, rfl, rfl, rfl, rfl, rfl, rfl, rfl, rfl, rfl, rfl, rfl, rfl, rfl, rfl⟩
set_option maxRecDepth 100000 in
/-- X8_append -/
theorem cd_89 : px_at 89 0 = some (1, [], .aload_n 0, []) ∧ px_at 89 1 = some (4, [], .getfield 31, [7, 3, 0, 0, 11]) ∧ px_at 89 4 = some (6, [], .bipush 12, []) ∧ px_at 89 6 = some (9, [], .if_icmp .ge 36, [42]) ∧ px_at 89 9 = some (10, [], .aload_n 0, []) ∧ px_at 89 10 = some (13, [], .getfield 9, [7, 0, 2, 1, 4]) ∧ px_at 89 13 = some (14, [], .aload_n 0, []) ∧ px_at 89 14 = some (17, [], .getfield 31, [7, 3, 0, 0, 11]) ∧ px_at 89 17 = some (18, [], .lload_n 1, []) ∧ px_at 89 18 = some (19, [], .lastore, []) ∧ px_at 89 19 = some (20, [], .aload_n 0, []) ∧ px_at 89 20 = some (21, [], .aload_n 0, []) ∧ px_at 89 21 = some (24, [], .getfield 31, [7, 3, 0, 0, 11]) ∧ px_at 89 24 = some (25, [], .aload_n 3, []) ∧ px_at 89 25 = some (27, [], .iload 4, []) ∧ px_at 89 27 = some (29, [], .iload 5, []) ∧ px_at 89 29 = some (32, [], .invokevirtual 54, [90, 4, 7, 35]) ∧ px_at 89 32 = some (33, [], .aload_n 0, []) ∧ px_at 89 33 = some (34, [], .dup, []) ∧ px_at 89 34 = some (37, [], .getfield 31, [7, 3, 0, 0, 11]) ∧ px_at 89 37 = some (38, [], .iconst 1, []) ∧ px_at 89 38 = some (39, [], .iadd, []) ∧ px_at 89 39 = some (42, [], .putfield 31, [7, 3, 0, 0, 11]) ∧ px_at 89 42 = some (43, [], .return_, []) := ⟨rfl, rfl, rfl, rfl, rfl, rfl, rfl, rfl, rfl, rfl, rfl, rfl, rfl, rfl, rfl, rfl, rfl, rfl, rfl, rfl, rfl, rfl, rfl, rfl⟩
set_option maxRecDepth 100000 in
/-- X8_setBytes -/
theorem cd_90 : px_at 90 0 = some (1, [], .aload_n 0, []) ∧ px_at 90 1 = some (4, [], .getfield 21, [7, 2, 2, 1, 9]) ∧ px_at 90 4 = some (5, [], .iload_n 1, []) ∧ px_at 90 5 = some (6, [], .aaload, []) ∧ px_at 90 6 = some (8, [], .astore 5, []) ∧ px_at 90 8 = some (9, [], .iconst 0, []) ∧ px_at 90 9 = some (11, [], .istore 6, []) ∧ px_at 90 11 = some (13, [1, 1, 1, 1, 1, 1, 1], .iload 6, []) ∧ px_at 90 13 = some (15, [], .iload 4, []) ∧ px_at 90 15 = some (18, [], .if_icmp .ge 37, [52]) ∧ px_at 90 18 = some (20, [], .iload 6, []) ∧ px_at 90 20 = some (22, [], .aload 5, []) ∧ px_at 90 22 = some (23, [], .arraylength, []) ∧ px_at 90 23 = some (26, [], .if_icmp .ge 29, [52]) ∧ px_at 90 26 = some (27, [], .iload_n 3, []) ∧ px_at 90 27 = some (29, [], .iload 6, []) ∧ px_at 90 29 = some (30, [], .iadd, []) ∧ px_at 90 30 = some (31, [], .aload_n 2, []) ∧ px_at 90 31 = some (32, [], .arraylength, []) ∧ px_at 90 32 = some (35, [], .if_icmp .ge 20, [52]) ∧ px_at 90 35 = some (37, [], .aload 5, []) ∧ px_at 90 37 = some (39, [], .iload 6, []) ∧ px_at 90 39 = some (40, [], .aload_n 2, []) ∧ px_at 90 40 = some (41, [], .iload_n 3, []) ∧ px_at 90 41 = some (43, [], .iload 6, []) ∧ px_at 90 43 = some (44, [], .iadd, []) ∧ px_at 90 44 = some (45, [], .iaload, []) ∧ px_at 90 45 = some (46, [], .iastore, []) ∧ px_at 90 46 = some (49, [], .iinc 6 1, []) ∧ px_at 90 49 = some (52, [], .goto (-38), [11]) ∧ px_at 90 52 = some (53, [], .aload_n 0, []) ∧ px_at 90 53 = some (56, [], .getfield 15, [7, 1, 2, 1, 7]) ∧ px_at 90 56 = some (57, [], .iload_n 1, []) ∧ px_at 90 57 = some (59, [], .iload 4, []) ∧ px_at 90 59 = some (60, [], .iastore, []) ∧ px_at 90 60 = some (61, [], .return_, []) := ⟨rfl, rfl, rfl, rfl, rfl, rfl, rfl, rfl, rfl, rfl, rfl, rfl, rfl, rfl, rfl, rfl, rfl, rfl, rfl, rfl, rfl, rfl, rfl, rfl, rfl, rfl, rfl, rfl, rfl, rfl, rfl, rfl, rfl, rfl, rfl, rfl⟩
set_option maxRecDepth 100000 in
/-- X8_sort -/
theorem cd_91 : px_at 91 0 = some (1, [], .iconst 1, []) ∧ px_at 91 1 = some (2, [], .istore_n 1, []) ∧ px_at 91 2 = some (3, [1, 1, 0], .iload_n 1, []) ∧ px_at 91 3 = some (4, [], .aload_n 0, []) ∧ px_at 91 4 = some (7, [], .getfield 31, [7, 3, 0, 0, 11]) ∧ px_at 91 7 = some (10, [], .if_icmp .ge 47, [54]) ∧ px_at 91 10 = some (11, [], .iload_n 1, []) ∧ px_at 91 11 = some (12, [], .istore_n 2, []) ∧ px_at 91 12 = some (13, [1, 1, 1], .iload_n 2, []) ∧ px_at 91 13 = some (16, [], .ifCond .le 35, [48]) ∧ px_at 91 16 = some (17, [], .aload_n 0, []) ∧ px_at 91 17 = some (20, [], .getfield 9, [7, 0, 2, 1, 4]) ∧ px_at 91 20 = some (21, [], .iload_n 2, []) ∧ px_at 91 21 = some (22, [], .laload, []) ∧ px_at 91 22 = some (23, [], .aload_n 0, []) ∧ px_at 91 23 = some (26, [], .getfield 9, [7, 0, 2, 1, 4]) ∧ px_at 91 26 = some (27, [], .iload_n 2, []) ∧ px_at 91 27 = some (28, [], .iconst 1, []) ∧ px_at 91 28 = some (29, [], .isub, []) ∧ px_at 91 29 = some (30, [], .laload, []) ∧ px_at 91 30 = some (31, [], .lcmp, []) ∧ px_at 91 31 = some (34, [], .ifCond .ge 17, [48]) ∧ px_at 91 34 = some (35, [], .aload_n 0, []) ∧ px_at 91 35 = some (36, [], .iload_n 2, []) ∧ px_at 91 36 = some (37, [], .iload_n 2, []) ∧ px_at 91 37 = some (38, [], .iconst 1, []) ∧ px_at 91 38 = some (39, [], .isub, []) ∧ px_at 91 39 = some (42, [], .invokevirtual 68, [92, 2, 7, 44]) ∧ px_at 91 42 = some (45, [], .iinc 2 (-1), []) ∧ px_at 91 45 = some (48, [], .goto (-33), [12]) ∧ px_at 91 48 = some (51, [], .iinc 1 1, []) ∧ px_at 91 51 = some (54, [], .goto (-49), [2]) ∧ px_at 91 54 = some (55, [], .return_, []) := ⟨rfl, rfl, rfl, rfl, rfl, rfl, rfl, rfl, rfl, rfl, rfl, rfl, rfl, rfl, rfl, rfl, rfl, rfl, rfl, rfl, rfl, rfl, rfl, rfl, rfl, rfl, rfl, rfl, rfl, rfl, rfl, rfl, rfl⟩
set_option maxRecDepth 100000 in
/-- X8_swap -/
theorem cd_92 : px_at 92 0 = some (1, [], .aload_n 0, []) ∧ px_at 92 1 = some (4, [], .getfield 9, [7, 0, 2, 1, 4]) ∧ px_at 92 4 = some (5, [], .iload_n 1, []) ∧ px_at 92 5 = some (6, [], .laload, []) ∧ px_at 92 6 = some (7, [], .lstore_n 3, []) ∧ px_at 92 7 = some (8, [], .aload_n 0, []) ∧ px_at 92 8 = some (11, [], .getfield 15, [7, 1, 2, 1, 7]) ∧ px_at 92 11 = some (12, [], .iload_n 1, []) ∧ px_at 92 12 = some (13, [], .iaload, []) ∧ px_at 92 13 = some (15, [], .istore 5, []) ∧ px_at 92 15 = some (16, [], .aload_n 0, []) ∧ px_at 92 16 = some (19, [], .getfield 21, [7, 2, 2, 1, 9]) ∧ px_at 92 19 = some (20, [], .iload_n 1, []) ∧ px_at 92 20 = some (21, [], .aaload, []) ∧ px_at 92 21 = some (23, [], .astore 6, []) ∧ px_at 92 23 = some (24, [], .aload_n 0, []) ∧ px_at 92 24 = some (27, [], .getfield 9, [7, 0, 2, 1, 4]) ∧ px_at 92 27 = some (28, [], .iload_n 1, []) ∧ px_at 92 28 = some (29, [], .aload_n 0, []) ∧ px_at 92 29 = some (32, [], .getfield 9, [7, 0, 2, 1, 4]) ∧ px_at 92 32 = some (33, [], .iload_n 2, []) ∧ px_at 92 33 = some (34, [], .laload, []) ∧ px_at 92 34 = some (35, [], .lastore, []) ∧ px_at 92 35 = some (36, [], .aload_n 0, []) ∧ px_at 92 36 = some (39, [], .getfield 15, [7, 1, 2, 1, 7]) ∧ px_at 92 39 = some (40, [], .iload_n 1, []) ∧ px_at 92 40 = some (41, [], .aload_n 0, []) ∧ px_at 92 41 = some (44, [], .getfield 15, [7, 1, 2, 1, 7]) ∧ px_at 92 44 = some (45, [], .iload_n 2, []) ∧ px_at 92 45 = some (46, [], .iaload, []) ∧ px_at 92 46 = some (47, [], .iastore, []) ∧ px_at 92 47 = some (48, [], .aload_n 0, []) ∧ px_at 92 48 = some (51, [], .getfield 21, [7, 2, 2, 1, 9]) ∧ px_at 92 51 = some (52, [], .iload_n 1, []) ∧ px_at 92 52 = some (53, [], .aload_n 0, []) ∧ px_at 92 53 = some (56, [], .getfield 21, [7, 2, 2, 1, 9]) ∧ px_at 92 56 = some (57, [], .iload_n 2, []) ∧ px_at 92 57 = some (58, [], .aaload, []) ∧ px_at 92 58 = some (59, [], .aastore, []) ∧ px_at 92 59 = some (60, [], .aload_n 0, []) ∧ px_at 92 60 = some (63, [], .getfield 9, [7, 0, 2, 1, 4]) ∧ px_at 92 63 = some (64, [], .iload_n 2, []) ∧ px_at 92 64 = some (65, [], .lload_n 3, []) ∧ px_at 92 65 = some (66, [], .lastore, []) ∧ px_at 92 66 = some (67, [], .aload_n 0, []) ∧ px_at 92 67 = some (70, [], .getfield 15, [7, 1, 2, 1, 7]) ∧ px_at 92 70 = some (71, [], .iload_n 2, []) ∧ px_at 92 71 = some (73, [], .iload 5, []) ∧ px_at 92 73 = some (74, [], .iastore, []) ∧ px_at 92 74 = some (75, [], .aload_n 0, []) ∧ px_at 92 75 = some (78, [], .getfield 21, [7, 2, 2, 1, 9]) ∧ px_at 92 78 = some (79, [], .iload_n 2, []) ∧ px_at 92 79 = some (81, [], .aload 6, []) ∧ px_at 92 81 = some (82, [], .aastore, []) ∧ px_at 92 82 = some (83, [], .return_, []) := ⟨rfl, rfl, rfl, rfl, rfl, rfl, rfl, rfl, rfl, rfl, rfl, rfl, rfl, rfl, rfl, rfl, rfl, rfl, rfl, rfl, rfl, rfl, rfl, rfl, rfl, rfl, rfl, rfl, rfl, rfl, rfl, rfl, rfl, rfl, rfl, rfl, rfl, rfl, rfl, rfl, rfl, rfl, rfl, rfl, rfl, rfl, rfl, rfl, rfl, rfl, rfl, rfl, rfl, rfl, rfl⟩
abbrev fe : Type := List Int × List Int
def srt (n : Int) (g : Int → fe) : Prop := ∀ i j, 0 ≤ i → i < j → j < n → enc (g i).1 < enc (g j).1
def isM (n : Int) (g : Int → fe) (x : fe) : Prop := ∃ i, 0 ≤ i ∧ i < n ∧ g i = x
theorem srt_ne {n : Int} {g : Int → fe} (h : srt n g) {i j : Int} (i0 : 0 ≤ i) (i1 : i < n) (j0 : 0 ≤ j) (j1 : j < n) (e : enc (g i).1 = enc (g j).1) : i = j := by
  rcases (by omega : i < j ∨ i = j ∨ j < i) with c | c | c
  · have := h i j i0 c j1; omega
  · exact c
  · have := h j i j0 c i1; omega
theorem srt_uniq1 {n m : Int} {g h : Int → fe} (hg : srt n g) (hh : srt m h) (hm : ∀ x, isM n g x ↔ isM m h x) : ∀ (k : Nat) (i : Int), 0 ≤ i → i < n → i ≤ k → i < m ∧ g i = h i := by
  intro k
  induction k with
  | zero =>
    intro i i0 i1 i2
    obtain ⟨j, j0, j1, j2⟩ := (hm (g i)).mp ⟨i, i0, i1, rfl⟩
    refine ⟨by omega, ?_⟩
    obtain ⟨l, l0, l1, l2⟩ := (hm (h i)).mpr ⟨i, i0, by omega, rfl⟩
    by_cases e : j = i
    · rw [e] at j2; exact j2.symm
    · have a := hh i j i0 (by omega) j1
      rw [j2] at a
      rw [← l2] at a
      by_cases e2 : i = l
      · rw [← e2] at a; omega
      · have := hg i l i0 (by omega) l1; omega
  | succ k ih =>
    intro i i0 i1 i2
    obtain ⟨j, j0, j1, j2⟩ := (hm (g i)).mp ⟨i, i0, i1, rfl⟩
    have hj : i ≤ j := by
      by_cases c : j < i
      · have := ih j j0 (by omega) (by omega)
        rw [← this.2] at j2
        have := srt_ne hg j0 (by omega) i0 i1 (by rw [j2])
        omega
      · omega
    refine ⟨by omega, ?_⟩
    obtain ⟨l, l0, l1, l2⟩ := (hm (h i)).mpr ⟨i, i0, by omega, rfl⟩
    have hl : i ≤ l := by
      by_cases c : l < i
      · have := ih l l0 l1 (by omega)
        rw [this.2] at l2
        have := srt_ne hh l0 this.1 i0 (by omega) (by rw [l2])
        omega
      · omega
    by_cases e : j = i
    · rw [e] at j2; exact j2.symm
    · have a := hh i j i0 (by omega) j1
      rw [j2] at a
      rw [← l2] at a
      by_cases e2 : i = l
      · rw [← e2] at a; omega
      · have := hg i l i0 (by omega) l1; omega
theorem srt_uniq {n m : Int} {g h : Int → fe} (hn : 0 ≤ n) (hm0 : 0 ≤ m) (hg : srt n g) (hh : srt m h) (hm : ∀ x, isM n g x ↔ isM m h x) : n = m ∧ ∀ i, 0 ≤ i → i < n → g i = h i := by
  refine ⟨?_, fun i i0 i1 => (srt_uniq1 hg hh hm i.toNat i i0 i1 (by omega)).2⟩
  rcases (by omega : n < m ∨ n = m ∨ m < n) with c | c | c
  · have := (srt_uniq1 hh hg (fun x => (hm x).symm) n.toNat n hn c (by omega)).1; omega
  · exact c
  · have := (srt_uniq1 hg hh hm m.toNat m hm0 c (by omega)).1; omega
/-- a file at a place of the class's stage -/
def fC (M : px_mem) (i : Int) (x : fe) : Prop := okp x.1 ∧ M 5 i = enc x.1 ∧ M 6 i = (x.2.length : Int) ∧ M 6 i ≤ 40 ∧ lst (M (M 7 i)) (M 6 i) = x.2 ∧ ∀ b ∈ x.2, 0 ≤ b ∧ b < 256
/-- the rows of bytes, each file one of its own -/
def rwC (M : px_mem) : Prop := (∀ i, 0 ≤ i → i < 12 → 8 ≤ M 7 i ∧ M 7 i < 20) ∧ ∀ i j, 0 ≤ i → i < 12 → 0 ≤ j → j < 12 → M 7 i = M 7 j → i = j
def stC (M : px_mem) (n : Int) (g : Int → fe) : Prop := M 4 3 = n ∧ 0 ≤ n ∧ n ≤ 12 ∧ rwC M ∧ ∀ i, 0 ≤ i → i < n → fC M i (g i)
def swF {α : Type} (f : Int → α) (i k : Int) : Int → α := fun x => if x = i then f k else if x = k then f i else f x
theorem swF_isM {n i k : Int} {g : Int → fe} (i0 : 0 ≤ i) (i1 : i < n) (k0 : 0 ≤ k) (k1 : k < n) (x : fe) : isM n (swF g i k) x ↔ isM n g x := by
  unfold isM swF
  constructor
  · rintro ⟨j, j0, j1, j2⟩
    by_cases e : j = i
    · rw [if_pos e] at j2; exact ⟨k, k0, k1, j2⟩
    · rw [if_neg e] at j2
      by_cases e2 : j = k
      · rw [if_pos e2] at j2; exact ⟨i, i0, i1, j2⟩
      · rw [if_neg e2] at j2; exact ⟨j, j0, j1, j2⟩
  · rintro ⟨j, j0, j1, j2⟩
    by_cases e : j = i
    · refine ⟨k, k0, k1, ?_⟩
      by_cases e2 : k = i
      · rw [if_pos e2, e2, ← e]; exact j2
      · rw [if_neg e2, if_pos rfl, ← e]; exact j2
    · by_cases e2 : j = k
      · exact ⟨i, i0, i1, by rw [if_pos rfl, ← e2]; exact j2⟩
      · exact ⟨j, j0, j1, by rw [if_neg e, if_neg e2]; exact j2⟩
theorem swC {M M' : px_mem} {n i k : Int} {g : Int → fe} (h : stC M n g) (i0 : 0 ≤ i) (i1 : i < n) (k0 : 0 ≤ k) (k1 : k < n) (h5 : ∀ x, M' 5 x = swF (M 5) i k x) (h6 : ∀ x, M' 6 x = swF (M 6) i k x) (h7 : ∀ x, M' 7 x = swF (M 7) i k x) (hf : ∀ b, b ≠ 5 → b ≠ 6 → b ≠ 7 → M' b = M b) : stC M' n (swF g i k) := by
  obtain ⟨a1, a2, a3, ⟨a4, a5⟩, a6⟩ := h
  refine ⟨by rw [hf 4 (by decide) (by decide) (by decide)]; exact a1, a2, a3, ⟨fun x x0 x1 => ?_, fun x y x0 x1 y0 y1 e => ?_⟩, fun x x0 x1 => ?_⟩
  · rw [h7]
    unfold swF
    split
    · exact a4 k k0 (by omega)
    · split
      · exact a4 i i0 (by omega)
      · exact a4 x x0 x1
  · rw [h7, h7] at e
    have b := fun u v => a5 u v
    unfold swF at e
    split at e <;> split at e <;> (try split at e) <;> (try split at e)
    all_goals (first | omega | (have := a5 _ _ (by omega) (by omega) (by omega) (by omega) e; omega))
  · have hr : ∀ z, 0 ≤ z → z < 12 → M' (M 7 z) = M (M 7 z) := fun z z0 z1 => hf _ (by have := a4 z z0 z1; omega) (by have := a4 z z0 z1; omega) (by have := a4 z z0 z1; omega)
    unfold fC
    rw [h5, h6, h7]
    unfold swF
    by_cases e : x = i
    · simp only [e, if_true]
      rw [hr k k0 (by omega)]
      exact a6 k k0 k1
    · by_cases e2 : x = k
      · simp only [e2, if_true]
        have e3 : ¬ k = i := fun z => e (by omega)
        simp only [e3, if_false]
        rw [hr i i0 (by omega)]
        exact a6 i i0 i1
      · simp only [e, e2, if_false]
        rw [hr x x0 (by omega)]
        exact a6 x x0 x1
/-- one more, behind all others, or another one in its place -/
def stF (g : Int → fe) (p : Int) (x : fe) : Int → fe := fun i => if i = p then x else g i
theorem fC_frame {M M' : px_mem} {i : Int} {x : fe} (h : fC M i x) (h5 : M' 5 i = M 5 i) (h6 : M' 6 i = M 6 i) (h7 : M' 7 = M 7) (hr : M' (M 7 i) = M (M 7 i)) : fC M' i x := by
  unfold fC at h ⊢
  rw [h5, h6, h7, hr]
  exact h
def dst (n : Int) (g : Int → fe) : Prop := ∀ i j, 0 ≤ i → i < n → 0 ≤ j → j < n → enc (g i).1 = enc (g j).1 → i = j
theorem srt_dst {n : Int} {g : Int → fe} (h : srt n g) : dst n g := fun _ _ i0 i1 j0 j1 e => srt_ne h i0 i1 j0 j1 e
theorem swF_dst {n i k : Int} {g : Int → fe} (i0 : 0 ≤ i) (i1 : i < n) (k0 : 0 ≤ k) (k1 : k < n) (h : dst n g) : dst n (swF g i k) := by
  intro x y x0 x1 y0 y1 e
  unfold swF at e
  have a1 := h k i k0 k1 i0 i1
  have a2 := h k y k0 k1 y0 y1
  have a3 := h i k i0 i1 k0 k1
  have a4 := h i y i0 i1 y0 y1
  have a5 := h x k x0 x1 k0 k1
  have a6 := h x i x0 x1 i0 i1
  have a7 := h x y x0 x1 y0 y1
  grind
/-- all else than files is as it was -/
def frS (M' M : px_mem) : Prop := (∀ j, j ≠ 3 → M' 4 j = M 4 j) ∧ ∀ b, b ≠ 4 → b ≠ 5 → b ≠ 6 → b ≠ 7 → ¬ (8 ≤ b ∧ b < 20) → M' b = M b
theorem frS_refl (M : px_mem) : frS M M := ⟨fun _ _ => rfl, fun _ _ _ _ _ _ => rfl⟩
theorem frS_trans {A B C : px_mem} (h : frS A B) (h2 : frS B C) : frS A C := ⟨fun j j0 => by rw [h.1 j j0, h2.1 j j0], fun b b0 b1 b2 b3 b4 => by rw [h.2 b b0 b1 b2 b3 b4, h2.2 b b0 b1 b2 b3 b4]⟩
section PS
variable {M : px_mem} {Q : Option pv → px_mem → Prop}
set_option maxHeartbeats 600000 in
set_option maxRecDepth 100000 in
theorem sp_swap {i k : Int} (hi : 0 ≤ i ∧ i < 12) (hk : 0 ≤ k ∧ k < 12) (hr : ∀ i, 0 ≤ i → i < 12 → 8 ≤ M 7 i ∧ M 7 i < 20) (h : ∀ M', (∀ x, M' 5 x = swF (M 5) i k x) → (∀ x, M' 6 x = swF (M 6) i k x) → (∀ x, M' 7 x = swF (M 7) i k x) → (∀ b, b ≠ 5 → b ≠ 6 → b ≠ 7 → M' b = M b) → Q none M') : px_Ok 92 [(2, 4), (0, i), (0, k)] LAY M Q := by
  have hr1 := (row_lay (v := M 7 i) (Or.inl (hr i hi.1 hi.2))).1
  have hr2 := (row_lay (v := M 7 k) (Or.inl (hr k hk.1 hk.2))).1
  refine px_ok_go (inl := []) (ls0 := [(2, 4), (0, i), (0, k), (9, 0), (9, 0), (9, 0), (9, 0)]) 60 (by decide) (Nat.le_of_ble_eq_true rfl) rfl ?_
  simp only [px_go, px_Q0_at, px_sx_0, px_sx_s, px_cl, px_step, ↓px_ll, px_lg, f4_, ↓px_r1, ↓px_r2, ↓px_r4, ↓px_r5, ↓px_p1, ↓px_p2, ↓px_p3, ↓px_pop, px_k_0, px_k_s, px_k3_0, px_stk_, px_cats, px_ent, px_st1, px_st2, px_mask, ↓px_tsw, ↓px_lsw, ct_, mls_0, mls_1, mls_2, mls_3, mls_4, mls_5, kd_0, kd_1, kd_2, kd_3, ln_0, ln_1, ln_2, ln_3, gf_0, gf_1, gf_2, gf_3, gf_4, gf_7, gf_21, gf_63, dy_0, dy_1, dy_2, dy_3, dy_7, dy_21, px_brT, px_brF, true_and, and_true, and_false, false_and, and_self, true_implies, false_implies, or_true, true_or, or_false, false_or, eq_self, ne_eq, not_false_eq_true, not_true_eq_false, if_true, if_false, List.mem_cons, List.not_mem_nil, List.length_cons, List.length_nil, Nat.reduceEqDiff, Nat.reduceAdd, Nat.reduceSub, Nat.reduceLeDiff, Nat.reduceLT, Int.reduceEq, Int.reduceLT, Int.reduceLE, Int.reduceNeg, Int.reduceAdd, Int.reduceSub, Int.reduceToNat, ↓reduceIte, one_ne_zero_, zero_ne_one_, px_in32L, cd_92, px_up_at]
  repeat' (first | (with_reducible apply And.intro) | (with_reducible refine px_br_intro (fun _ => ?_) (fun _ => ?_)))
  all_goals (try (first | (unfold px_in32; omega) | omega))
  all_goals (try exact Or.inl ⟨rfl, rfl⟩)
  refine h _ (fun x => ?_) (fun x => ?_) (fun x => ?_) (fun b b0 b1 b2 => ?_)
  · simp only [px_up_at, swF, Int.reduceEq, false_and, true_and, if_false]
    (repeat' split) <;> simp_all
  · simp only [px_up_at, swF, Int.reduceEq, false_and, true_and, if_false]
    (repeat' split) <;> simp_all
  · simp only [px_up_at, swF, Int.reduceEq, false_and, true_and, if_false]
    (repeat' split) <;> simp_all
  · rw [row_ne b2, row_ne b1, row_ne b0, row_ne b2, row_ne b1, row_ne b0]
set_option maxHeartbeats 600000 in
set_option maxRecDepth 100000 in
theorem lp_sort2 {M0 : px_mem} {n i : Int} {g0 : Int → fe} (hi : 0 < i ∧ i < n) (hx : ∀ M g, stC M n g → (∀ x, isM n g x ↔ isM n g0 x) → dst n g → (∀ a b, 0 ≤ a → a < b → b < i + 1 → M 5 a ≤ M 5 b) → (∀ b, b ≠ 5 → b ≠ 6 → b ≠ 7 → M b = M0 b) → px_WP 91 0 0 (px_Q0 LAY Q) 2 [(2, 4), (0, i + 1), (9, 0)] [] LAY M 0 0) (j : Int) (hk_j : 0 ≤ j) : ∀ (M : px_mem) (g : Int → fe), stC M n g → (∀ x, isM n g x ↔ isM n g0 x) → dst n g → (∀ a b, 0 ≤ a → a < b → b < i + 1 → b ≠ j → M 5 a ≤ M 5 b) → (∀ b, b ≠ 5 → b ≠ 6 → b ≠ 7 → M b = M0 b) → j ≤ i → px_WP 91 0 0 (px_Q0 LAY Q) 12 [(2, 4), (0, i), (0, j)] [] LAY M 0 0 := by
  refine dn_ind (P := fun j => ∀ (M : px_mem) (g : Int → fe), stC M n g → (∀ x, isM n g x ↔ isM n g0 x) → dst n g → (∀ a b, 0 ≤ a → a < b → b < i + 1 → b ≠ j → M 5 a ≤ M 5 b) → (∀ b, b ≠ 5 → b ≠ 6 → b ≠ 7 → M b = M0 b) → j ≤ i → px_WP 91 0 0 (px_Q0 LAY Q) 12 [(2, 4), (0, i), (0, j)] [] LAY M 0 0) (0) (fun j hk_j ih => ?_) j hk_j
  intro M g hst hm hd ho hf hji
  have hlc := (lcmp_lt (M 5 j) (M 5 (j - 1))).2.2.1
  have hn := hst.2.2.1
  refine px_go_ok (inl := []) 60 ?_
  simp only [px_go, px_Q0_at, px_sx_0, px_sx_s, px_cl, px_step, ↓px_ll, px_lg, f4_, ↓px_r1, ↓px_r2, ↓px_r4, ↓px_r5, ↓px_p1, ↓px_p2, ↓px_p3, ↓px_pop, px_k_0, px_k_s, px_k3_0, px_stk_, px_cats, px_ent, px_st1, px_st2, px_mask, ↓px_tsw, ↓px_lsw, ct_, mls_0, mls_1, mls_2, mls_3, mls_4, mls_5, kd_0, kd_1, kd_2, kd_3, ln_0, ln_1, ln_2, ln_3, gf_0, gf_1, gf_2, gf_3, gf_4, gf_7, gf_21, gf_63, dy_0, dy_1, dy_2, dy_3, dy_7, dy_21, px_brT, px_brF, true_and, and_true, and_false, false_and, and_self, true_implies, false_implies, or_true, true_or, or_false, false_or, eq_self, ne_eq, not_false_eq_true, not_true_eq_false, if_true, if_false, List.mem_cons, List.not_mem_nil, List.length_cons, List.length_nil, Nat.reduceEqDiff, Nat.reduceAdd, Nat.reduceSub, Nat.reduceLeDiff, Nat.reduceLT, Int.reduceEq, Int.reduceLT, Int.reduceLE, Int.reduceNeg, Int.reduceAdd, Int.reduceSub, Int.reduceToNat, ↓reduceIte, one_ne_zero_, zero_ne_one_, px_in32L, cd_91]
  repeat' (first | (with_reducible apply And.intro) | (with_reducible refine px_br_intro (fun _ => ?_) (fun _ => ?_)))
  all_goals (try (first | (unfold px_in32; omega) | omega))
  · rename_i c1
    exact hx M g hst hm hd (fun a b a0 a1 a2 => ho a b a0 a1 a2 (by omega)) hf
  · rename_i c1 c2
    refine hx M g hst hm hd (fun a b a0 a1 a2 => ?_) hf
    by_cases e : b = j
    · by_cases e2 : a = j - 1
      · rw [e, e2]; exact hlc.mp c2
      · have := ho a (j - 1) a0 (by omega) (by omega) (by omega)
        have := hlc.mp c2
        rw [e]; omega
    · exact ho a b a0 a1 a2 e
  · rename_i c1 c2
    refine sp_swap ⟨by omega, by omega⟩ ⟨by omega, by omega⟩ hst.2.2.2.1.1 (fun M' e1 e2 e3 e4 => ?_)
    simp only [px_go, px_Q0_at, px_sx_0, px_sx_s, px_cl, px_step, ↓px_ll, px_lg, f4_, ↓px_r1, ↓px_r2, ↓px_r4, ↓px_r5, ↓px_p1, ↓px_p2, ↓px_p3, ↓px_pop, px_k_0, px_k_s, px_k3_0, px_stk_, px_cats, px_ent, px_st1, px_st2, px_mask, ↓px_tsw, ↓px_lsw, ct_, mls_0, mls_1, mls_2, mls_3, mls_4, mls_5, kd_0, kd_1, kd_2, kd_3, ln_0, ln_1, ln_2, ln_3, gf_0, gf_1, gf_2, gf_3, gf_4, gf_7, gf_21, gf_63, dy_0, dy_1, dy_2, dy_3, dy_7, dy_21, px_brT, px_brF, true_and, and_true, and_false, false_and, and_self, true_implies, false_implies, or_true, true_or, or_false, false_or, eq_self, ne_eq, not_false_eq_true, not_true_eq_false, if_true, if_false, List.mem_cons, List.not_mem_nil, List.length_cons, List.length_nil, Nat.reduceEqDiff, Nat.reduceAdd, Nat.reduceSub, Nat.reduceLeDiff, Nat.reduceLT, Int.reduceEq, Int.reduceLT, Int.reduceLE, Int.reduceNeg, Int.reduceAdd, Int.reduceSub, Int.reduceToNat, ↓reduceIte, one_ne_zero_, zero_ne_one_, px_in32L, cd_91]
    repeat' (first | (with_reducible apply And.intro) | (with_reducible refine px_br_intro (fun _ => ?_) (fun _ => ?_)))
    all_goals (try (first | (unfold px_in32; omega) | omega))
    rw [show j + -1 = j - 1 by omega]
    refine ih (by omega) M' (swF g j (j - 1)) (swC hst (by omega) (by omega) (by omega) (by omega) e1 e2 e3 e4) (fun x => by rw [swF_isM (by omega) (by omega) (by omega) (by omega)]; exact hm x) (swF_dst (by omega) (by omega) (by omega) (by omega) hd) (fun a b a0 a1 a2 a3 => ?_) (fun b b0 b1 b2 => by rw [e4 b b0 b1 b2]; exact hf b b0 b1 b2) (by omega)
    have hlt : M 5 j < M 5 (j - 1) := by
      rcases Int.lt_or_le (M 5 j) (M 5 (j - 1)) with q | q
      · exact q
      · exact absurd (hlc.mpr q) c2
    rw [e1, e1]
    unfold swF
    have o := fun a b => ho a b
    by_cases eb : b = j
    · subst eb
      rw [if_pos rfl]
      by_cases ea : a = b - 1
      · rw [if_neg (by omega), if_pos ea]; omega
      · rw [if_neg (by omega), if_neg ea]; exact o a (b - 1) a0 (by omega) (by omega) (by omega)
    · have h2 := o a b a0 a1 a2 eb
      rw [if_neg eb, if_neg (show ¬ b = j - 1 from a3)]
      by_cases ea : a = j
      · rw [if_pos ea]; exact o (j - 1) b (by omega) (by omega) a2 eb
      · rw [if_neg ea]
        by_cases ea2 : a = j - 1
        · rw [if_pos ea2]; exact o j b (by omega) (by omega) a2 eb
        · rw [if_neg ea2]; exact h2
set_option maxHeartbeats 600000 in
set_option maxRecDepth 100000 in
theorem lp_sort1 {M0 : px_mem} {n : Int} {g0 : Int → fe} (h : ∀ M' g, stC M' n g → srt n g → (∀ x, isM n g x ↔ isM n g0 x) → (∀ b, b ≠ 5 → b ≠ 6 → b ≠ 7 → M' b = M0 b) → Q none M') (i : Int) (hk_i : i ≤ 12) : ∀ (M : px_mem) (g : Int → fe), 1 ≤ i → stC M n g → (∀ x, isM n g x ↔ isM n g0 x) → dst n g → (∀ a b, 0 ≤ a → a < b → b < i → b < n → M 5 a ≤ M 5 b) → (∀ b, b ≠ 5 → b ≠ 6 → b ≠ 7 → M b = M0 b) → px_WP 91 0 0 (px_Q0 LAY Q) 2 [(2, 4), (0, i), (9, 0)] [] LAY M 0 0 := by
  refine up_ind (P := fun i => ∀ (M : px_mem) (g : Int → fe), 1 ≤ i → stC M n g → (∀ x, isM n g x ↔ isM n g0 x) → dst n g → (∀ a b, 0 ≤ a → a < b → b < i → b < n → M 5 a ≤ M 5 b) → (∀ b, b ≠ 5 → b ≠ 6 → b ≠ 7 → M b = M0 b) → px_WP 91 0 0 (px_Q0 LAY Q) 2 [(2, 4), (0, i), (9, 0)] [] LAY M 0 0) (12) (fun i hk_i ih => ?_) i hk_i
  intro M g i0 hst hm hd ho hf
  have hn := hst.1
  refine px_go_ok (inl := []) 60 ?_
  simp only [px_go, px_Q0_at, px_sx_0, px_sx_s, px_cl, px_step, ↓px_ll, px_lg, f4_, ↓px_r1, ↓px_r2, ↓px_r4, ↓px_r5, ↓px_p1, ↓px_p2, ↓px_p3, ↓px_pop, px_k_0, px_k_s, px_k3_0, px_stk_, px_cats, px_ent, px_st1, px_st2, px_mask, ↓px_tsw, ↓px_lsw, ct_, mls_0, mls_1, mls_2, mls_3, mls_4, mls_5, kd_0, kd_1, kd_2, kd_3, ln_0, ln_1, ln_2, ln_3, gf_0, gf_1, gf_2, gf_3, gf_4, gf_7, gf_21, gf_63, dy_0, dy_1, dy_2, dy_3, dy_7, dy_21, px_brT, px_brF, true_and, and_true, and_false, false_and, and_self, true_implies, false_implies, or_true, true_or, or_false, false_or, eq_self, ne_eq, not_false_eq_true, not_true_eq_false, if_true, if_false, List.mem_cons, List.not_mem_nil, List.length_cons, List.length_nil, Nat.reduceEqDiff, Nat.reduceAdd, Nat.reduceSub, Nat.reduceLeDiff, Nat.reduceLT, Int.reduceEq, Int.reduceLT, Int.reduceLE, Int.reduceNeg, Int.reduceAdd, Int.reduceSub, Int.reduceToNat, ↓reduceIte, one_ne_zero_, zero_ne_one_, px_in32L, cd_91]
  repeat' (first | (with_reducible apply And.intro) | (with_reducible refine px_br_intro (fun _ => ?_) (fun _ => ?_)))
  all_goals (try (first | (unfold px_in32; omega) | omega))
  · rename_i c1
    refine h M g hst (fun a b a0 a1 a2 => ?_) hm hf
    have f1 := hst.2.2.2.2 a a0 (by omega)
    have f2 := hst.2.2.2.2 b (by omega) a2
    have := ho a b a0 a1 (by omega) a2
    rw [f1.2.1, f2.2.1] at this
    rcases (by omega : enc (g a).1 < enc (g b).1 ∨ enc (g a).1 = enc (g b).1) with q | q
    · exact q
    · have := hd a b a0 (by omega) (by omega) a2 q; omega
  · rename_i c1
    have h12 := hst.2.2.1
    exact lp_sort2 (g0 := g0) (M0 := M0) (n := n) ⟨by omega, by omega⟩ (fun M1 g1 q1 q2 q3 q4 q5 => ih (by omega) M1 g1 (by omega) q1 q2 q3 (fun a b a0 a1 a2 _ => q4 a b a0 a1 a2) q5) i (by omega) M g hst hm hd (fun a b a0 a1 a2 a3 => ho a b a0 a1 (by omega) (by omega)) hf (Int.le_refl i)
set_option maxHeartbeats 600000 in
set_option maxRecDepth 100000 in
theorem sp_sort {n : Int} {g0 : Int → fe} (hst : stC M n g0) (hd : dst n g0) (h : ∀ M' g, stC M' n g → srt n g → (∀ x, isM n g x ↔ isM n g0 x) → (∀ b, b ≠ 5 → b ≠ 6 → b ≠ 7 → M' b = M b) → Q none M') : px_Ok 91 [(2, 4)] LAY M Q := by
  refine px_ok_go (inl := []) (ls0 := [(2, 4), (9, 0), (9, 0)]) 60 (by decide) (Nat.le_of_ble_eq_true rfl) rfl ?_
  simp only [px_go, px_Q0_at, px_sx_0, px_sx_s, px_cl, px_step, ↓px_ll, px_lg, f4_, ↓px_r1, ↓px_r2, ↓px_r4, ↓px_r5, ↓px_p1, ↓px_p2, ↓px_p3, ↓px_pop, px_k_0, px_k_s, px_k3_0, px_stk_, px_cats, px_ent, px_st1, px_st2, px_mask, ↓px_tsw, ↓px_lsw, ct_, mls_0, mls_1, mls_2, mls_3, mls_4, mls_5, kd_0, kd_1, kd_2, kd_3, ln_0, ln_1, ln_2, ln_3, gf_0, gf_1, gf_2, gf_3, gf_4, gf_7, gf_21, gf_63, dy_0, dy_1, dy_2, dy_3, dy_7, dy_21, px_brT, px_brF, true_and, and_true, and_false, false_and, and_self, true_implies, false_implies, or_true, true_or, or_false, false_or, eq_self, ne_eq, not_false_eq_true, not_true_eq_false, if_true, if_false, List.mem_cons, List.not_mem_nil, List.length_cons, List.length_nil, Nat.reduceEqDiff, Nat.reduceAdd, Nat.reduceSub, Nat.reduceLeDiff, Nat.reduceLT, Int.reduceEq, Int.reduceLT, Int.reduceLE, Int.reduceNeg, Int.reduceAdd, Int.reduceSub, Int.reduceToNat, ↓reduceIte, one_ne_zero_, zero_ne_one_, px_in32L, cd_91]
  repeat' (first | (with_reducible apply And.intro) | (with_reducible refine px_br_intro (fun _ => ?_) (fun _ => ?_)))
  all_goals (try (first | (unfold px_in32; omega) | omega))
  exact lp_sort1 (M0 := M) h 1 (by decide) M g0 (by decide) hst (fun _ => Iff.rfl) hd (fun a b _ _ _ _ => by omega) (fun _ _ _ _ => rfl)
set_option maxHeartbeats 600000 in
set_option maxRecDepth 100000 in
theorem lp_setBytes {M0 : px_mem} {p v s n w : Int} (hp : 0 ≤ p ∧ p < 12) (hw : 8 ≤ w ∧ w < 20) (hk : px_kd LAY v = 0) (hs : 0 ≤ s) (hn : n ≤ 40) (hl : s + n ≤ px_ln LAY v) (hl2 : px_ln LAY v < 1000) (hv : v ≠ w) (h : ∀ M', lst (M' w) n = lst (fun k => M0 v (s + k)) n → (∀ x, M' 6 x = if x = p then n else M0 6 x) → (∀ b, b ≠ 6 → b ≠ w → M' b = M0 b) → Q none M') (k : Int) (hk_k : k ≤ n) : ∀ (M : px_mem), 0 ≤ k → lst (M w) k = lst (fun j => M0 v (s + j)) k → (∀ b, b ≠ w → M b = M0 b) → px_WP 90 0 0 (px_Q0 LAY Q) 11 [(2, 4), (0, p), (2, v), (0, s), (0, n), (2, w), (0, k)] [] LAY M 0 0 := by
  refine up_ind (P := fun k => ∀ (M : px_mem), 0 ≤ k → lst (M w) k = lst (fun j => M0 v (s + j)) k → (∀ b, b ≠ w → M b = M0 b) → px_WP 90 0 0 (px_Q0 LAY Q) 11 [(2, 4), (0, p), (2, v), (0, s), (0, n), (2, w), (0, k)] [] LAY M 0 0) (n) (fun k hk_k ih => ?_) k hk_k
  intro M k0 hl1 hf
  have hr := row_lay (v := w) (Or.inl hw)
  have hs3 := @lst_snoc (fun j => M0 v (s + j)) k
  refine px_go_ok (inl := []) 60 ?_
  simp only [px_go, px_Q0_at, px_sx_0, px_sx_s, px_cl, px_step, ↓px_ll, px_lg, f4_, ↓px_r1, ↓px_r2, ↓px_r4, ↓px_r5, ↓px_p1, ↓px_p2, ↓px_p3, ↓px_pop, px_k_0, px_k_s, px_k3_0, px_stk_, px_cats, px_ent, px_st1, px_st2, px_mask, ↓px_tsw, ↓px_lsw, ct_, mls_0, mls_1, mls_2, mls_3, mls_4, mls_5, kd_0, kd_1, kd_2, kd_3, ln_0, ln_1, ln_2, ln_3, gf_0, gf_1, gf_2, gf_3, gf_4, gf_7, gf_21, gf_63, dy_0, dy_1, dy_2, dy_3, dy_7, dy_21, px_brT, px_brF, true_and, and_true, and_false, false_and, and_self, true_implies, false_implies, or_true, true_or, or_false, false_or, eq_self, ne_eq, not_false_eq_true, not_true_eq_false, if_true, if_false, List.mem_cons, List.not_mem_nil, List.length_cons, List.length_nil, Nat.reduceEqDiff, Nat.reduceAdd, Nat.reduceSub, Nat.reduceLeDiff, Nat.reduceLT, Int.reduceEq, Int.reduceLT, Int.reduceLE, Int.reduceNeg, Int.reduceAdd, Int.reduceSub, Int.reduceToNat, ↓reduceIte, one_ne_zero_, zero_ne_one_, px_in32L, cd_90, hk, (row_lay (v := w) (Or.inl hw)).2]
  repeat' (first | (with_reducible apply And.intro) | (with_reducible refine px_br_intro (fun _ => ?_) (fun _ => ?_)))
  all_goals (try (first | (unfold px_in32; omega) | omega))
  · rename_i c1
    have e : k = n := by omega
    subst e
    refine h _ ?_ (fun x => ?_) (fun b b0 b1 => by rw [row_ne b0]; exact hf b b1)
    · rw [row_ne (by omega)]; exact hl1
    · rw [px_up_at, hf 6 (by omega)]
      by_cases e : x = p
      · rw [if_pos e, if_pos ⟨rfl, e⟩]
      · rw [if_neg e, if_neg (fun q => e q.2)]
  · rename_i c1 c2 c3
    refine ih (by omega) _ (by omega) ?_ (fun b b0 => by rw [row_ne b0]; exact hf b b0)
    rw [lst_up M w _ k0, hl1, hs3 k0, hf v hv]
set_option maxHeartbeats 600000 in
set_option maxRecDepth 100000 in
theorem sp_setBytes {p v s n : Int} (hp : 0 ≤ p ∧ p < 12) (hw : 8 ≤ M 7 p ∧ M 7 p < 20) (hk : px_kd LAY v = 0) (hs : 0 ≤ s) (hn : 0 ≤ n ∧ n ≤ 40) (hl : s + n ≤ px_ln LAY v) (hl2 : px_ln LAY v < 1000) (hv : v ≠ M 7 p) (h : ∀ M', lst (M' (M 7 p)) n = lst (fun k => M v (s + k)) n → (∀ x, M' 6 x = if x = p then n else M 6 x) → (∀ b, b ≠ 6 → b ≠ M 7 p → M' b = M b) → Q none M') : px_Ok 90 [(2, 4), (0, p), (2, v), (0, s), (0, n)] LAY M Q := by
  refine px_ok_go (inl := []) (ls0 := [(2, 4), (0, p), (2, v), (0, s), (0, n), (9, 0), (9, 0)]) 60 (by decide) (Nat.le_of_ble_eq_true rfl) rfl ?_
  simp only [px_go, px_Q0_at, px_sx_0, px_sx_s, px_cl, px_step, ↓px_ll, px_lg, f4_, ↓px_r1, ↓px_r2, ↓px_r4, ↓px_r5, ↓px_p1, ↓px_p2, ↓px_p3, ↓px_pop, px_k_0, px_k_s, px_k3_0, px_stk_, px_cats, px_ent, px_st1, px_st2, px_mask, ↓px_tsw, ↓px_lsw, ct_, mls_0, mls_1, mls_2, mls_3, mls_4, mls_5, kd_0, kd_1, kd_2, kd_3, ln_0, ln_1, ln_2, ln_3, gf_0, gf_1, gf_2, gf_3, gf_4, gf_7, gf_21, gf_63, dy_0, dy_1, dy_2, dy_3, dy_7, dy_21, px_brT, px_brF, true_and, and_true, and_false, false_and, and_self, true_implies, false_implies, or_true, true_or, or_false, false_or, eq_self, ne_eq, not_false_eq_true, not_true_eq_false, if_true, if_false, List.mem_cons, List.not_mem_nil, List.length_cons, List.length_nil, Nat.reduceEqDiff, Nat.reduceAdd, Nat.reduceSub, Nat.reduceLeDiff, Nat.reduceLT, Int.reduceEq, Int.reduceLT, Int.reduceLE, Int.reduceNeg, Int.reduceAdd, Int.reduceSub, Int.reduceToNat, ↓reduceIte, one_ne_zero_, zero_ne_one_, px_in32L, cd_90]
  repeat' (first | (with_reducible apply And.intro) | (with_reducible refine px_br_intro (fun _ => ?_) (fun _ => ?_)))
  all_goals (try (first | (unfold px_in32; omega) | omega))
  exact lp_setBytes hp hw hk hs hn.2 hl hl2 hv h 0 hn.1 M (Int.le_refl 0) rfl (fun _ _ => rfl)
theorem stF_isM {n : Int} {g : Int → fe} {x : fe} (hn : 0 ≤ n) (y : fe) : isM (n + 1) (stF g n x) y ↔ (isM n g y ∨ y = x) := by
  unfold isM stF
  constructor
  · rintro ⟨i, i0, i1, i2⟩
    by_cases e : i = n
    · rw [if_pos e] at i2; exact Or.inr i2.symm
    · rw [if_neg e] at i2; exact Or.inl ⟨i, i0, by omega, i2⟩
  · rintro (⟨i, i0, i1, i2⟩ | e)
    · exact ⟨i, i0, by omega, by rw [if_neg (by omega)]; exact i2⟩
    · exact ⟨n, hn, by omega, by rw [if_pos rfl]; exact e.symm⟩
theorem stC_put {M M' : px_mem} {n N p : Int} {g : Int → fe} {x : fe} (h : stC M n g) (hN : N = n ∨ N = n + 1) (hp : 0 ≤ p ∧ p < 12 ∧ p < N) (hN2 : N = n → p < n) (hN3 : N = n + 1 → p = n) (h1 : M' 4 3 = N) (h5 : ∀ i, M' 5 i = if i = p then enc x.1 else M 5 i) (h6 : ∀ i, M' 6 i = if i = p then (x.2.length : Int) else M 6 i) (hx : okp x.1 ∧ x.2.length ≤ 40 ∧ ∀ b ∈ x.2, 0 ≤ b ∧ b < 256) (hl : lst (M' (M 7 p)) (x.2.length : Int) = x.2) (hf : ∀ b, b ≠ 4 → b ≠ 5 → b ≠ 6 → b ≠ M 7 p → M' b = M b) : stC M' N (stF g p x) := by
  obtain ⟨a1, a2, a3, ⟨a4, a5⟩, a6⟩ := h
  have hpr := a4 p hp.1 hp.2.1
  have e7 : M' 7 = M 7 := hf 7 (by decide) (by decide) (by decide) (by omega)
  refine ⟨h1, by omega, by omega, ⟨by rw [e7]; exact a4, by rw [e7]; exact a5⟩, fun i i0 i1 => ?_⟩
  unfold stF
  by_cases e : i = p
  · rw [if_pos e]
    unfold fC
    rw [h5 i, h6 i, if_pos e, if_pos e, e7, e]
    exact ⟨hx.1, rfl, rfl, by omega, hl, hx.2.2⟩
  · rw [if_neg e]
    have hr := a4 i i0 (by omega)
    refine fC_frame (a6 i i0 (by omega)) (by rw [h5, if_neg e]) (by rw [h6, if_neg e]) e7 (hf _ (by omega) (by omega) (by omega) (fun q => e (a5 i p i0 (by omega) hp.1 hp.2.1 q)))
set_option maxHeartbeats 600000 in
set_option maxRecDepth 100000 in
theorem sp_sAppend {N v s n : Int} {g : Int → fe} {x : fe} (hst : stC M N g) (hN : N < 12) (hx : okp x.1 ∧ x.2.length ≤ 40 ∧ ∀ b ∈ x.2, 0 ≤ b ∧ b < 256) (hk : px_kd LAY v = 0) (hs : 0 ≤ s) (hn : n = (x.2.length : Int)) (hl : s + n ≤ px_ln LAY v) (hl2 : px_ln LAY v < 1000) (hv : v ≠ M 7 N) (hv2 : v ≠ 5 ∧ v ≠ 6) (hb : lst (fun k => M v (s + k)) n = x.2) (h : ∀ M', stC M' (N + 1) (stF g N x) → frS M' M → (∀ b, b ≠ 4 → b ≠ 5 → b ≠ 6 → b ≠ M 7 N → M' b = M b) → Q none M') : px_Ok 89 [(2, 4), (1, enc x.1), (2, v), (0, s), (0, n)] LAY M Q := by
  have hM := hst.1
  have hN0 := hst.2.1
  have hrow := hst.2.2.2.1.1 N hst.2.1 hN
  refine px_ok_go (inl := []) (ls0 := [(2, 4), (1, enc x.1), (9, 0), (2, v), (0, s), (0, n)]) 60 (by decide) (Nat.le_of_ble_eq_true rfl) rfl ?_
  simp only [px_go, px_Q0_at, px_sx_0, px_sx_s, px_cl, px_step, ↓px_ll, px_lg, f4_, ↓px_r1, ↓px_r2, ↓px_r4, ↓px_r5, ↓px_p1, ↓px_p2, ↓px_p3, ↓px_pop, px_k_0, px_k_s, px_k3_0, px_stk_, px_cats, px_ent, px_st1, px_st2, px_mask, ↓px_tsw, ↓px_lsw, ct_, mls_0, mls_1, mls_2, mls_3, mls_4, mls_5, kd_0, kd_1, kd_2, kd_3, ln_0, ln_1, ln_2, ln_3, gf_0, gf_1, gf_2, gf_3, gf_4, gf_7, gf_21, gf_63, dy_0, dy_1, dy_2, dy_3, dy_7, dy_21, px_brT, px_brF, true_and, and_true, and_false, false_and, and_self, true_implies, false_implies, or_true, true_or, or_false, false_or, eq_self, ne_eq, not_false_eq_true, not_true_eq_false, if_true, if_false, List.mem_cons, List.not_mem_nil, List.length_cons, List.length_nil, Nat.reduceEqDiff, Nat.reduceAdd, Nat.reduceSub, Nat.reduceLeDiff, Nat.reduceLT, Int.reduceEq, Int.reduceLT, Int.reduceLE, Int.reduceNeg, Int.reduceAdd, Int.reduceSub, Int.reduceToNat, ↓reduceIte, one_ne_zero_, zero_ne_one_, px_in32L, cd_89, hM]
  repeat' (first | (with_reducible apply And.intro) | (with_reducible refine px_br_intro (fun _ => ?_) (fun _ => ?_)))
  all_goals (try (first | (unfold px_in32; omega) | omega))
  have f7 : px_up M 5 N (enc x.1) 7 = M 7 := row_ne (by decide)
  have fv : px_up M 5 N (enc x.1) v = M v := row_ne (by omega)
  have f4 : px_up M 5 N (enc x.1) 4 = M 4 := row_ne (by decide)
  rw [f4, hM]
  refine sp_setBytes ⟨hN0, hN⟩ (by rw [f7]; exact hrow) hk hs ⟨by omega, by omega⟩ hl hl2 (by rw [f7]; exact hv) (fun M1 e1 e2 e3 => ?_)
  rw [f7] at e1 e3
  rw [fv] at e1
  simp only [px_go, px_Q0_at, px_sx_0, px_sx_s, px_cl, px_step, ↓px_ll, px_lg, f4_, ↓px_r1, ↓px_r2, ↓px_r4, ↓px_r5, ↓px_p1, ↓px_p2, ↓px_p3, ↓px_pop, px_k_0, px_k_s, px_k3_0, px_stk_, px_cats, px_ent, px_st1, px_st2, px_mask, ↓px_tsw, ↓px_lsw, ct_, mls_0, mls_1, mls_2, mls_3, mls_4, mls_5, kd_0, kd_1, kd_2, kd_3, ln_0, ln_1, ln_2, ln_3, gf_0, gf_1, gf_2, gf_3, gf_4, gf_7, gf_21, gf_63, dy_0, dy_1, dy_2, dy_3, dy_7, dy_21, px_brT, px_brF, true_and, and_true, and_false, false_and, and_self, true_implies, false_implies, or_true, true_or, or_false, false_or, eq_self, ne_eq, not_false_eq_true, not_true_eq_false, if_true, if_false, List.mem_cons, List.not_mem_nil, List.length_cons, List.length_nil, Nat.reduceEqDiff, Nat.reduceAdd, Nat.reduceSub, Nat.reduceLeDiff, Nat.reduceLT, Int.reduceEq, Int.reduceLT, Int.reduceLE, Int.reduceNeg, Int.reduceAdd, Int.reduceSub, Int.reduceToNat, ↓reduceIte, one_ne_zero_, zero_ne_one_, px_in32L, cd_89]
  have g4 : M1 4 3 = N := by rw [e3 4 (by decide) (by omega), f4, hM]
  rw [g4]
  repeat' (first | (with_reducible apply And.intro) | (with_reducible refine px_br_intro (fun _ => ?_) (fun _ => ?_)))
  all_goals (try (first | (unfold px_in32; omega) | omega))
  have hff : ∀ b, b ≠ 4 → b ≠ 5 → b ≠ 6 → b ≠ M 7 N → px_up M1 4 3 (N + 1) b = M b := fun b b0 b1 b2 b3 => by rw [row_ne b0, e3 b b2 b3, row_ne b1]
  refine h _ (stC_put hst (Or.inr rfl) ⟨hN0, hN, by omega⟩ (fun q => by omega) (fun _ => rfl) (by rw [px_up_at, if_pos ⟨rfl, rfl⟩]) (fun i => ?_) (fun i => ?_) hx ?_ hff) ⟨fun j j0 => ?_, fun b b0 b1 b2 b3 b4 => hff b b0 b1 b2 (by omega)⟩ hff
  · rw [row_ne (by decide), e3 5 (by decide) (by omega), px_up_at]
    by_cases e : i = N
    · rw [if_pos e, if_pos ⟨rfl, e⟩]
    · rw [if_neg e, if_neg (fun q => e q.2)]
  · rw [row_ne (by decide), e2 i, row_ne (by decide), ← hn]
  · rw [row_ne (by omega), ← hn, e1]; exact hb
  · rw [px_up_at, if_neg (fun q => j0 q.2), e3 4 (by decide) (by omega), f4]
end PS
