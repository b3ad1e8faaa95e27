set_option maxRecDepth 100000 in
/-- X11_like -/
theorem cd_149 : px_at 149 0 = some (1, [], .aload_n 0, []) ∧ px_at 149 1 = some (4, [], .getfield 26, [10, 2, 2, 1, 116]) ∧ px_at 149 4 = some (5, [], .iload_n 1, []) ∧ px_at 149 5 = some (8, [], .invokevirtual 162, [47, 1, 3, 61]) ∧ px_at 149 8 = some (10, [], .astore 4, []) ∧ px_at 149 10 = some (12, [], .aload 4, []) ∧ px_at 149 12 = some (15, [], .ifnull 19, [31]) ∧ px_at 149 15 = some (16, [], .aload_n 0, []) ∧ px_at 149 16 = some (19, [], .getfield 10, [10, 0, 2, 1, 114]) ∧ px_at 149 19 = some (20, [], .iload_n 2, []) ∧ px_at 149 20 = some (23, [], .invokevirtual 85, [102, 1, 8, 26]) ∧ px_at 149 23 = some (26, [], .ifCond .eq 8, [31]) ∧ px_at 149 26 = some (27, [], .iload_n 3, []) ∧ px_at 149 27 = some (28, [], .iconst (-1), []) ∧ px_at 149 28 = some (31, [], .if_icmp .ge 5, [33]) ∧ px_at 149 31 = some (32, [], .iconst (-1), []) ∧ px_at 149 32 = some (33, [], .ireturn, [0]) ∧ px_at 149 33 = some (34, [], .aload_n 0, []) ∧ px_at 149 34 = some (37, [], .getfield 10, [10, 0, 2, 1, 114]) ∧ px_at 149 37 = some (38, [], .iload_n 2, []) ∧ px_at 149 38 = some (41, [], .invokevirtual 348, [105, 1, 8, 164]) ∧ px_at 149 41 = some (44, [], .ifCond .ne 6, [47]) ∧ px_at 149 44 = some (46, [], .bipush (-2), []) ∧ px_at 149 46 = some (47, [], .ireturn, [0]) ∧ px_at 149 47 = some (48, [], .iconst 0, []) ∧ px_at 149 48 = some (50, [], .istore 5, []) ∧ px_at 149 50 = some (51, [], .iconst 0, []) ∧ px_at 149 51 = some (53, [], .istore 6, []) ∧ px_at 149 53 = some (55, [1, 0, 1, 1, 1, 1, 1], .iload 6, []) ∧ px_at 149 55 = some (57, [], .aload 4, []) ∧ px_at 149 57 = some (60, [], .getfield 166, [2, 2, 0, 0, 33]) ∧ px_at 149 60 = some (63, [], .if_icmp .ge 40, [100]) ∧ px_at 149 63 = some (64, [], .aload_n 0, []) ∧ px_at 149 64 = some (67, [], .getfield 10, [10, 0, 2, 1, 114]) ∧ px_at 149 67 = some (69, [], .aload 4, []) ∧ px_at 149 69 = some (72, [], .getfield 171, [2, 0, 2, 1, 23]) ∧ px_at 149 72 = some (74, [], .iload 6, []) ∧ px_at 149 74 = some (75, [], .laload, []) ∧ px_at 149 75 = some (76, [], .iload_n 2, []) ∧ px_at 149 76 = some (79, [], .invokevirtual 351, [106, 2, 8, 165]) ∧ px_at 149 79 = some (82, [], .ifCond .eq 15, [94]) ∧ px_at 149 82 = some (84, [], .iload 5, []) ∧ px_at 149 84 = some (85, [], .iload_n 3, []) ∧ px_at 149 85 = some (88, [], .if_icmp .ne 6, [91]) ∧ px_at 149 88 = some (90, [], .iload 6, []) ∧ px_at 149 90 = some (91, [], .ireturn, [0]) ∧ px_at 149 91 = some (94, [], .iinc 5 1, []) ∧ px_at 149 94 = some (97, [], .iinc 6 1, []) ∧ px_at 149 97 = some (100, [], .goto (-44), [53]) ∧ px_at 149 100 = some (101, [], .iload_n 3, []) ∧ px_at 149 101 = some (102, [], .iconst (-1), []) ∧ px_at 149 102 = some (105, [], .if_icmp .ne 8, [110]) ∧ px_at 149 105 = some (107, [], .iload 5, []) ∧ px_at 149 107 = some (110, [], .goto 5, [112]) ∧ px_at 149 110 = some (112, [], .bipush (-3), []) ∧ px_at 149 112 = some (113, [], .ireturn, [0]) := ⟨rfl, rfl, rfl, rfl, rfl, rfl, rfl, rfl, rfl, rfl, rfl, rfl, rfl, rfl, rfl, rfl, rfl, rfl, rfl, rfl, rfl, rfl, rfl, rfl, rfl, rfl, rfl, rfl, rfl, rfl, rfl, rfl, rfl, rfl, rfl, rfl, rfl, rfl, rfl, rfl, rfl, rfl, rfl, rfl, rfl, rfl, rfl, rfl, rfl, rfl, rfl, rfl, rfl, rfl, rfl, rfl⟩
set_option maxRecDepth 100000 in
/-- X11_weigh -/
theorem cd_150 : px_at 150 0 = some (1, [], .aload_n 0, []) ∧ px_at 150 1 = some (4, [], .getfield 26, [10, 2, 2, 1, 116]) ∧ px_at 150 4 = some (5, [], .iload_n 1, []) ∧ px_at 150 5 = some (8, [], .invokevirtual 162, [47, 1, 3, 61]) ∧ px_at 150 8 = some (9, [], .astore_n 3, []) ∧ px_at 150 9 = some (10, [], .aload_n 3, []) ∧ px_at 150 10 = some (13, [], .ifnull 14, [24]) ∧ px_at 150 13 = some (14, [], .aload_n 0, []) ∧ px_at 150 14 = some (17, [], .getfield 10, [10, 0, 2, 1, 114]) ∧ px_at 150 17 = some (18, [], .iload_n 2, []) ∧ px_at 150 18 = some (21, [], .invokevirtual 85, [102, 1, 8, 26]) ∧ px_at 150 21 = some (24, [], .ifCond .ne 5, [26]) ∧ px_at 150 24 = some (25, [], .iconst (-1), []) ∧ px_at 150 25 = some (26, [], .ireturn, [0]) ∧ px_at 150 26 = some (27, [], .aload_n 0, []) ∧ px_at 150 27 = some (30, [], .getfield 10, [10, 0, 2, 1, 114]) ∧ px_at 150 30 = some (31, [], .iconst 0, []) ∧ px_at 150 31 = some (32, [], .iload_n 2, []) ∧ px_at 150 32 = some (35, [], .invokevirtual 92, [103, 2, 8, 29]) ∧ px_at 150 35 = some (37, [], .lstore 4, []) ∧ px_at 150 37 = some (39, [], .lload 4, []) ∧ px_at 150 39 = some (40, [], .lconst 0, []) ∧ px_at 150 40 = some (41, [], .lcmp, []) ∧ px_at 150 41 = some (44, [], .ifCond .eq 12, [53]) ∧ px_at 150 44 = some (45, [], .aload_n 3, []) ∧ px_at 150 45 = some (47, [], .lload 4, []) ∧ px_at 150 47 = some (50, [], .invokevirtual 327, [39, 1, 2, 155]) ∧ px_at 150 50 = some (53, [], .ifCond .ne 6, [56]) ∧ px_at 150 53 = some (55, [], .bipush (-2), []) ∧ px_at 150 55 = some (56, [], .ireturn, [0]) ∧ px_at 150 56 = some (57, [], .iconst 0, []) ∧ px_at 150 57 = some (59, [], .istore 6, []) ∧ px_at 150 59 = some (60, [], .iconst 0, []) ∧ px_at 150 60 = some (62, [], .istore 7, []) ∧ px_at 150 62 = some (64, [1, 0, 0, 1, 1, 0, 1, 1], .iload 7, []) ∧ px_at 150 64 = some (65, [], .aload_n 3, []) ∧ px_at 150 65 = some (68, [], .getfield 166, [2, 2, 0, 0, 33]) ∧ px_at 150 68 = some (71, [], .if_icmp .ge 44, [112]) ∧ px_at 150 71 = some (72, [], .aload_n 3, []) ∧ px_at 150 72 = some (75, [], .getfield 171, [2, 0, 2, 1, 23]) ∧ px_at 150 75 = some (77, [], .iload 7, []) ∧ px_at 150 77 = some (78, [], .laload, []) ∧ px_at 150 78 = some (80, [], .lload 4, []) ∧ px_at 150 80 = some (83, [], .invokestatic 335, [66, 2, 0, 158]) ∧ px_at 150 83 = some (86, [], .ifCond .eq 23, [106]) ∧ px_at 150 86 = some (88, [], .iload 6, []) ∧ px_at 150 88 = some (89, [], .aload_n 0, []) ∧ px_at 150 89 = some (92, [], .getfield 42, [10, 4, 2, 1, 118]) ∧ px_at 150 92 = some (95, [], .getfield 318, [1, 0, 2, 1, 68]) ∧ px_at 150 95 = some (96, [], .aload_n 3, []) ∧ px_at 150 96 = some (99, [], .getfield 169, [2, 1, 2, 1, 28]) ∧ px_at 150 99 = some (101, [], .iload 7, []) ∧ px_at 150 101 = some (102, [], .iaload, []) ∧ px_at 150 102 = some (103, [], .iaload, []) ∧ px_at 150 103 = some (104, [], .iadd, []) ∧ px_at 150 104 = some (106, [], .istore 6, []) ∧ px_at 150 106 = some (109, [], .iinc 7 1, []) ∧ px_at 150 109 = some (112, [], .goto (-47), [62]) ∧ px_at 150 112 = some (114, [], .iload 6, []) ∧ px_at 150 114 = some (115, [], .ireturn, [0]) := ⟨rfl, rfl, rfl, rfl, rfl, rfl, rfl, rfl, rfl, rfl, rfl, rfl, rfl, rfl, rfl, rfl, rfl, rfl, rfl, rfl, rfl, rfl, rfl, rfl, rfl, rfl, rfl, rfl, rfl, rfl, rfl, rfl, rfl, rfl, rfl, rfl, rfl, rfl, rfl, rfl, rfl, rfl, rfl, rfl, rfl, rfl, rfl, rfl, rfl, rfl, rfl, rfl, rfl, rfl, rfl, rfl, rfl, rfl, rfl, rfl⟩
set_option maxRecDepth 100000 in
/-- X11_since -/
theorem cd_151 : px_at 151 0 = some (1, [], .aload_n 0, []) ∧ px_at 151 1 = some (4, [], .getfield 10, [10, 0, 2, 1, 114]) ∧ px_at 151 4 = some (5, [], .iload_n 1, []) ∧ px_at 151 5 = some (8, [], .invokevirtual 85, [102, 1, 8, 26]) ∧ px_at 151 8 = some (11, [], .ifCond .eq 7, [15]) ∧ px_at 151 11 = some (12, [], .iload_n 2, []) ∧ px_at 151 12 = some (15, [], .ifCond .ge 5, [17]) ∧ px_at 151 15 = some (16, [], .iconst (-1), []) ∧ px_at 151 16 = some (17, [], .ireturn, [0]) ∧ px_at 151 17 = some (18, [], .aload_n 0, []) ∧ px_at 151 18 = some (21, [], .getfield 10, [10, 0, 2, 1, 114]) ∧ px_at 151 21 = some (22, [], .iconst 0, []) ∧ px_at 151 22 = some (23, [], .iload_n 1, []) ∧ px_at 151 23 = some (26, [], .invokevirtual 92, [103, 2, 8, 29]) ∧ px_at 151 26 = some (27, [], .lstore_n 3, []) ∧ px_at 151 27 = some (28, [], .lload_n 3, []) ∧ px_at 151 28 = some (29, [], .lconst 0, []) ∧ px_at 151 29 = some (30, [], .lcmp, []) ∧ px_at 151 30 = some (33, [], .ifCond .ne 6, [36]) ∧ px_at 151 33 = some (35, [], .bipush (-2), []) ∧ px_at 151 35 = some (36, [], .ireturn, [0]) ∧ px_at 151 36 = some (37, [], .iconst 0, []) ∧ px_at 151 37 = some (39, [], .istore 5, []) ∧ px_at 151 39 = some (40, [], .iconst 0, []) ∧ px_at 151 40 = some (42, [], .istore 6, []) ∧ px_at 151 42 = some (44, [1, 0, 1, 1, 0, 1, 1, 0], .iload 6, []) ∧ px_at 151 44 = some (45, [], .aload_n 0, []) ∧ px_at 151 45 = some (48, [], .getfield 26, [10, 2, 2, 1, 116]) ∧ px_at 151 48 = some (51, [], .getfield 139, [3, 1, 0, 0, 50]) ∧ px_at 151 51 = some (54, [], .if_icmp .ge 50, [101]) ∧ px_at 151 54 = some (55, [], .aload_n 0, []) ∧ px_at 151 55 = some (58, [], .getfield 26, [10, 2, 2, 1, 116]) ∧ px_at 151 58 = some (60, [], .iload 6, []) ∧ px_at 151 60 = some (63, [], .invokevirtual 243, [45, 1, 3, 115]) ∧ px_at 151 63 = some (65, [], .astore 7, []) ∧ px_at 151 65 = some (67, [], .aload 7, []) ∧ px_at 151 67 = some (70, [], .ifnull 28, [95]) ∧ px_at 151 70 = some (71, [], .aload_n 0, []) ∧ px_at 151 71 = some (73, [], .aload 7, []) ∧ px_at 151 73 = some (74, [], .lload_n 3, []) ∧ px_at 151 74 = some (77, [], .invokevirtual 355, [152, 2, 10, 171]) ∧ px_at 151 77 = some (80, [], .ifCond .eq 18, [95]) ∧ px_at 151 80 = some (82, [], .iload 5, []) ∧ px_at 151 82 = some (83, [], .iload_n 2, []) ∧ px_at 151 83 = some (86, [], .if_icmp .ne 9, [92]) ∧ px_at 151 86 = some (88, [], .aload 7, []) ∧ px_at 151 88 = some (91, [], .getfield 225, [2, 3, 0, 0, 35]) ∧ px_at 151 91 = some (92, [], .ireturn, [0]) ∧ px_at 151 92 = some (95, [], .iinc 5 1, []) ∧ px_at 151 95 = some (98, [], .iinc 6 1, []) ∧ px_at 151 98 = some (101, [], .goto (-56), [42]) ∧ px_at 151 101 = some (103, [], .bipush (-2), []) ∧ px_at 151 103 = some (104, [], .ireturn, [0]) := ⟨rfl, rfl, rfl, rfl, rfl, rfl, rfl, rfl, rfl, rfl, rfl, rfl, rfl, rfl, rfl, rfl, rfl, rfl, rfl, rfl, rfl, rfl, rfl, rfl, rfl, rfl, rfl, rfl, rfl, rfl, rfl, rfl, rfl, rfl, rfl, rfl, rfl, rfl, rfl, rfl, rfl, rfl, rfl, rfl, rfl, rfl, rfl, rfl, rfl, rfl, rfl, rfl, rfl⟩
set_option maxRecDepth 100000 in
/-- X11_isNewIn -/
theorem cd_152 : px_at 152 0 = some (1, [], .aload_n 1, []) ∧ px_at 152 1 = some (2, [], .lload_n 2, []) ∧ px_at 152 2 = some (5, [], .invokevirtual 358, [38, 1, 2, 172]) ∧ px_at 152 5 = some (7, [], .istore 4, []) ∧ px_at 152 7 = some (9, [], .iload 4, []) ∧ px_at 152 9 = some (12, [], .ifCond .ge 5, [14]) ∧ px_at 152 12 = some (13, [], .iconst 0, []) ∧ px_at 152 13 = some (14, [], .ireturn, [4]) ∧ px_at 152 14 = some (15, [], .aload_n 0, []) ∧ px_at 152 15 = some (18, [], .getfield 26, [10, 2, 2, 1, 116]) ∧ px_at 152 18 = some (19, [], .aload_n 1, []) ∧ px_at 152 19 = some (22, [], .getfield 228, [2, 4, 0, 0, 38]) ∧ px_at 152 22 = some (25, [], .invokevirtual 162, [47, 1, 3, 61]) ∧ px_at 152 25 = some (27, [], .astore 5, []) ∧ px_at 152 27 = some (29, [], .aload 5, []) ∧ px_at 152 29 = some (32, [], .ifnull 14, [43]) ∧ px_at 152 32 = some (34, [], .aload 5, []) ∧ px_at 152 34 = some (35, [], .lload_n 2, []) ∧ px_at 152 35 = some (38, [], .invokevirtual 358, [38, 1, 2, 172]) ∧ px_at 152 38 = some (40, [], .iload 4, []) ∧ px_at 152 40 = some (43, [], .if_icmp .eq 7, [47]) ∧ px_at 152 43 = some (44, [], .iconst 1, []) ∧ px_at 152 44 = some (47, [], .goto 4, [48]) ∧ px_at 152 47 = some (48, [], .iconst 0, []) ∧ px_at 152 48 = some (49, [], .ireturn, [4]) := ⟨rfl, rfl, rfl, rfl, rfl, rfl, rfl, rfl, rfl, rfl, rfl, rfl, rfl, rfl, rfl, rfl, rfl, rfl, rfl, rfl, rfl, rfl, rfl, rfl, rfl⟩
set_option maxRecDepth 100000 in
/-- X11_came -/
theorem cd_153 : px_at 153 0 = some (1, [], .aload_n 0, []) ∧ px_at 153 1 = some (4, [], .getfield 26, [10, 2, 2, 1, 116]) ∧ px_at 153 4 = some (5, [], .iload_n 1, []) ∧ px_at 153 5 = some (8, [], .invokevirtual 162, [47, 1, 3, 61]) ∧ px_at 153 8 = some (9, [], .astore_n 3, []) ∧ px_at 153 9 = some (10, [], .aload_n 3, []) ∧ px_at 153 10 = some (13, [], .ifnull 11, [21]) ∧ px_at 153 13 = some (14, [], .aload_n 3, []) ∧ px_at 153 14 = some (15, [], .iload_n 2, []) ∧ px_at 153 15 = some (18, [], .invokevirtual 361, [36, 1, 2, 174]) ∧ px_at 153 18 = some (21, [], .ifCond .ne 5, [23]) ∧ px_at 153 21 = some (22, [], .iconst (-1), []) ∧ px_at 153 22 = some (23, [], .ireturn, [0]) ∧ px_at 153 23 = some (24, [], .aload_n 3, []) ∧ px_at 153 24 = some (27, [], .getfield 171, [2, 0, 2, 1, 23]) ∧ px_at 153 27 = some (28, [], .iload_n 2, []) ∧ px_at 153 28 = some (29, [], .laload, []) ∧ px_at 153 29 = some (31, [], .lstore 4, []) ∧ px_at 153 31 = some (32, [], .aload_n 3, []) ∧ px_at 153 32 = some (35, [], .getfield 169, [2, 1, 2, 1, 28]) ∧ px_at 153 35 = some (36, [], .iload_n 2, []) ∧ px_at 153 36 = some (37, [], .iaload, []) ∧ px_at 153 37 = some (39, [], .istore 6, []) ∧ px_at 153 39 = some (40, [], .iconst 0, []) ∧ px_at 153 40 = some (42, [], .istore 7, []) ∧ px_at 153 42 = some (44, [1, 0, 0, 1, 1, 0, 1, 1, 0], .iload 7, []) ∧ px_at 153 44 = some (46, [], .bipush 10, []) ∧ px_at 153 46 = some (49, [], .if_icmp .ge 47, [93]) ∧ px_at 153 49 = some (50, [], .aload_n 0, []) ∧ px_at 153 50 = some (53, [], .getfield 26, [10, 2, 2, 1, 116]) ∧ px_at 153 53 = some (54, [], .aload_n 3, []) ∧ px_at 153 54 = some (57, [], .getfield 228, [2, 4, 0, 0, 38]) ∧ px_at 153 57 = some (60, [], .invokevirtual 162, [47, 1, 3, 61]) ∧ px_at 153 60 = some (62, [], .astore 8, []) ∧ px_at 153 62 = some (64, [], .aload 8, []) ∧ px_at 153 64 = some (67, [], .ifnull 15, [79]) ∧ px_at 153 67 = some (69, [], .aload 8, []) ∧ px_at 153 69 = some (71, [], .lload 4, []) ∧ px_at 153 71 = some (74, [], .invokevirtual 358, [38, 1, 2, 172]) ∧ px_at 153 74 = some (76, [], .iload 6, []) ∧ px_at 153 76 = some (79, [], .if_icmp .eq 8, [84]) ∧ px_at 153 79 = some (80, [], .aload_n 3, []) ∧ px_at 153 80 = some (83, [], .getfield 225, [2, 3, 0, 0, 35]) ∧ px_at 153 83 = some (84, [], .ireturn, [0]) ∧ px_at 153 84 = some (86, [], .aload 8, []) ∧ px_at 153 86 = some (87, [], .astore_n 3, []) ∧ px_at 153 87 = some (90, [], .iinc 7 1, []) ∧ px_at 153 90 = some (93, [], .goto (-48), [42]) ∧ px_at 153 93 = some (94, [], .aload_n 3, []) ∧ px_at 153 94 = some (97, [], .getfield 225, [2, 3, 0, 0, 35]) ∧ px_at 153 97 = some (98, [], .ireturn, [0]) := ⟨rfl, rfl, rfl, rfl, rfl, rfl, rfl, rfl, rfl, rfl, rfl, rfl, rfl, rfl, rfl, rfl, rfl, rfl, rfl, rfl, rfl, rfl, rfl, rfl, rfl, rfl, rfl, rfl, rfl, rfl, rfl, rfl, rfl, rfl, rfl, rfl, rfl, rfl, rfl, rfl, rfl, rfl, rfl, rfl, rfl, rfl, rfl, rfl, rfl, rfl, rfl⟩
/-! EditionVault: like, weigh, since, came -/
/-- the k-th that is so, or how many are (k below 0) -/
noncomputable def nthR (n : Int) (p : Int → Prop) (k d : Int) : Int := if k < 0 then sm n (fun i => b1 (p i)) else if fnd n (fun i => p i ∧ sm i (fun j => b1 (p j)) = k) = -1 then d else fnd n (fun i => p i ∧ sm i (fun j => b1 (p j)) = k)
theorem nthR_neg {n : Int} {p : Int → Prop} {k d : Int} (h : k < 0) : nthR n p k d = sm n (fun i => b1 (p i)) := by unfold nthR; rw [if_pos h]
theorem nthR_hit {n : Int} {p : Int → Prop} {k d i : Int} (i0 : 0 ≤ i) (i1 : i < n) (hp : p i) (hs : sm i (fun j => b1 (p j)) = k) : nthR n p k d = i := by
  have h0 := sm_0le (n := i) (f := fun j => b1 (p j)) (fun j _ _ => (b1_rng _).1)
  have e : fnd n (fun i => p i ∧ sm i (fun j => b1 (p j)) = k) = i := fnd_hit i0 i1 ⟨hp, hs⟩ (fun j j0 j1 q => by
    have h1 := sm_mono (f := fun j => b1 (p j)) (n := i) (fun j _ _ => (b1_rng _).1) (i := j + 1) (by omega) (by omega)
    rw [sm_s j0, b1_t q.1] at h1
    have := q.2
    omega)
  unfold nthR
  rw [if_neg (by omega), e, if_neg (by omega)]
theorem nthR_miss {n : Int} {p : Int → Prop} {k d : Int} (hn : 0 ≤ n) (hk : 0 ≤ k) (hs : sm n (fun j => b1 (p j)) ≤ k) : nthR n p k d = d := by
  have e : fnd n (fun i => p i ∧ sm i (fun j => b1 (p j)) = k) = -1 := fnd_miss (fun j j0 j1 q => by
    have h1 := sm_mono (f := fun j => b1 (p j)) (n := n) (fun j _ _ => (b1_rng _).1) (i := j + 1) (by omega) (by omega)
    rw [sm_s j0, b1_t q.1] at h1
    have := q.2
    omega)
  unfold nthR
  rw [if_neg (by omega), e, if_pos rfl]
section PS
variable {M : px_mem} {Q : Option pv → px_mem → Prop}
/-- a path of a list fits the pattern -/
def ftP (M : px_mem) (q : Int) (pl : Int → List Int) (i : Int) : Prop := ftK (pl i) (M 3) q.toNat ((pl i).length : Int)
set_option maxHeartbeats 600000 in
set_option maxRecDepth 100000 in
theorem lp_like {e q k : Int} {pl : Int → List Int} (he : isE e) (hls : lsC M e pl) (hq : 1 ≤ q ∧ q ≤ 12 ∧ q ≤ M 2 1) (ht : M 2 1 ≤ 160) (hk : -1 ≤ k) (h : Q (some (0, nthR (M e 2) (ftP M q pl) k (-3))) M) (i : Int) (hk_i : i ≤ M e 2) : 0 ≤ i → (0 ≤ k → sm i (fun j => b1 (ftP M q pl j)) ≤ k) → px_WP 149 0 0 (px_Q0 LAY Q) 53 [(2, 1), (9, 0), (0, q), (0, k), (2, e), (0, sm i (fun j => b1 (ftP M q pl j))), (0, i)] [] LAY M 0 0 := by
  refine up_ind (P := fun i => 0 ≤ i → (0 ≤ k → sm i (fun j => b1 (ftP M q pl j)) ≤ k) → px_WP 149 0 0 (px_Q0 LAY Q) 53 [(2, 1), (9, 0), (0, q), (0, k), (2, e), (0, sm i (fun j => b1 (ftP M q pl j))), (0, i)] [] LAY M 0 0) (M e 2) (fun i hk_i ih => ?_) i hk_i
  intro i0 hle
  have hel := isE_lay he
  have heg := isE_gf he
  have hn := hls.1
  have hn2 := hls.2.1
  have hs := sm_s i0 (fun j => b1 (ftP M q pl j))
  have hb := sm_bnd (c := 1) i0 (f := fun j => b1 (ftP M q pl j)) (fun j _ _ => b1_rng _)
  refine px_go_ok (inl := []) 60 ?_
  simp only [px_go, px_Q0_at, px_sx_0, px_sx_s, px_cl, px_step, ↓px_ll, px_lg, f4_, ↓px_r1, ↓px_r2, ↓px_r4, ↓px_r5, ↓px_p1, ↓px_p2, ↓px_p3, ↓px_pop, px_k_0, px_k_s, px_k3_0, px_stk_, px_cats, px_ent, px_st1, px_st2, px_mask, ↓px_tsw, ↓px_lsw, ct_, mls_0, mls_1, mls_2, mls_3, mls_4, mls_5, kd_0, kd_1, kd_2, kd_3, ln_0, ln_1, ln_2, ln_3, gf_0, gf_1, gf_2, gf_3, gf_4, gf_7, gf_21, gf_63, dy_0, dy_1, dy_2, dy_3, dy_7, dy_21, px_brT, px_brF, true_and, and_true, and_false, false_and, and_self, true_implies, false_implies, or_true, true_or, or_false, false_or, eq_self, ne_eq, not_false_eq_true, not_true_eq_false, if_true, if_false, List.mem_cons, List.not_mem_nil, List.length_cons, List.length_nil, Nat.reduceEqDiff, Nat.reduceAdd, Nat.reduceSub, Nat.reduceLeDiff, Nat.reduceLT, Int.reduceEq, Int.reduceLT, Int.reduceLE, Int.reduceNeg, Int.reduceAdd, Int.reduceSub, Int.reduceToNat, ↓reduceIte, one_ne_zero_, zero_ne_one_, px_in32L, cd_149, hel, heg]
  repeat' (first | (with_reducible apply And.intro) | (with_reducible refine px_br_intro (fun _ => ?_) (fun _ => ?_)))
  all_goals (try (first | (unfold px_in32; omega) | omega))
  · rename_i c1 c2
    rw [nthR_neg (by omega), ← show i = M e 2 by omega] at h; exact h
  · rename_i c1 c2
    rw [nthR_miss hn (by omega) (by rw [← show i = M e 2 by omega]; exact hle (by omega))] at h; exact h
  · rename_i c1
    have hj := hls.2.2 i i0 (by omega)
    rw [hj.2.1]
    refine sp_fits hj.1 (by omega) hq.2.1 ⟨hq.2.2, ht⟩ (fun w => ?_) (fun w => ?_)
    · have w : ftP M q pl i := w
      rw [b1_t w] at hs
      simp only [px_go, px_Q0_at, px_sx_0, px_sx_s, px_cl, px_step, ↓px_ll, px_lg, f4_, ↓px_r1, ↓px_r2, ↓px_r4, ↓px_r5, ↓px_p1, ↓px_p2, ↓px_p3, ↓px_pop, px_k_0, px_k_s, px_k3_0, px_stk_, px_cats, px_ent, px_st1, px_st2, px_mask, ↓px_tsw, ↓px_lsw, ct_, mls_0, mls_1, mls_2, mls_3, mls_4, mls_5, kd_0, kd_1, kd_2, kd_3, ln_0, ln_1, ln_2, ln_3, gf_0, gf_1, gf_2, gf_3, gf_4, gf_7, gf_21, gf_63, dy_0, dy_1, dy_2, dy_3, dy_7, dy_21, px_brT, px_brF, true_and, and_true, and_false, false_and, and_self, true_implies, false_implies, or_true, true_or, or_false, false_or, eq_self, ne_eq, not_false_eq_true, not_true_eq_false, if_true, if_false, List.mem_cons, List.not_mem_nil, List.length_cons, List.length_nil, Nat.reduceEqDiff, Nat.reduceAdd, Nat.reduceSub, Nat.reduceLeDiff, Nat.reduceLT, Int.reduceEq, Int.reduceLT, Int.reduceLE, Int.reduceNeg, Int.reduceAdd, Int.reduceSub, Int.reduceToNat, ↓reduceIte, one_ne_zero_, zero_ne_one_, px_in32L, cd_149, hel, heg]
      repeat' (first | (with_reducible apply And.intro) | (with_reducible refine px_br_intro (fun _ => ?_) (fun _ => ?_)))
      all_goals (try (first | (unfold px_in32; omega) | omega))
      · rename_i c2
        rw [nthR_hit i0 (by omega) w c2] at h; exact h
      · rename_i c2
        have := ih (by omega) (by omega) (fun z => by have := hle z; omega)
        rw [hs] at this; exact this
    · have w : ¬ ftP M q pl i := w
      rw [b1_f w, Int.add_zero] at hs
      simp only [px_go, px_Q0_at, px_sx_0, px_sx_s, px_cl, px_step, ↓px_ll, px_lg, f4_, ↓px_r1, ↓px_r2, ↓px_r4, ↓px_r5, ↓px_p1, ↓px_p2, ↓px_p3, ↓px_pop, px_k_0, px_k_s, px_k3_0, px_stk_, px_cats, px_ent, px_st1, px_st2, px_mask, ↓px_tsw, ↓px_lsw, ct_, mls_0, mls_1, mls_2, mls_3, mls_4, mls_5, kd_0, kd_1, kd_2, kd_3, ln_0, ln_1, ln_2, ln_3, gf_0, gf_1, gf_2, gf_3, gf_4, gf_7, gf_21, gf_63, dy_0, dy_1, dy_2, dy_3, dy_7, dy_21, px_brT, px_brF, true_and, and_true, and_false, false_and, and_self, true_implies, false_implies, or_true, true_or, or_false, false_or, eq_self, ne_eq, not_false_eq_true, not_true_eq_false, if_true, if_false, List.mem_cons, List.not_mem_nil, List.length_cons, List.length_nil, Nat.reduceEqDiff, Nat.reduceAdd, Nat.reduceSub, Nat.reduceLeDiff, Nat.reduceLT, Int.reduceEq, Int.reduceLT, Int.reduceLE, Int.reduceNeg, Int.reduceAdd, Int.reduceSub, Int.reduceToNat, ↓reduceIte, one_ne_zero_, zero_ne_one_, px_in32L, cd_149, hel, heg]
      repeat' (first | (with_reducible apply And.intro) | (with_reducible refine px_br_intro (fun _ => ?_) (fun _ => ?_)))
      all_goals (try (first | (unfold px_in32; omega) | omega))
      have := ih (by omega) (by omega) (fun z => by have := hle z; omega)
      rw [hs] at this; exact this
set_option maxHeartbeats 600000 in
set_option maxRecDepth 100000 in
theorem sp_like {num q k : Int} {pl : Int → Int → List Int} {nm : Int → List Int} (ht : tpI M) (hed : edA M pl nm) (h0 : (slot M num < 0 ∨ ¬ wrd M q ∨ k < -1) → Q (some (0, -1)) M) (h2 : 0 ≤ slot M num → wrd M q → -1 ≤ k → ¬ (∀ b ∈ lst (M 3) q, isS b) → Q (some (0, -2)) M) (h1 : 0 ≤ slot M num → slot M num < M 20 1 → wrd M q → -1 ≤ k → (∀ b ∈ lst (M 3) q, isS b) → Q (some (0, nthR (M (M 21 (slot M num)) 2) (ftP M q (pl (slot M num))) k (-3))) M) : px_Ok 149 [(2, 1), (0, num), (0, q), (0, k)] LAY M Q := by
  have ht1 := ht.1
  have ht2 := ht.2.1
  have hw := hed.1
  have hn := hw.2.2
  unfold wrd at h0 h2 h1
  refine px_ok_go (inl := [101, 102]) (ls0 := [(2, 1), (0, num), (0, q), (0, k), (9, 0), (9, 0), (9, 0)]) 60 (by decide) (Nat.le_of_ble_eq_true rfl) rfl ?_
  simp only [px_go, px_Q0_at, px_sx_0, px_sx_s, px_cl, px_step, ↓px_ll, px_lg, f4_, ↓px_r1, ↓px_r2, ↓px_r4, ↓px_r5, ↓px_p1, ↓px_p2, ↓px_p3, ↓px_pop, px_k_0, px_k_s, px_k3_0, px_stk_, px_cats, px_ent, px_st1, px_st2, px_mask, ↓px_tsw, ↓px_lsw, ct_, mls_0, mls_1, mls_2, mls_3, mls_4, mls_5, kd_0, kd_1, kd_2, kd_3, ln_0, ln_1, ln_2, ln_3, gf_0, gf_1, gf_2, gf_3, gf_4, gf_7, gf_21, gf_63, dy_0, dy_1, dy_2, dy_3, dy_7, dy_21, px_brT, px_brF, true_and, and_true, and_false, false_and, and_self, true_implies, false_implies, or_true, true_or, or_false, false_or, eq_self, ne_eq, not_false_eq_true, not_true_eq_false, if_true, if_false, List.mem_cons, List.not_mem_nil, List.length_cons, List.length_nil, Nat.reduceEqDiff, Nat.reduceAdd, Nat.reduceSub, Nat.reduceLeDiff, Nat.reduceLT, Int.reduceEq, Int.reduceLT, Int.reduceLE, Int.reduceNeg, Int.reduceAdd, Int.reduceSub, Int.reduceToNat, ↓reduceIte, one_ne_zero_, zero_ne_one_, px_in32L, cd_149, cd_101, cd_102]
  repeat' (first | (with_reducible apply And.intro) | (with_reducible refine px_br_intro (fun _ => ?_) (fun _ => ?_)))
  all_goals (try (first | (unfold px_in32; omega) | omega))
  refine sp_numbered hw ?_
  unfold edR
  have hsr := slot_rng (M := M) num
  generalize slot M num = s at *
  by_cases qs : s < 0
  · rw [if_pos qs]
    simp only [px_go, px_Q0_at, px_sx_0, px_sx_s, px_cl, px_step, ↓px_ll, px_lg, f4_, ↓px_r1, ↓px_r2, ↓px_r4, ↓px_r5, ↓px_p1, ↓px_p2, ↓px_p3, ↓px_pop, px_k_0, px_k_s, px_k3_0, px_stk_, px_cats, px_ent, px_st1, px_st2, px_mask, ↓px_tsw, ↓px_lsw, ct_, mls_0, mls_1, mls_2, mls_3, mls_4, mls_5, kd_0, kd_1, kd_2, kd_3, ln_0, ln_1, ln_2, ln_3, gf_0, gf_1, gf_2, gf_3, gf_4, gf_7, gf_21, gf_63, dy_0, dy_1, dy_2, dy_3, dy_7, dy_21, px_brT, px_brF, true_and, and_true, and_false, false_and, and_self, true_implies, false_implies, or_true, true_or, or_false, false_or, eq_self, ne_eq, not_false_eq_true, not_true_eq_false, if_true, if_false, List.mem_cons, List.not_mem_nil, List.length_cons, List.length_nil, Nat.reduceEqDiff, Nat.reduceAdd, Nat.reduceSub, Nat.reduceLeDiff, Nat.reduceLT, Int.reduceEq, Int.reduceLT, Int.reduceLE, Int.reduceNeg, Int.reduceAdd, Int.reduceSub, Int.reduceToNat, ↓reduceIte, one_ne_zero_, zero_ne_one_, px_in32L, cd_149, cd_101, cd_102]
    exact h0 (Or.inl qs)
  · rw [if_neg qs]
    have hE := hw.1 s (by omega) (by omega)
    have hem := isE_m hE.1
    have hei := hed.2 s (by omega) (by omega)
    generalize M 21 s = e at *
    simp only [px_go, px_Q0_at, px_sx_0, px_sx_s, px_cl, px_step, ↓px_ll, px_lg, f4_, ↓px_r1, ↓px_r2, ↓px_r4, ↓px_r5, ↓px_p1, ↓px_p2, ↓px_p3, ↓px_pop, px_k_0, px_k_s, px_k3_0, px_stk_, px_cats, px_ent, px_st1, px_st2, px_mask, ↓px_tsw, ↓px_lsw, ct_, mls_0, mls_1, mls_2, mls_3, mls_4, mls_5, kd_0, kd_1, kd_2, kd_3, ln_0, ln_1, ln_2, ln_3, gf_0, gf_1, gf_2, gf_3, gf_4, gf_7, gf_21, gf_63, dy_0, dy_1, dy_2, dy_3, dy_7, dy_21, px_brT, px_brF, true_and, and_true, and_false, false_and, and_self, true_implies, false_implies, or_true, true_or, or_false, false_or, eq_self, ne_eq, not_false_eq_true, not_true_eq_false, if_true, if_false, List.mem_cons, List.not_mem_nil, List.length_cons, List.length_nil, Nat.reduceEqDiff, Nat.reduceAdd, Nat.reduceSub, Nat.reduceLeDiff, Nat.reduceLT, Int.reduceEq, Int.reduceLT, Int.reduceLE, Int.reduceNeg, Int.reduceAdd, Int.reduceSub, Int.reduceToNat, ↓reduceIte, one_ne_zero_, zero_ne_one_, px_in32L, cd_149, cd_101, cd_102]
    repeat' (first | (with_reducible apply And.intro) | (with_reducible refine px_br_intro (fun _ => ?_) (fun _ => ?_)))
    all_goals (try (first | (unfold px_in32; omega) | omega))
    all_goals (try exact h0 (Or.inr (Or.inl (by omega))))
    all_goals (try exact h0 (Or.inr (Or.inr (by omega))))
    refine sp_isPattern (by omega) (by omega) (by omega) (by omega) (fun w => ?_) (fun w => ?_)
    · simp only [px_go, px_Q0_at, px_sx_0, px_sx_s, px_cl, px_step, ↓px_ll, px_lg, f4_, ↓px_r1, ↓px_r2, ↓px_r4, ↓px_r5, ↓px_p1, ↓px_p2, ↓px_p3, ↓px_pop, px_k_0, px_k_s, px_k3_0, px_stk_, px_cats, px_ent, px_st1, px_st2, px_mask, ↓px_tsw, ↓px_lsw, ct_, mls_0, mls_1, mls_2, mls_3, mls_4, mls_5, kd_0, kd_1, kd_2, kd_3, ln_0, ln_1, ln_2, ln_3, gf_0, gf_1, gf_2, gf_3, gf_4, gf_7, gf_21, gf_63, dy_0, dy_1, dy_2, dy_3, dy_7, dy_21, px_brT, px_brF, true_and, and_true, and_false, false_and, and_self, true_implies, false_implies, or_true, true_or, or_false, false_or, eq_self, ne_eq, not_false_eq_true, not_true_eq_false, if_true, if_false, List.mem_cons, List.not_mem_nil, List.length_cons, List.length_nil, Nat.reduceEqDiff, Nat.reduceAdd, Nat.reduceSub, Nat.reduceLeDiff, Nat.reduceLT, Int.reduceEq, Int.reduceLT, Int.reduceLE, Int.reduceNeg, Int.reduceAdd, Int.reduceSub, Int.reduceToNat, ↓reduceIte, one_ne_zero_, zero_ne_one_, px_in32L, cd_149, cd_101, cd_102]
      exact lp_like hE.1 hei.1 (by omega) (by omega) (by omega) (h1 (by omega) (by omega) (by omega) (by omega) w) 0 hei.1.1 (Int.le_refl 0) (fun z => by rw [sm_0]; exact z)
    · simp only [px_go, px_Q0_at, px_sx_0, px_sx_s, px_cl, px_step, ↓px_ll, px_lg, f4_, ↓px_r1, ↓px_r2, ↓px_r4, ↓px_r5, ↓px_p1, ↓px_p2, ↓px_p3, ↓px_pop, px_k_0, px_k_s, px_k3_0, px_stk_, px_cats, px_ent, px_st1, px_st2, px_mask, ↓px_tsw, ↓px_lsw, ct_, mls_0, mls_1, mls_2, mls_3, mls_4, mls_5, kd_0, kd_1, kd_2, kd_3, ln_0, ln_1, ln_2, ln_3, gf_0, gf_1, gf_2, gf_3, gf_4, gf_7, gf_21, gf_63, dy_0, dy_1, dy_2, dy_3, dy_7, dy_21, px_brT, px_brF, true_and, and_true, and_false, false_and, and_self, true_implies, false_implies, or_true, true_or, or_false, false_or, eq_self, ne_eq, not_false_eq_true, not_true_eq_false, if_true, if_false, List.mem_cons, List.not_mem_nil, List.length_cons, List.length_nil, Nat.reduceEqDiff, Nat.reduceAdd, Nat.reduceSub, Nat.reduceLeDiff, Nat.reduceLT, Int.reduceEq, Int.reduceLT, Int.reduceLE, Int.reduceNeg, Int.reduceAdd, Int.reduceSub, Int.reduceToNat, ↓reduceIte, one_ne_zero_, zero_ne_one_, px_in32L, cd_149, cd_101, cd_102]
      exact h2 (by omega) (by omega) (by omega) w
set_option maxHeartbeats 600000 in
set_option maxRecDepth 100000 in
theorem lp_weigh {e : Int} {pl : Int → List Int} {t : List Int} (he : isE e) (hls : lsC M e pl) (ht : okp t) (hl : ∀ j, 0 ≤ j → j < M e 2 → 0 ≤ M 57 (M (e + 2) j) ∧ M 57 (M (e + 2) j) ≤ 40) (h : Q (some (0, sm (M e 2) (fun j => ifP (wi (pl j) t) (M 57 (M (e + 2) j))))) M) (i : Int) (hk_i : i ≤ M e 2) : 0 ≤ i → px_WP 150 0 0 (px_Q0 LAY Q) 62 [(2, 1), (9, 0), (9, 0), (2, e), (1, enc t), (9, 0), (0, sm i (fun j => ifP (wi (pl j) t) (M 57 (M (e + 2) j)))), (0, i)] [] LAY M 0 0 := by
  refine up_ind (P := fun i => 0 ≤ i → px_WP 150 0 0 (px_Q0 LAY Q) 62 [(2, 1), (9, 0), (9, 0), (2, e), (1, enc t), (9, 0), (0, sm i (fun j => ifP (wi (pl j) t) (M 57 (M (e + 2) j)))), (0, i)] [] LAY M 0 0) (M e 2) (fun i hk_i ih => ?_) i hk_i
  intro i0
  have hel := isE_lay he
  have heg := isE_gf he
  have hn2 := hls.2.1
  have hs := sm_s i0 (fun j => ifP (wi (pl j) t) (M 57 (M (e + 2) j)))
  have hb := sm_bnd (c := 40) i0 (f := fun j => ifP (wi (pl j) t) (M 57 (M (e + 2) j))) (fun j j0 j1 => ifP_rng (fun _ => hl j j0 (by omega)) (by decide))
  have hli := hl i i0
  have hcj := fun q => (hls.2.2 i i0 q).2.2
  refine px_go_ok (inl := []) 60 ?_
  simp only [px_go, px_Q0_at, px_sx_0, px_sx_s, px_cl, px_step, ↓px_ll, px_lg, f4_, ↓px_r1, ↓px_r2, ↓px_r4, ↓px_r5, ↓px_p1, ↓px_p2, ↓px_p3, ↓px_pop, px_k_0, px_k_s, px_k3_0, px_stk_, px_cats, px_ent, px_st1, px_st2, px_mask, ↓px_tsw, ↓px_lsw, ct_, mls_0, mls_1, mls_2, mls_3, mls_4, mls_5, kd_0, kd_1, kd_2, kd_3, ln_0, ln_1, ln_2, ln_3, gf_0, gf_1, gf_2, gf_3, gf_4, gf_7, gf_21, gf_63, dy_0, dy_1, dy_2, dy_3, dy_7, dy_21, px_brT, px_brF, true_and, and_true, and_false, false_and, and_self, true_implies, false_implies, or_true, true_or, or_false, false_or, eq_self, ne_eq, not_false_eq_true, not_true_eq_false, if_true, if_false, List.mem_cons, List.not_mem_nil, List.length_cons, List.length_nil, Nat.reduceEqDiff, Nat.reduceAdd, Nat.reduceSub, Nat.reduceLeDiff, Nat.reduceLT, Int.reduceEq, Int.reduceLT, Int.reduceLE, Int.reduceNeg, Int.reduceAdd, Int.reduceSub, Int.reduceToNat, ↓reduceIte, one_ne_zero_, zero_ne_one_, px_in32L, cd_150, hel, heg]
  repeat' (first | (with_reducible apply And.intro) | (with_reducible refine px_br_intro (fun _ => ?_) (fun _ => ?_)))
  all_goals (try (first | (unfold px_in32; omega) | omega))
  · rename_i c1
    rw [show i = M e 2 by omega]; exact h
  · rename_i c1
    have hj := hls.2.2 i i0 (by omega)
    rw [hj.2.1]
    refine sp_isWithin hj.1 ht (fun w => ?_) (fun w => ?_)
    · rw [ifP_t w] at hs
      simp only [px_go, px_Q0_at, px_sx_0, px_sx_s, px_cl, px_step, ↓px_ll, px_lg, f4_, ↓px_r1, ↓px_r2, ↓px_r4, ↓px_r5, ↓px_p1, ↓px_p2, ↓px_p3, ↓px_pop, px_k_0, px_k_s, px_k3_0, px_stk_, px_cats, px_ent, px_st1, px_st2, px_mask, ↓px_tsw, ↓px_lsw, ct_, mls_0, mls_1, mls_2, mls_3, mls_4, mls_5, kd_0, kd_1, kd_2, kd_3, ln_0, ln_1, ln_2, ln_3, gf_0, gf_1, gf_2, gf_3, gf_4, gf_7, gf_21, gf_63, dy_0, dy_1, dy_2, dy_3, dy_7, dy_21, px_brT, px_brF, true_and, and_true, and_false, false_and, and_self, true_implies, false_implies, or_true, true_or, or_false, false_or, eq_self, ne_eq, not_false_eq_true, not_true_eq_false, if_true, if_false, List.mem_cons, List.not_mem_nil, List.length_cons, List.length_nil, Nat.reduceEqDiff, Nat.reduceAdd, Nat.reduceSub, Nat.reduceLeDiff, Nat.reduceLT, Int.reduceEq, Int.reduceLT, Int.reduceLE, Int.reduceNeg, Int.reduceAdd, Int.reduceSub, Int.reduceToNat, ↓reduceIte, one_ne_zero_, zero_ne_one_, px_in32L, cd_150, hel, heg]
      repeat' (first | (with_reducible apply And.intro) | (with_reducible refine px_br_intro (fun _ => ?_) (fun _ => ?_)))
      all_goals (try (first | (unfold px_in32; omega) | omega))
      have := ih (by omega) (by omega)
      rw [hs] at this; exact this
    · rw [ifP_f w, Int.add_zero] at hs
      simp only [px_go, px_Q0_at, px_sx_0, px_sx_s, px_cl, px_step, ↓px_ll, px_lg, f4_, ↓px_r1, ↓px_r2, ↓px_r4, ↓px_r5, ↓px_p1, ↓px_p2, ↓px_p3, ↓px_pop, px_k_0, px_k_s, px_k3_0, px_stk_, px_cats, px_ent, px_st1, px_st2, px_mask, ↓px_tsw, ↓px_lsw, ct_, mls_0, mls_1, mls_2, mls_3, mls_4, mls_5, kd_0, kd_1, kd_2, kd_3, ln_0, ln_1, ln_2, ln_3, gf_0, gf_1, gf_2, gf_3, gf_4, gf_7, gf_21, gf_63, dy_0, dy_1, dy_2, dy_3, dy_7, dy_21, px_brT, px_brF, true_and, and_true, and_false, false_and, and_self, true_implies, false_implies, or_true, true_or, or_false, false_or, eq_self, ne_eq, not_false_eq_true, not_true_eq_false, if_true, if_false, List.mem_cons, List.not_mem_nil, List.length_cons, List.length_nil, Nat.reduceEqDiff, Nat.reduceAdd, Nat.reduceSub, Nat.reduceLeDiff, Nat.reduceLT, Int.reduceEq, Int.reduceLT, Int.reduceLE, Int.reduceNeg, Int.reduceAdd, Int.reduceSub, Int.reduceToNat, ↓reduceIte, one_ne_zero_, zero_ne_one_, px_in32L, cd_150, hel, heg]
      repeat' (first | (with_reducible apply And.intro) | (with_reducible refine px_br_intro (fun _ => ?_) (fun _ => ?_)))
      all_goals (try (first | (unfold px_in32; omega) | omega))
      have := ih (by omega) (by omega)
      rw [hs] at this; exact this
set_option maxHeartbeats 600000 in
set_option maxRecDepth 100000 in
theorem sp_weigh {num p : Int} {pl : Int → Int → List Int} {nm : Int → List Int} (ht : tpI M) (hed : edA M pl nm) (hci : ci M) (h0 : (slot M num < 0 ∨ ¬ wrd M p) → Q (some (0, -1)) M) (h2 : 0 ≤ slot M num → wrd M p → (isP (lst (M 3) p) → sm (M (M 21 (slot M num)) 2) (fun j => b1 (wi (pl (slot M num) j) (lst (M 3) p))) = 0) → Q (some (0, -2)) M) (h1 : 0 ≤ slot M num → slot M num < M 20 1 → wrd M p → isP (lst (M 3) p) → sm (M (M 21 (slot M num)) 2) (fun j => b1 (wi (pl (slot M num) j) (lst (M 3) p))) ≠ 0 → Q (some (0, sm (M (M 21 (slot M num)) 2) (fun j => ifP (wi (pl (slot M num) j) (lst (M 3) p)) (M 57 (M (M 21 (slot M num) + 2) j))))) M) : px_Ok 150 [(2, 1), (0, num), (0, p)] LAY M Q := by
  have ht1 := ht.1
  have ht2 := ht.2.1
  have hw := hed.1
  have hn := hw.2.2
  unfold wrd at h0 h2 h1
  have hlc0 := (lcmp_lt 0 0).2.1
  refine px_ok_go (inl := [101, 102]) (ls0 := [(2, 1), (0, num), (0, p), (9, 0), (9, 0), (9, 0), (9, 0), (9, 0)]) 140 (by decide) (Nat.le_of_ble_eq_true rfl) rfl ?_
  simp only [px_go, px_Q0_at, px_sx_0, px_sx_s, px_cl, px_step, ↓px_ll, px_lg, f4_, ↓px_r1, ↓px_r2, ↓px_r4, ↓px_r5, ↓px_p1, ↓px_p2, ↓px_p3, ↓px_pop, px_k_0, px_k_s, px_k3_0, px_stk_, px_cats, px_ent, px_st1, px_st2, px_mask, ↓px_tsw, ↓px_lsw, ct_, mls_0, mls_1, mls_2, mls_3, mls_4, mls_5, kd_0, kd_1, kd_2, kd_3, ln_0, ln_1, ln_2, ln_3, gf_0, gf_1, gf_2, gf_3, gf_4, gf_7, gf_21, gf_63, dy_0, dy_1, dy_2, dy_3, dy_7, dy_21, px_brT, px_brF, true_and, and_true, and_false, false_and, and_self, true_implies, false_implies, or_true, true_or, or_false, false_or, eq_self, ne_eq, not_false_eq_true, not_true_eq_false, if_true, if_false, List.mem_cons, List.not_mem_nil, List.length_cons, List.length_nil, Nat.reduceEqDiff, Nat.reduceAdd, Nat.reduceSub, Nat.reduceLeDiff, Nat.reduceLT, Int.reduceEq, Int.reduceLT, Int.reduceLE, Int.reduceNeg, Int.reduceAdd, Int.reduceSub, Int.reduceToNat, ↓reduceIte, one_ne_zero_, zero_ne_one_, px_in32L, cd_150, cd_101, cd_102]
  repeat' (first | (with_reducible apply And.intro) | (with_reducible refine px_br_intro (fun _ => ?_) (fun _ => ?_)))
  all_goals (try (first | (unfold px_in32; omega) | omega))
  refine sp_numbered hw ?_
  unfold edR
  have hsr := slot_rng (M := M) num
  generalize slot M num = s at *
  by_cases qs : s < 0
  · rw [if_pos qs]
    simp only [px_go, px_Q0_at, px_sx_0, px_sx_s, px_cl, px_step, ↓px_ll, px_lg, f4_, ↓px_r1, ↓px_r2, ↓px_r4, ↓px_r5, ↓px_p1, ↓px_p2, ↓px_p3, ↓px_pop, px_k_0, px_k_s, px_k3_0, px_stk_, px_cats, px_ent, px_st1, px_st2, px_mask, ↓px_tsw, ↓px_lsw, ct_, mls_0, mls_1, mls_2, mls_3, mls_4, mls_5, kd_0, kd_1, kd_2, kd_3, ln_0, ln_1, ln_2, ln_3, gf_0, gf_1, gf_2, gf_3, gf_4, gf_7, gf_21, gf_63, dy_0, dy_1, dy_2, dy_3, dy_7, dy_21, px_brT, px_brF, true_and, and_true, and_false, false_and, and_self, true_implies, false_implies, or_true, true_or, or_false, false_or, eq_self, ne_eq, not_false_eq_true, not_true_eq_false, if_true, if_false, List.mem_cons, List.not_mem_nil, List.length_cons, List.length_nil, Nat.reduceEqDiff, Nat.reduceAdd, Nat.reduceSub, Nat.reduceLeDiff, Nat.reduceLT, Int.reduceEq, Int.reduceLT, Int.reduceLE, Int.reduceNeg, Int.reduceAdd, Int.reduceSub, Int.reduceToNat, ↓reduceIte, one_ne_zero_, zero_ne_one_, px_in32L, cd_150, cd_101, cd_102]
    exact h0 (Or.inl qs)
  · rw [if_neg qs]
    have hE := hw.1 s (by omega) (by omega)
    have hem := isE_m hE.1
    have hel := isE_lay hE.1
    have heg := isE_gf hE.1
    have hei := hed.2 s (by omega) (by omega)
    generalize M 21 s = e at *
    simp only [px_go, px_Q0_at, px_sx_0, px_sx_s, px_cl, px_step, ↓px_ll, px_lg, f4_, ↓px_r1, ↓px_r2, ↓px_r4, ↓px_r5, ↓px_p1, ↓px_p2, ↓px_p3, ↓px_pop, px_k_0, px_k_s, px_k3_0, px_stk_, px_cats, px_ent, px_st1, px_st2, px_mask, ↓px_tsw, ↓px_lsw, ct_, mls_0, mls_1, mls_2, mls_3, mls_4, mls_5, kd_0, kd_1, kd_2, kd_3, ln_0, ln_1, ln_2, ln_3, gf_0, gf_1, gf_2, gf_3, gf_4, gf_7, gf_21, gf_63, dy_0, dy_1, dy_2, dy_3, dy_7, dy_21, px_brT, px_brF, true_and, and_true, and_false, false_and, and_self, true_implies, false_implies, or_true, true_or, or_false, false_or, eq_self, ne_eq, not_false_eq_true, not_true_eq_false, if_true, if_false, List.mem_cons, List.not_mem_nil, List.length_cons, List.length_nil, Nat.reduceEqDiff, Nat.reduceAdd, Nat.reduceSub, Nat.reduceLeDiff, Nat.reduceLT, Int.reduceEq, Int.reduceLT, Int.reduceLE, Int.reduceNeg, Int.reduceAdd, Int.reduceSub, Int.reduceToNat, ↓reduceIte, one_ne_zero_, zero_ne_one_, px_in32L, cd_150, cd_101, cd_102, hel, heg]
    repeat' (first | (with_reducible apply And.intro) | (with_reducible refine px_br_intro (fun _ => ?_) (fun _ => ?_)))
    all_goals (try (first | (unfold px_in32; omega) | omega))
    all_goals (try exact h0 (Or.inr (by omega)))
    refine sp_pathFrom (by decide) (by omega) (by omega) (by omega) (by omega) (fun hp => ?_) (fun hp => ?_)
    · rw [lst0] at hp ⊢
      have hok := isP_okp (by omega) hp
      have hlc := (lcmp_lt (enc (lst (M 3) p)) 0).2.1
      have he0 := enc_0 hok.1 hok.2
      simp only [px_go, px_Q0_at, px_sx_0, px_sx_s, px_cl, px_step, ↓px_ll, px_lg, f4_, ↓px_r1, ↓px_r2, ↓px_r4, ↓px_r5, ↓px_p1, ↓px_p2, ↓px_p3, ↓px_pop, px_k_0, px_k_s, px_k3_0, px_stk_, px_cats, px_ent, px_st1, px_st2, px_mask, ↓px_tsw, ↓px_lsw, ct_, mls_0, mls_1, mls_2, mls_3, mls_4, mls_5, kd_0, kd_1, kd_2, kd_3, ln_0, ln_1, ln_2, ln_3, gf_0, gf_1, gf_2, gf_3, gf_4, gf_7, gf_21, gf_63, dy_0, dy_1, dy_2, dy_3, dy_7, dy_21, px_brT, px_brF, true_and, and_true, and_false, false_and, and_self, true_implies, false_implies, or_true, true_or, or_false, false_or, eq_self, ne_eq, not_false_eq_true, not_true_eq_false, if_true, if_false, List.mem_cons, List.not_mem_nil, List.length_cons, List.length_nil, Nat.reduceEqDiff, Nat.reduceAdd, Nat.reduceSub, Nat.reduceLeDiff, Nat.reduceLT, Int.reduceEq, Int.reduceLT, Int.reduceLE, Int.reduceNeg, Int.reduceAdd, Int.reduceSub, Int.reduceToNat, ↓reduceIte, one_ne_zero_, zero_ne_one_, px_in32L, cd_150, cd_101, cd_102, hel, heg]
      repeat' (first | (with_reducible apply And.intro) | (with_reducible refine px_br_intro (fun _ => ?_) (fun _ => ?_)))
      all_goals (try (first | (unfold px_in32; omega) | omega))
      · rename_i c1 c2; exact absurd (he0.mp (hlc.mp c2)) (isP_ne hp)
      · refine sp_eWithin hE.1 hei.1 hok ?_
        have hbb := sm_bnd (c := 1) hei.1.1 (f := fun j => b1 (wi (pl s j) (lst (M 3) p))) (fun j _ _ => b1_rng _)
        have hn12 := hei.1.2.1
        simp only [px_go, px_Q0_at, px_sx_0, px_sx_s, px_cl, px_step, ↓px_ll, px_lg, f4_, ↓px_r1, ↓px_r2, ↓px_r4, ↓px_r5, ↓px_p1, ↓px_p2, ↓px_p3, ↓px_pop, px_k_0, px_k_s, px_k3_0, px_stk_, px_cats, px_ent, px_st1, px_st2, px_mask, ↓px_tsw, ↓px_lsw, ct_, mls_0, mls_1, mls_2, mls_3, mls_4, mls_5, kd_0, kd_1, kd_2, kd_3, ln_0, ln_1, ln_2, ln_3, gf_0, gf_1, gf_2, gf_3, gf_4, gf_7, gf_21, gf_63, dy_0, dy_1, dy_2, dy_3, dy_7, dy_21, px_brT, px_brF, true_and, and_true, and_false, false_and, and_self, true_implies, false_implies, or_true, true_or, or_false, false_or, eq_self, ne_eq, not_false_eq_true, not_true_eq_false, if_true, if_false, List.mem_cons, List.not_mem_nil, List.length_cons, List.length_nil, Nat.reduceEqDiff, Nat.reduceAdd, Nat.reduceSub, Nat.reduceLeDiff, Nat.reduceLT, Int.reduceEq, Int.reduceLT, Int.reduceLE, Int.reduceNeg, Int.reduceAdd, Int.reduceSub, Int.reduceToNat, ↓reduceIte, one_ne_zero_, zero_ne_one_, px_in32L, cd_150, cd_101, cd_102, hel, heg]
        repeat' (first | (with_reducible apply And.intro) | (with_reducible refine px_br_intro (fun _ => ?_) (fun _ => ?_)))
        all_goals (try (first | (unfold px_in32; omega) | omega))
        · rename_i c1 c2 c3; exact h2 (by omega) (by omega) (fun _ => c3)
        · rename_i c1 c2 c3
          refine lp_weigh hE.1 hei.1 hok (fun j j0 j1 => ?_) (h1 (by omega) (by omega) (by omega) hp c3) 0 hei.1.1 (Int.le_refl 0)
          have hj := hei.1.2.2 j j0 j1
          have := cokC (hci.1 _ hj.2.2.1 hj.2.2.2 (hei.2.2.1 j j0 j1).1)
          omega
    · rw [lst0] at hp
      simp only [px_go, px_Q0_at, px_sx_0, px_sx_s, px_cl, px_step, ↓px_ll, px_lg, f4_, ↓px_r1, ↓px_r2, ↓px_r4, ↓px_r5, ↓px_p1, ↓px_p2, ↓px_p3, ↓px_pop, px_k_0, px_k_s, px_k3_0, px_stk_, px_cats, px_ent, px_st1, px_st2, px_mask, ↓px_tsw, ↓px_lsw, ct_, mls_0, mls_1, mls_2, mls_3, mls_4, mls_5, kd_0, kd_1, kd_2, kd_3, ln_0, ln_1, ln_2, ln_3, gf_0, gf_1, gf_2, gf_3, gf_4, gf_7, gf_21, gf_63, dy_0, dy_1, dy_2, dy_3, dy_7, dy_21, px_brT, px_brF, true_and, and_true, and_false, false_and, and_self, true_implies, false_implies, or_true, true_or, or_false, false_or, eq_self, ne_eq, not_false_eq_true, not_true_eq_false, if_true, if_false, List.mem_cons, List.not_mem_nil, List.length_cons, List.length_nil, Nat.reduceEqDiff, Nat.reduceAdd, Nat.reduceSub, Nat.reduceLeDiff, Nat.reduceLT, Int.reduceEq, Int.reduceLT, Int.reduceLE, Int.reduceNeg, Int.reduceAdd, Int.reduceSub, Int.reduceToNat, ↓reduceIte, one_ne_zero_, zero_ne_one_, px_in32L, cd_150, cd_101, cd_102, hel, heg]
      repeat' (first | (with_reducible apply And.intro) | (with_reducible refine px_br_intro (fun _ => ?_) (fun _ => ?_)))
      all_goals (try (first | (unfold px_in32; omega) | omega))
      all_goals first
        | exact h2 (by omega) (by omega) (fun z => absurd z hp)
        | (rename_i c1 c2; exact absurd (hlc0.mpr rfl) c2)
/-- an edition's list has a path anew: not there, or other, in the one that it is of -/
def newI (M : px_mem) (pl : Int → Int → List Int) (t : List Int) (i : Int) : Prop := 0 ≤ cAt M (M 21 i) (pl i) t ∧ (slot M (M (M 21 i) 4) < 0 ∨ cAt M (M 21 (slot M (M (M 21 i) 4))) (pl (slot M (M (M 21 i) 4))) t ≠ cAt M (M 21 i) (pl i) t)
set_option maxHeartbeats 600000 in
set_option maxRecDepth 100000 in
theorem sp_isNewIn {i : Int} {t : List Int} {pl : Int → Int → List Int} {nm : Int → List Int} (hed : edA M pl nm) (hi : 0 ≤ i ∧ i < M 20 1) (ht : okp t) (h1 : newI M pl t i → Q (some (0, 1)) M) (h0 : ¬ newI M pl t i → Q (some (0, 0)) M) : px_Ok 152 [(2, 1), (2, M 21 i), (1, enc t)] LAY M Q := by
  have hw := hed.1
  have hn := hw.2.2
  have hE := hw.1 i hi.1 (by omega)
  have hei := hed.2 i hi.1 hi.2
  have hel := isE_lay hE.1
  have heg := isE_gf hE.1
  unfold newI at h1 h0
  refine px_ok_go (inl := []) (ls0 := [(2, 1), (2, M 21 i), (1, enc t), (9, 0), (9, 0), (9, 0)]) 60 (by decide) (Nat.le_of_ble_eq_true rfl) rfl ?_
  simp only [px_go, px_Q0_at, px_sx_0, px_sx_s, px_cl, px_step, ↓px_ll, px_lg, f4_, ↓px_r1, ↓px_r2, ↓px_r4, ↓px_r5, ↓px_p1, ↓px_p2, ↓px_p3, ↓px_pop, px_k_0, px_k_s, px_k3_0, px_stk_, px_cats, px_ent, px_st1, px_st2, px_mask, ↓px_tsw, ↓px_lsw, ct_, mls_0, mls_1, mls_2, mls_3, mls_4, mls_5, kd_0, kd_1, kd_2, kd_3, ln_0, ln_1, ln_2, ln_3, gf_0, gf_1, gf_2, gf_3, gf_4, gf_7, gf_21, gf_63, dy_0, dy_1, dy_2, dy_3, dy_7, dy_21, px_brT, px_brF, true_and, and_true, and_false, false_and, and_self, true_implies, false_implies, or_true, true_or, or_false, false_or, eq_self, ne_eq, not_false_eq_true, not_true_eq_false, if_true, if_false, List.mem_cons, List.not_mem_nil, List.length_cons, List.length_nil, Nat.reduceEqDiff, Nat.reduceAdd, Nat.reduceSub, Nat.reduceLeDiff, Nat.reduceLT, Int.reduceEq, Int.reduceLT, Int.reduceLE, Int.reduceNeg, Int.reduceAdd, Int.reduceSub, Int.reduceToNat, ↓reduceIte, one_ne_zero_, zero_ne_one_, px_in32L, cd_152, hel, heg]
  repeat' (first | (with_reducible apply And.intro) | (with_reducible refine px_br_intro (fun _ => ?_) (fun _ => ?_)))
  all_goals (try (first | (unfold px_in32; omega) | omega))
  refine sp_contentAt hE.1 hei.1 ht ?_
  generalize cAt M (M 21 i) (pl i) t = c at *
  simp only [px_go, px_Q0_at, px_sx_0, px_sx_s, px_cl, px_step, ↓px_ll, px_lg, f4_, ↓px_r1, ↓px_r2, ↓px_r4, ↓px_r5, ↓px_p1, ↓px_p2, ↓px_p3, ↓px_pop, px_k_0, px_k_s, px_k3_0, px_stk_, px_cats, px_ent, px_st1, px_st2, px_mask, ↓px_tsw, ↓px_lsw, ct_, mls_0, mls_1, mls_2, mls_3, mls_4, mls_5, kd_0, kd_1, kd_2, kd_3, ln_0, ln_1, ln_2, ln_3, gf_0, gf_1, gf_2, gf_3, gf_4, gf_7, gf_21, gf_63, dy_0, dy_1, dy_2, dy_3, dy_7, dy_21, px_brT, px_brF, true_and, and_true, and_false, false_and, and_self, true_implies, false_implies, or_true, true_or, or_false, false_or, eq_self, ne_eq, not_false_eq_true, not_true_eq_false, if_true, if_false, List.mem_cons, List.not_mem_nil, List.length_cons, List.length_nil, Nat.reduceEqDiff, Nat.reduceAdd, Nat.reduceSub, Nat.reduceLeDiff, Nat.reduceLT, Int.reduceEq, Int.reduceLT, Int.reduceLE, Int.reduceNeg, Int.reduceAdd, Int.reduceSub, Int.reduceToNat, ↓reduceIte, one_ne_zero_, zero_ne_one_, px_in32L, cd_152, hel, heg]
  repeat' (first | (with_reducible apply And.intro) | (with_reducible refine px_br_intro (fun _ => ?_) (fun _ => ?_)))
  all_goals (try (first | (unfold px_in32; omega) | omega))
  · rename_i c1
    refine sp_numbered hw ?_
    unfold edR
    have hsr := slot_rng (M := M) (M (M 21 i) 4)
    generalize slot M (M (M 21 i) 4) = s at *
    by_cases qs : s < 0
    · rw [if_pos qs]
      simp only [px_go, px_Q0_at, px_sx_0, px_sx_s, px_cl, px_step, ↓px_ll, px_lg, f4_, ↓px_r1, ↓px_r2, ↓px_r4, ↓px_r5, ↓px_p1, ↓px_p2, ↓px_p3, ↓px_pop, px_k_0, px_k_s, px_k3_0, px_stk_, px_cats, px_ent, px_st1, px_st2, px_mask, ↓px_tsw, ↓px_lsw, ct_, mls_0, mls_1, mls_2, mls_3, mls_4, mls_5, kd_0, kd_1, kd_2, kd_3, ln_0, ln_1, ln_2, ln_3, gf_0, gf_1, gf_2, gf_3, gf_4, gf_7, gf_21, gf_63, dy_0, dy_1, dy_2, dy_3, dy_7, dy_21, px_brT, px_brF, true_and, and_true, and_false, false_and, and_self, true_implies, false_implies, or_true, true_or, or_false, false_or, eq_self, ne_eq, not_false_eq_true, not_true_eq_false, if_true, if_false, List.mem_cons, List.not_mem_nil, List.length_cons, List.length_nil, Nat.reduceEqDiff, Nat.reduceAdd, Nat.reduceSub, Nat.reduceLeDiff, Nat.reduceLT, Int.reduceEq, Int.reduceLT, Int.reduceLE, Int.reduceNeg, Int.reduceAdd, Int.reduceSub, Int.reduceToNat, ↓reduceIte, one_ne_zero_, zero_ne_one_, px_in32L, cd_152, hel, heg]
      exact h1 ⟨c1, Or.inl qs⟩
    · rw [if_neg qs]
      have hE2 := hw.1 s (by omega) (by omega)
      have hem2 := isE_m hE2.1
      have hei2 := hed.2 s (by omega) (by omega)
      have hel2 := isE_lay hE2.1
      simp only [px_go, px_Q0_at, px_sx_0, px_sx_s, px_cl, px_step, ↓px_ll, px_lg, f4_, ↓px_r1, ↓px_r2, ↓px_r4, ↓px_r5, ↓px_p1, ↓px_p2, ↓px_p3, ↓px_pop, px_k_0, px_k_s, px_k3_0, px_stk_, px_cats, px_ent, px_st1, px_st2, px_mask, ↓px_tsw, ↓px_lsw, ct_, mls_0, mls_1, mls_2, mls_3, mls_4, mls_5, kd_0, kd_1, kd_2, kd_3, ln_0, ln_1, ln_2, ln_3, gf_0, gf_1, gf_2, gf_3, gf_4, gf_7, gf_21, gf_63, dy_0, dy_1, dy_2, dy_3, dy_7, dy_21, px_brT, px_brF, true_and, and_true, and_false, false_and, and_self, true_implies, false_implies, or_true, true_or, or_false, false_or, eq_self, ne_eq, not_false_eq_true, not_true_eq_false, if_true, if_false, List.mem_cons, List.not_mem_nil, List.length_cons, List.length_nil, Nat.reduceEqDiff, Nat.reduceAdd, Nat.reduceSub, Nat.reduceLeDiff, Nat.reduceLT, Int.reduceEq, Int.reduceLT, Int.reduceLE, Int.reduceNeg, Int.reduceAdd, Int.reduceSub, Int.reduceToNat, ↓reduceIte, one_ne_zero_, zero_ne_one_, px_in32L, cd_152, hel, heg, hel2]
      repeat' (first | (with_reducible apply And.intro) | (with_reducible refine px_br_intro (fun _ => ?_) (fun _ => ?_)))
      all_goals (try (first | (unfold px_in32; omega) | omega))
      refine sp_contentAt hE2.1 hei2.1 ht ?_
      simp only [px_go, px_Q0_at, px_sx_0, px_sx_s, px_cl, px_step, ↓px_ll, px_lg, f4_, ↓px_r1, ↓px_r2, ↓px_r4, ↓px_r5, ↓px_p1, ↓px_p2, ↓px_p3, ↓px_pop, px_k_0, px_k_s, px_k3_0, px_stk_, px_cats, px_ent, px_st1, px_st2, px_mask, ↓px_tsw, ↓px_lsw, ct_, mls_0, mls_1, mls_2, mls_3, mls_4, mls_5, kd_0, kd_1, kd_2, kd_3, ln_0, ln_1, ln_2, ln_3, gf_0, gf_1, gf_2, gf_3, gf_4, gf_7, gf_21, gf_63, dy_0, dy_1, dy_2, dy_3, dy_7, dy_21, px_brT, px_brF, true_and, and_true, and_false, false_and, and_self, true_implies, false_implies, or_true, true_or, or_false, false_or, eq_self, ne_eq, not_false_eq_true, not_true_eq_false, if_true, if_false, List.mem_cons, List.not_mem_nil, List.length_cons, List.length_nil, Nat.reduceEqDiff, Nat.reduceAdd, Nat.reduceSub, Nat.reduceLeDiff, Nat.reduceLT, Int.reduceEq, Int.reduceLT, Int.reduceLE, Int.reduceNeg, Int.reduceAdd, Int.reduceSub, Int.reduceToNat, ↓reduceIte, one_ne_zero_, zero_ne_one_, px_in32L, cd_152, hel, heg, hel2]
      repeat' (first | (with_reducible apply And.intro) | (with_reducible refine px_br_intro (fun _ => ?_) (fun _ => ?_)))
      · rename_i c2; exact h0 (fun z => by
          rcases z.2 with w | w
          · omega
          · exact w c2)
      · rename_i c2; exact h1 ⟨c1, Or.inr c2⟩
  · rename_i c1
    exact h0 (fun z => by have := z.1; omega)
set_option maxHeartbeats 600000 in
set_option maxRecDepth 100000 in
theorem lp_since {k : Int} {t : List Int} {pl : Int → Int → List Int} {nm : Int → List Int} (hed : edA M pl nm) (ht : okp t) (hk : 0 ≤ k) (h : Q (some (0, if nthR (M 20 1) (newI M pl t) k (-1) < 0 then -2 else M (M 21 (nthR (M 20 1) (newI M pl t) k (-1))) 3)) M) (i : Int) (hk_i : i ≤ M 20 1) : 0 ≤ i → sm i (fun j => b1 (newI M pl t j)) ≤ k → px_WP 151 0 0 (px_Q0 LAY Q) 42 [(2, 1), (9, 0), (0, k), (1, enc t), (9, 0), (0, sm i (fun j => b1 (newI M pl t j))), (0, i), (9, 0)] [] LAY M 0 0 := by
  refine up_ind (P := fun i => 0 ≤ i → sm i (fun j => b1 (newI M pl t j)) ≤ k → px_WP 151 0 0 (px_Q0 LAY Q) 42 [(2, 1), (9, 0), (0, k), (1, enc t), (9, 0), (0, sm i (fun j => b1 (newI M pl t j))), (0, i), (9, 0)] [] LAY M 0 0) (M 20 1) (fun i hk_i ih => ?_) i hk_i
  intro i0 hle
  have hw := hed.1
  have hn := hw.2.2
  have hs := sm_s i0 (fun j => b1 (newI M pl t j))
  have hb := sm_bnd (c := 1) i0 (f := fun j => b1 (newI M pl t j)) (fun j _ _ => b1_rng _)
  have hEi := fun q => hw.1 i i0 q
  have hem : i < 10 → M 21 i ≠ 0 := fun q => by have := isE_m (hEi q).1; omega
  refine px_go_ok (inl := [45]) 60 ?_
  simp only [px_go, px_Q0_at, px_sx_0, px_sx_s, px_cl, px_step, ↓px_ll, px_lg, f4_, ↓px_r1, ↓px_r2, ↓px_r4, ↓px_r5, ↓px_p1, ↓px_p2, ↓px_p3, ↓px_pop, px_k_0, px_k_s, px_k3_0, px_stk_, px_cats, px_ent, px_st1, px_st2, px_mask, ↓px_tsw, ↓px_lsw, ct_, mls_0, mls_1, mls_2, mls_3, mls_4, mls_5, kd_0, kd_1, kd_2, kd_3, ln_0, ln_1, ln_2, ln_3, gf_0, gf_1, gf_2, gf_3, gf_4, gf_7, gf_21, gf_63, dy_0, dy_1, dy_2, dy_3, dy_7, dy_21, px_brT, px_brF, true_and, and_true, and_false, false_and, and_self, true_implies, false_implies, or_true, true_or, or_false, false_or, eq_self, ne_eq, not_false_eq_true, not_true_eq_false, if_true, if_false, List.mem_cons, List.not_mem_nil, List.length_cons, List.length_nil, Nat.reduceEqDiff, Nat.reduceAdd, Nat.reduceSub, Nat.reduceLeDiff, Nat.reduceLT, Int.reduceEq, Int.reduceLT, Int.reduceLE, Int.reduceNeg, Int.reduceAdd, Int.reduceSub, Int.reduceToNat, ↓reduceIte, one_ne_zero_, zero_ne_one_, px_in32L, cd_151, cd_45]
  repeat' (first | (with_reducible apply And.intro) | (with_reducible refine px_br_intro (fun _ => ?_) (fun _ => ?_)))
  all_goals (try (first | (unfold px_in32; omega) | omega))
  · rename_i c1
    rw [nthR_miss hn.1 hk (by rw [← show i = M 20 1 by omega]; exact hle), if_pos (by decide)] at h; exact h
  · rename_i c1 c2
    have hE := hEi (by omega)
    refine sp_isNewIn hed ⟨i0, by omega⟩ ht (fun w => ?_) (fun w => ?_)
    · rw [b1_t w] at hs
      simp only [px_go, px_Q0_at, px_sx_0, px_sx_s, px_cl, px_step, ↓px_ll, px_lg, f4_, ↓px_r1, ↓px_r2, ↓px_r4, ↓px_r5, ↓px_p1, ↓px_p2, ↓px_p3, ↓px_pop, px_k_0, px_k_s, px_k3_0, px_stk_, px_cats, px_ent, px_st1, px_st2, px_mask, ↓px_tsw, ↓px_lsw, ct_, mls_0, mls_1, mls_2, mls_3, mls_4, mls_5, kd_0, kd_1, kd_2, kd_3, ln_0, ln_1, ln_2, ln_3, gf_0, gf_1, gf_2, gf_3, gf_4, gf_7, gf_21, gf_63, dy_0, dy_1, dy_2, dy_3, dy_7, dy_21, px_brT, px_brF, true_and, and_true, and_false, false_and, and_self, true_implies, false_implies, or_true, true_or, or_false, false_or, eq_self, ne_eq, not_false_eq_true, not_true_eq_false, if_true, if_false, List.mem_cons, List.not_mem_nil, List.length_cons, List.length_nil, Nat.reduceEqDiff, Nat.reduceAdd, Nat.reduceSub, Nat.reduceLeDiff, Nat.reduceLT, Int.reduceEq, Int.reduceLT, Int.reduceLE, Int.reduceNeg, Int.reduceAdd, Int.reduceSub, Int.reduceToNat, ↓reduceIte, one_ne_zero_, zero_ne_one_, px_in32L, cd_151, cd_45, (isE_lay hE.1).1, isE_gf hE.1]
      repeat' (first | (with_reducible apply And.intro) | (with_reducible refine px_br_intro (fun _ => ?_) (fun _ => ?_)))
      all_goals (try (first | (unfold px_in32; omega) | omega))
      · rename_i c3
        rw [nthR_hit i0 (by omega) w c3, if_neg (by omega)] at h; exact h
      · rename_i c3
        have := ih (by omega) (by omega) (by omega)
        rw [hs] at this; exact this
    · rw [b1_f w, Int.add_zero] at hs
      simp only [px_go, px_Q0_at, px_sx_0, px_sx_s, px_cl, px_step, ↓px_ll, px_lg, f4_, ↓px_r1, ↓px_r2, ↓px_r4, ↓px_r5, ↓px_p1, ↓px_p2, ↓px_p3, ↓px_pop, px_k_0, px_k_s, px_k3_0, px_stk_, px_cats, px_ent, px_st1, px_st2, px_mask, ↓px_tsw, ↓px_lsw, ct_, mls_0, mls_1, mls_2, mls_3, mls_4, mls_5, kd_0, kd_1, kd_2, kd_3, ln_0, ln_1, ln_2, ln_3, gf_0, gf_1, gf_2, gf_3, gf_4, gf_7, gf_21, gf_63, dy_0, dy_1, dy_2, dy_3, dy_7, dy_21, px_brT, px_brF, true_and, and_true, and_false, false_and, and_self, true_implies, false_implies, or_true, true_or, or_false, false_or, eq_self, ne_eq, not_false_eq_true, not_true_eq_false, if_true, if_false, List.mem_cons, List.not_mem_nil, List.length_cons, List.length_nil, Nat.reduceEqDiff, Nat.reduceAdd, Nat.reduceSub, Nat.reduceLeDiff, Nat.reduceLT, Int.reduceEq, Int.reduceLT, Int.reduceLE, Int.reduceNeg, Int.reduceAdd, Int.reduceSub, Int.reduceToNat, ↓reduceIte, one_ne_zero_, zero_ne_one_, px_in32L, cd_151, cd_45]
      repeat' (first | (with_reducible apply And.intro) | (with_reducible refine px_br_intro (fun _ => ?_) (fun _ => ?_)))
      all_goals (try (first | (unfold px_in32; omega) | omega))
      have := ih (by omega) (by omega) (by omega)
      rw [hs] at this; exact this
set_option maxHeartbeats 600000 in
set_option maxRecDepth 100000 in
theorem sp_since {p k : Int} {pl : Int → Int → List Int} {nm : Int → List Int} (ht : tpI M) (hed : edA M pl nm) (h0 : (¬ wrd M p ∨ k < 0) → Q (some (0, -1)) M) (h2 : wrd M p → 0 ≤ k → ¬ isP (lst (M 3) p) → Q (some (0, -2)) M) (h1 : wrd M p → 0 ≤ k → isP (lst (M 3) p) → Q (some (0, if nthR (M 20 1) (newI M pl (lst (M 3) p)) k (-1) < 0 then -2 else M (M 21 (nthR (M 20 1) (newI M pl (lst (M 3) p)) k (-1))) 3)) M) : px_Ok 151 [(2, 1), (0, p), (0, k)] LAY M Q := by
  have ht1 := ht.1
  have ht2 := ht.2.1
  have hw := hed.1
  unfold wrd at h0 h2 h1
  have hlc0 := (lcmp_lt 0 0).2.1
  refine px_ok_go (inl := [101, 102]) (ls0 := [(2, 1), (0, p), (0, k), (9, 0), (9, 0), (9, 0), (9, 0), (9, 0)]) 60 (by decide) (Nat.le_of_ble_eq_true rfl) rfl ?_
  simp only [px_go, px_Q0_at, px_sx_0, px_sx_s, px_cl, px_step, ↓px_ll, px_lg, f4_, ↓px_r1, ↓px_r2, ↓px_r4, ↓px_r5, ↓px_p1, ↓px_p2, ↓px_p3, ↓px_pop, px_k_0, px_k_s, px_k3_0, px_stk_, px_cats, px_ent, px_st1, px_st2, px_mask, ↓px_tsw, ↓px_lsw, ct_, mls_0, mls_1, mls_2, mls_3, mls_4, mls_5, kd_0, kd_1, kd_2, kd_3, ln_0, ln_1, ln_2, ln_3, gf_0, gf_1, gf_2, gf_3, gf_4, gf_7, gf_21, gf_63, dy_0, dy_1, dy_2, dy_3, dy_7, dy_21, px_brT, px_brF, true_and, and_true, and_false, false_and, and_self, true_implies, false_implies, or_true, true_or, or_false, false_or, eq_self, ne_eq, not_false_eq_true, not_true_eq_false, if_true, if_false, List.mem_cons, List.not_mem_nil, List.length_cons, List.length_nil, Nat.reduceEqDiff, Nat.reduceAdd, Nat.reduceSub, Nat.reduceLeDiff, Nat.reduceLT, Int.reduceEq, Int.reduceLT, Int.reduceLE, Int.reduceNeg, Int.reduceAdd, Int.reduceSub, Int.reduceToNat, ↓reduceIte, one_ne_zero_, zero_ne_one_, px_in32L, cd_151, cd_101, cd_102]
  repeat' (first | (with_reducible apply And.intro) | (with_reducible refine px_br_intro (fun _ => ?_) (fun _ => ?_)))
  all_goals (try (first | (unfold px_in32; omega) | omega))
  all_goals (try exact h0 (Or.inl (by omega)))
  all_goals (try exact h0 (Or.inr (by omega)))
  refine sp_pathFrom (by decide) (by omega) (by omega) (by omega) (by omega) (fun hp => ?_) (fun hp => ?_)
  · rw [lst0] at hp ⊢
    have hok := isP_okp (by omega) hp
    have hlc := (lcmp_lt (enc (lst (M 3) p)) 0).2.1
    have he0 := enc_0 hok.1 hok.2
    simp only [px_go, px_Q0_at, px_sx_0, px_sx_s, px_cl, px_step, ↓px_ll, px_lg, f4_, ↓px_r1, ↓px_r2, ↓px_r4, ↓px_r5, ↓px_p1, ↓px_p2, ↓px_p3, ↓px_pop, px_k_0, px_k_s, px_k3_0, px_stk_, px_cats, px_ent, px_st1, px_st2, px_mask, ↓px_tsw, ↓px_lsw, ct_, mls_0, mls_1, mls_2, mls_3, mls_4, mls_5, kd_0, kd_1, kd_2, kd_3, ln_0, ln_1, ln_2, ln_3, gf_0, gf_1, gf_2, gf_3, gf_4, gf_7, gf_21, gf_63, dy_0, dy_1, dy_2, dy_3, dy_7, dy_21, px_brT, px_brF, true_and, and_true, and_false, false_and, and_self, true_implies, false_implies, or_true, true_or, or_false, false_or, eq_self, ne_eq, not_false_eq_true, not_true_eq_false, if_true, if_false, List.mem_cons, List.not_mem_nil, List.length_cons, List.length_nil, Nat.reduceEqDiff, Nat.reduceAdd, Nat.reduceSub, Nat.reduceLeDiff, Nat.reduceLT, Int.reduceEq, Int.reduceLT, Int.reduceLE, Int.reduceNeg, Int.reduceAdd, Int.reduceSub, Int.reduceToNat, ↓reduceIte, one_ne_zero_, zero_ne_one_, px_in32L, cd_151, cd_101, cd_102]
    repeat' (first | (with_reducible apply And.intro) | (with_reducible refine px_br_intro (fun _ => ?_) (fun _ => ?_)))
    all_goals (try (first | (unfold px_in32; omega) | omega))
    · rename_i c1; exact absurd (he0.mp (hlc.mp c1)) (isP_ne hp)
    · exact lp_since hed hok (by omega) (h1 (by omega) (by omega) hp) 0 hw.2.2.1 (Int.le_refl 0) (by rw [sm_0]; omega)
  · rw [lst0] at hp
    simp only [px_go, px_Q0_at, px_sx_0, px_sx_s, px_cl, px_step, ↓px_ll, px_lg, f4_, ↓px_r1, ↓px_r2, ↓px_r4, ↓px_r5, ↓px_p1, ↓px_p2, ↓px_p3, ↓px_pop, px_k_0, px_k_s, px_k3_0, px_stk_, px_cats, px_ent, px_st1, px_st2, px_mask, ↓px_tsw, ↓px_lsw, ct_, mls_0, mls_1, mls_2, mls_3, mls_4, mls_5, kd_0, kd_1, kd_2, kd_3, ln_0, ln_1, ln_2, ln_3, gf_0, gf_1, gf_2, gf_3, gf_4, gf_7, gf_21, gf_63, dy_0, dy_1, dy_2, dy_3, dy_7, dy_21, px_brT, px_brF, true_and, and_true, and_false, false_and, and_self, true_implies, false_implies, or_true, true_or, or_false, false_or, eq_self, ne_eq, not_false_eq_true, not_true_eq_false, if_true, if_false, List.mem_cons, List.not_mem_nil, List.length_cons, List.length_nil, Nat.reduceEqDiff, Nat.reduceAdd, Nat.reduceSub, Nat.reduceLeDiff, Nat.reduceLT, Int.reduceEq, Int.reduceLT, Int.reduceLE, Int.reduceNeg, Int.reduceAdd, Int.reduceSub, Int.reduceToNat, ↓reduceIte, one_ne_zero_, zero_ne_one_, px_in32L, cd_151, cd_101, cd_102]
    repeat' (first | (with_reducible apply And.intro) | (with_reducible refine px_br_intro (fun _ => ?_) (fun _ => ?_)))
    all_goals (try (first | (unfold px_in32; omega) | omega))
    all_goals first
      | exact h2 (by omega) (by omega) hp
      | (rename_i c1; exact absurd (hlc0.mpr rfl) c1)
/-- how far back a content of a path goes -/
noncomputable def cameF (M : px_mem) (pl : Int → Int → List Int) (t : List Int) (c : Int) : Nat → Int → Int
  | 0, s => s
  | k + 1, s => if slot M (M (M 21 s) 4) < 0 then s else if cAt M (M 21 (slot M (M (M 21 s) 4))) (pl (slot M (M (M 21 s) 4))) t = c then cameF M pl t c k (slot M (M (M 21 s) 4)) else s
set_option maxHeartbeats 600000 in
set_option maxRecDepth 100000 in
theorem lp_came {t : List Int} {c r : Int} {pl : Int → Int → List Int} {nm : Int → List Int} (hed : edA M pl nm) (ht : okp t) (h : Q (some (0, M (M 21 r) 3)) M) (k : Int) (hk_k : k ≤ 10) : ∀ s, 0 ≤ k → (0 ≤ s ∧ s < M 20 1) ∧ cameF M pl t c (10 - k).toNat s = r → px_WP 153 0 0 (px_Q0 LAY Q) 42 [(2, 1), (9, 0), (9, 0), (2, M 21 s), (1, enc t), (9, 0), (0, c), (0, k), (9, 0)] [] LAY M 0 0 := by
  refine up_ind (P := fun k => ∀ s, 0 ≤ k → (0 ≤ s ∧ s < M 20 1) ∧ cameF M pl t c (10 - k).toNat s = r → px_WP 153 0 0 (px_Q0 LAY Q) 42 [(2, 1), (9, 0), (9, 0), (2, M 21 s), (1, enc t), (9, 0), (0, c), (0, k), (9, 0)] [] LAY M 0 0) (10) (fun k hk_k ih => ?_) k hk_k
  intro s k0 hs
  have hw := hed.1
  have hn := hw.2.2
  have hE := hw.1 s hs.1.1 (by omega)
  have hel := isE_lay hE.1
  have heg := isE_gf hE.1
  have hcf := hs.2
  refine px_go_ok (inl := []) 60 ?_
  simp only [px_go, px_Q0_at, px_sx_0, px_sx_s, px_cl, px_step, ↓px_ll, px_lg, f4_, ↓px_r1, ↓px_r2, ↓px_r4, ↓px_r5, ↓px_p1, ↓px_p2, ↓px_p3, ↓px_pop, px_k_0, px_k_s, px_k3_0, px_stk_, px_cats, px_ent, px_st1, px_st2, px_mask, ↓px_tsw, ↓px_lsw, ct_, mls_0, mls_1, mls_2, mls_3, mls_4, mls_5, kd_0, kd_1, kd_2, kd_3, ln_0, ln_1, ln_2, ln_3, gf_0, gf_1, gf_2, gf_3, gf_4, gf_7, gf_21, gf_63, dy_0, dy_1, dy_2, dy_3, dy_7, dy_21, px_brT, px_brF, true_and, and_true, and_false, false_and, and_self, true_implies, false_implies, or_true, true_or, or_false, false_or, eq_self, ne_eq, not_false_eq_true, not_true_eq_false, if_true, if_false, List.mem_cons, List.not_mem_nil, List.length_cons, List.length_nil, Nat.reduceEqDiff, Nat.reduceAdd, Nat.reduceSub, Nat.reduceLeDiff, Nat.reduceLT, Int.reduceEq, Int.reduceLT, Int.reduceLE, Int.reduceNeg, Int.reduceAdd, Int.reduceSub, Int.reduceToNat, ↓reduceIte, one_ne_zero_, zero_ne_one_, px_in32L, cd_153, hel, heg]
  repeat' (first | (with_reducible apply And.intro) | (with_reducible refine px_br_intro (fun _ => ?_) (fun _ => ?_)))
  all_goals (try (first | (unfold px_in32; omega) | omega))
  · rename_i c1
    rw [show (10 - k).toNat = 0 by omega] at hcf
    have e : s = r := hcf
    rw [e]; exact h
  · rename_i c1
    rw [show (10 - k).toNat = (10 - (k + 1)).toNat + 1 by omega] at hcf
    have hcf : (if slot M (M (M 21 s) 4) < 0 then s else if cAt M (M 21 (slot M (M (M 21 s) 4))) (pl (slot M (M (M 21 s) 4))) t = c then cameF M pl t c (10 - (k + 1)).toNat (slot M (M (M 21 s) 4)) else s) = r := hcf
    refine sp_numbered hw ?_
    unfold edR
    have hsr := slot_rng (M := M) (M (M 21 s) 4)
    generalize slot M (M (M 21 s) 4) = u at *
    by_cases qs : u < 0
    · rw [if_pos qs] at hcf ⊢
      simp only [px_go, px_Q0_at, px_sx_0, px_sx_s, px_cl, px_step, ↓px_ll, px_lg, f4_, ↓px_r1, ↓px_r2, ↓px_r4, ↓px_r5, ↓px_p1, ↓px_p2, ↓px_p3, ↓px_pop, px_k_0, px_k_s, px_k3_0, px_stk_, px_cats, px_ent, px_st1, px_st2, px_mask, ↓px_tsw, ↓px_lsw, ct_, mls_0, mls_1, mls_2, mls_3, mls_4, mls_5, kd_0, kd_1, kd_2, kd_3, ln_0, ln_1, ln_2, ln_3, gf_0, gf_1, gf_2, gf_3, gf_4, gf_7, gf_21, gf_63, dy_0, dy_1, dy_2, dy_3, dy_7, dy_21, px_brT, px_brF, true_and, and_true, and_false, false_and, and_self, true_implies, false_implies, or_true, true_or, or_false, false_or, eq_self, ne_eq, not_false_eq_true, not_true_eq_false, if_true, if_false, List.mem_cons, List.not_mem_nil, List.length_cons, List.length_nil, Nat.reduceEqDiff, Nat.reduceAdd, Nat.reduceSub, Nat.reduceLeDiff, Nat.reduceLT, Int.reduceEq, Int.reduceLT, Int.reduceLE, Int.reduceNeg, Int.reduceAdd, Int.reduceSub, Int.reduceToNat, ↓reduceIte, one_ne_zero_, zero_ne_one_, px_in32L, cd_153, hel, heg]
      rw [hcf]; exact h
    · rw [if_neg qs] at hcf ⊢
      have hE2 := hw.1 u (by omega) (by omega)
      have hem2 := isE_m hE2.1
      have hei2 := hed.2 u (by omega) (by omega)
      have hel2 := isE_lay hE2.1
      simp only [px_go, px_Q0_at, px_sx_0, px_sx_s, px_cl, px_step, ↓px_ll, px_lg, f4_, ↓px_r1, ↓px_r2, ↓px_r4, ↓px_r5, ↓px_p1, ↓px_p2, ↓px_p3, ↓px_pop, px_k_0, px_k_s, px_k3_0, px_stk_, px_cats, px_ent, px_st1, px_st2, px_mask, ↓px_tsw, ↓px_lsw, ct_, mls_0, mls_1, mls_2, mls_3, mls_4, mls_5, kd_0, kd_1, kd_2, kd_3, ln_0, ln_1, ln_2, ln_3, gf_0, gf_1, gf_2, gf_3, gf_4, gf_7, gf_21, gf_63, dy_0, dy_1, dy_2, dy_3, dy_7, dy_21, px_brT, px_brF, true_and, and_true, and_false, false_and, and_self, true_implies, false_implies, or_true, true_or, or_false, false_or, eq_self, ne_eq, not_false_eq_true, not_true_eq_false, if_true, if_false, List.mem_cons, List.not_mem_nil, List.length_cons, List.length_nil, Nat.reduceEqDiff, Nat.reduceAdd, Nat.reduceSub, Nat.reduceLeDiff, Nat.reduceLT, Int.reduceEq, Int.reduceLT, Int.reduceLE, Int.reduceNeg, Int.reduceAdd, Int.reduceSub, Int.reduceToNat, ↓reduceIte, one_ne_zero_, zero_ne_one_, px_in32L, cd_153, hel, heg, hel2]
      repeat' (first | (with_reducible apply And.intro) | (with_reducible refine px_br_intro (fun _ => ?_) (fun _ => ?_)))
      all_goals (try (first | (unfold px_in32; omega) | omega))
      refine sp_contentAt hE2.1 hei2.1 ht ?_
      simp only [px_go, px_Q0_at, px_sx_0, px_sx_s, px_cl, px_step, ↓px_ll, px_lg, f4_, ↓px_r1, ↓px_r2, ↓px_r4, ↓px_r5, ↓px_p1, ↓px_p2, ↓px_p3, ↓px_pop, px_k_0, px_k_s, px_k3_0, px_stk_, px_cats, px_ent, px_st1, px_st2, px_mask, ↓px_tsw, ↓px_lsw, ct_, mls_0, mls_1, mls_2, mls_3, mls_4, mls_5, kd_0, kd_1, kd_2, kd_3, ln_0, ln_1, ln_2, ln_3, gf_0, gf_1, gf_2, gf_3, gf_4, gf_7, gf_21, gf_63, dy_0, dy_1, dy_2, dy_3, dy_7, dy_21, px_brT, px_brF, true_and, and_true, and_false, false_and, and_self, true_implies, false_implies, or_true, true_or, or_false, false_or, eq_self, ne_eq, not_false_eq_true, not_true_eq_false, if_true, if_false, List.mem_cons, List.not_mem_nil, List.length_cons, List.length_nil, Nat.reduceEqDiff, Nat.reduceAdd, Nat.reduceSub, Nat.reduceLeDiff, Nat.reduceLT, Int.reduceEq, Int.reduceLT, Int.reduceLE, Int.reduceNeg, Int.reduceAdd, Int.reduceSub, Int.reduceToNat, ↓reduceIte, one_ne_zero_, zero_ne_one_, px_in32L, cd_153, hel, heg, hel2]
      repeat' (first | (with_reducible apply And.intro) | (with_reducible refine px_br_intro (fun _ => ?_) (fun _ => ?_)))
      all_goals (try (first | (unfold px_in32; omega) | omega))
      · rename_i c2 c3
        rw [if_pos c3] at hcf
        exact ih (by omega) u (by omega) ⟨⟨by omega, by omega⟩, hcf⟩
      · rename_i c2 c3
        rw [if_neg c3] at hcf
        rw [hcf]; exact h
set_option maxHeartbeats 600000 in
set_option maxRecDepth 100000 in
theorem sp_came {num j : Int} {pl : Int → Int → List Int} {nm : Int → List Int} (hed : edA M pl nm) (h0 : (slot M num < 0 ∨ ¬ (0 ≤ j ∧ j < M (M 21 (slot M num)) 2)) → Q (some (0, -1)) M) (h1 : 0 ≤ slot M num → slot M num < M 20 1 → (0 ≤ j ∧ j < M (M 21 (slot M num)) 2) → Q (some (0, M (M 21 (cameF M pl (pl (slot M num) j) (M (M 21 (slot M num) + 2) j) 10 (slot M num))) 3)) M) : px_Ok 153 [(2, 1), (0, num), (0, j)] LAY M Q := by
  have hw := hed.1
  have hn := hw.2.2
  refine px_ok_go (inl := [36]) (ls0 := [(2, 1), (0, num), (0, j), (9, 0), (9, 0), (9, 0), (9, 0), (9, 0), (9, 0)]) 60 (by decide) (Nat.le_of_ble_eq_true rfl) rfl ?_
  simp only [px_go, px_Q0_at, px_sx_0, px_sx_s, px_cl, px_step, ↓px_ll, px_lg, f4_, ↓px_r1, ↓px_r2, ↓px_r4, ↓px_r5, ↓px_p1, ↓px_p2, ↓px_p3, ↓px_pop, px_k_0, px_k_s, px_k3_0, px_stk_, px_cats, px_ent, px_st1, px_st2, px_mask, ↓px_tsw, ↓px_lsw, ct_, mls_0, mls_1, mls_2, mls_3, mls_4, mls_5, kd_0, kd_1, kd_2, kd_3, ln_0, ln_1, ln_2, ln_3, gf_0, gf_1, gf_2, gf_3, gf_4, gf_7, gf_21, gf_63, dy_0, dy_1, dy_2, dy_3, dy_7, dy_21, px_brT, px_brF, true_and, and_true, and_false, false_and, and_self, true_implies, false_implies, or_true, true_or, or_false, false_or, eq_self, ne_eq, not_false_eq_true, not_true_eq_false, if_true, if_false, List.mem_cons, List.not_mem_nil, List.length_cons, List.length_nil, Nat.reduceEqDiff, Nat.reduceAdd, Nat.reduceSub, Nat.reduceLeDiff, Nat.reduceLT, Int.reduceEq, Int.reduceLT, Int.reduceLE, Int.reduceNeg, Int.reduceAdd, Int.reduceSub, Int.reduceToNat, ↓reduceIte, one_ne_zero_, zero_ne_one_, px_in32L, cd_153, cd_36]
  repeat' (first | (with_reducible apply And.intro) | (with_reducible refine px_br_intro (fun _ => ?_) (fun _ => ?_)))
  all_goals (try (first | (unfold px_in32; omega) | omega))
  refine sp_numbered hw ?_
  unfold edR
  have hsr := slot_rng (M := M) num
  generalize slot M num = s at *
  by_cases qs : s < 0
  · rw [if_pos qs]
    simp only [px_go, px_Q0_at, px_sx_0, px_sx_s, px_cl, px_step, ↓px_ll, px_lg, f4_, ↓px_r1, ↓px_r2, ↓px_r4, ↓px_r5, ↓px_p1, ↓px_p2, ↓px_p3, ↓px_pop, px_k_0, px_k_s, px_k3_0, px_stk_, px_cats, px_ent, px_st1, px_st2, px_mask, ↓px_tsw, ↓px_lsw, ct_, mls_0, mls_1, mls_2, mls_3, mls_4, mls_5, kd_0, kd_1, kd_2, kd_3, ln_0, ln_1, ln_2, ln_3, gf_0, gf_1, gf_2, gf_3, gf_4, gf_7, gf_21, gf_63, dy_0, dy_1, dy_2, dy_3, dy_7, dy_21, px_brT, px_brF, true_and, and_true, and_false, false_and, and_self, true_implies, false_implies, or_true, true_or, or_false, false_or, eq_self, ne_eq, not_false_eq_true, not_true_eq_false, if_true, if_false, List.mem_cons, List.not_mem_nil, List.length_cons, List.length_nil, Nat.reduceEqDiff, Nat.reduceAdd, Nat.reduceSub, Nat.reduceLeDiff, Nat.reduceLT, Int.reduceEq, Int.reduceLT, Int.reduceLE, Int.reduceNeg, Int.reduceAdd, Int.reduceSub, Int.reduceToNat, ↓reduceIte, one_ne_zero_, zero_ne_one_, px_in32L, cd_153, cd_36]
    exact h0 (Or.inl qs)
  · rw [if_neg qs]
    have hE := hw.1 s (by omega) (by omega)
    have hem := isE_m hE.1
    have hei := hed.2 s (by omega) (by omega)
    have hel := isE_lay hE.1
    have heg := isE_gf hE.1
    have hn12 := hei.1.2.1
    simp only [px_go, px_Q0_at, px_sx_0, px_sx_s, px_cl, px_step, ↓px_ll, px_lg, f4_, ↓px_r1, ↓px_r2, ↓px_r4, ↓px_r5, ↓px_p1, ↓px_p2, ↓px_p3, ↓px_pop, px_k_0, px_k_s, px_k3_0, px_stk_, px_cats, px_ent, px_st1, px_st2, px_mask, ↓px_tsw, ↓px_lsw, ct_, mls_0, mls_1, mls_2, mls_3, mls_4, mls_5, kd_0, kd_1, kd_2, kd_3, ln_0, ln_1, ln_2, ln_3, gf_0, gf_1, gf_2, gf_3, gf_4, gf_7, gf_21, gf_63, dy_0, dy_1, dy_2, dy_3, dy_7, dy_21, px_brT, px_brF, true_and, and_true, and_false, false_and, and_self, true_implies, false_implies, or_true, true_or, or_false, false_or, eq_self, ne_eq, not_false_eq_true, not_true_eq_false, if_true, if_false, List.mem_cons, List.not_mem_nil, List.length_cons, List.length_nil, Nat.reduceEqDiff, Nat.reduceAdd, Nat.reduceSub, Nat.reduceLeDiff, Nat.reduceLT, Int.reduceEq, Int.reduceLT, Int.reduceLE, Int.reduceNeg, Int.reduceAdd, Int.reduceSub, Int.reduceToNat, ↓reduceIte, one_ne_zero_, zero_ne_one_, px_in32L, cd_153, cd_36, hel, heg]
    repeat' (first | (with_reducible apply And.intro) | (with_reducible refine px_br_intro (fun _ => ?_) (fun _ => ?_)))
    all_goals (try (first | (unfold px_in32; omega) | omega))
    all_goals (try exact h0 (Or.inr (by omega)))
    have hj := hei.1.2.2 j (by omega) (by omega)
    rw [hj.2.1]
    exact lp_came hed hj.1 (h1 (by omega) (by omega) (by omega)) 0 (by decide) s (Int.le_refl 0) ⟨⟨by omega, by omega⟩, rfl⟩
end PS
