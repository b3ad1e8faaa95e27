set_option maxRecDepth 100000 in
/-- X11_row -/
theorem cd_138 : px_at 138 0 = some (1, [], .aload_n 0, []) ∧ px_at 138 1 = some (4, [], .getfield 33, [10, 3, 2, 1, 117]) ∧ px_at 138 4 = some (5, [], .iload_n 1, []) ∧ px_at 138 5 = some (8, [], .invokevirtual 268, [75, 1, 6, 129]) ∧ px_at 138 8 = some (11, [], .ifCond .eq 15, [23]) ∧ px_at 138 11 = some (12, [], .aload_n 0, []) ∧ px_at 138 12 = some (15, [], .getfield 33, [10, 3, 2, 1, 117]) ∧ px_at 138 15 = some (18, [], .getfield 271, [6, 0, 2, 1, 55]) ∧ px_at 138 18 = some (19, [], .iload_n 1, []) ∧ px_at 138 19 = some (20, [], .iaload, []) ∧ px_at 138 20 = some (23, [], .goto 4, [24]) ∧ px_at 138 23 = some (24, [], .iconst (-1), []) ∧ px_at 138 24 = some (25, [], .ireturn, [0]) := ⟨rfl, rfl, rfl, rfl, rfl, rfl, rfl, rfl, rfl, rfl, rfl, rfl, rfl⟩
set_option maxRecDepth 100000 in
/-- X11_owner -/
theorem cd_139 : px_at 139 0 = some (1, [], .aload_n 0, []) ∧ px_at 139 1 = some (4, [], .getfield 33, [10, 3, 2, 1, 117]) ∧ px_at 139 4 = some (5, [], .iload_n 1, []) ∧ px_at 139 5 = some (8, [], .invokevirtual 268, [75, 1, 6, 129]) ∧ px_at 139 8 = some (11, [], .ifCond .eq 15, [23]) ∧ px_at 139 11 = some (12, [], .aload_n 0, []) ∧ px_at 139 12 = some (15, [], .getfield 33, [10, 3, 2, 1, 117]) ∧ px_at 139 15 = some (18, [], .getfield 290, [6, 1, 2, 1, 58]) ∧ px_at 139 18 = some (19, [], .iload_n 1, []) ∧ px_at 139 19 = some (20, [], .iaload, []) ∧ px_at 139 20 = some (23, [], .goto 4, [24]) ∧ px_at 139 23 = some (24, [], .iconst (-1), []) ∧ px_at 139 24 = some (25, [], .ireturn, [0]) := ⟨rfl, rfl, rfl, rfl, rfl, rfl, rfl, rfl, rfl, rfl, rfl, rfl, rfl⟩
set_option maxRecDepth 100000 in
/-- X11_risk -/
theorem cd_140 : px_at 140 0 = some (1, [], .aload_n 0, []) ∧ px_at 140 1 = some (4, [], .getfield 33, [10, 3, 2, 1, 117]) ∧ px_at 140 4 = some (5, [], .iload_n 1, []) ∧ px_at 140 5 = some (8, [], .invokevirtual 268, [75, 1, 6, 129]) ∧ px_at 140 8 = some (11, [], .ifCond .eq 12, [20]) ∧ px_at 140 11 = some (12, [], .iload_n 2, []) ∧ px_at 140 12 = some (15, [], .ifCond .lt 8, [20]) ∧ px_at 140 15 = some (16, [], .iload_n 2, []) ∧ px_at 140 16 = some (17, [], .iconst 1, []) ∧ px_at 140 17 = some (20, [], .if_icmp .le 5, [22]) ∧ px_at 140 20 = some (21, [], .iconst (-1), []) ∧ px_at 140 21 = some (22, [], .ireturn, [0]) ∧ px_at 140 22 = some (23, [], .aload_n 0, []) ∧ px_at 140 23 = some (26, [], .getfield 33, [10, 3, 2, 1, 117]) ∧ px_at 140 26 = some (29, [], .getfield 290, [6, 1, 2, 1, 58]) ∧ px_at 140 29 = some (30, [], .iload_n 1, []) ∧ px_at 140 30 = some (31, [], .iaload, []) ∧ px_at 140 31 = some (32, [], .istore_n 3, []) ∧ px_at 140 32 = some (33, [], .iload_n 3, []) ∧ px_at 140 33 = some (36, [], .ifCond .ge 5, [38]) ∧ px_at 140 36 = some (37, [], .iconst 0, []) ∧ px_at 140 37 = some (38, [], .ireturn, [0]) ∧ px_at 140 38 = some (39, [], .aload_n 0, []) ∧ px_at 140 39 = some (42, [], .getfield 49, [10, 5, 2, 1, 119]) ∧ px_at 140 42 = some (43, [], .aload_n 0, []) ∧ px_at 140 43 = some (46, [], .getfield 26, [10, 2, 2, 1, 116]) ∧ px_at 140 46 = some (47, [], .aload_n 0, []) ∧ px_at 140 47 = some (50, [], .getfield 42, [10, 4, 2, 1, 118]) ∧ px_at 140 50 = some (53, [], .invokevirtual 233, [109, 2, 9, 110]) ∧ px_at 140 53 = some (54, [], .iload_n 2, []) ∧ px_at 140 54 = some (57, [], .ifCond .ne 15, [69]) ∧ px_at 140 57 = some (58, [], .aload_n 0, []) ∧ px_at 140 58 = some (61, [], .getfield 49, [10, 5, 2, 1, 119]) ∧ px_at 140 61 = some (64, [], .getfield 293, [9, 2, 2, 1, 94]) ∧ px_at 140 64 = some (65, [], .iload_n 3, []) ∧ px_at 140 65 = some (66, [], .iaload, []) ∧ px_at 140 66 = some (69, [], .goto 12, [78]) ∧ px_at 140 69 = some (70, [], .aload_n 0, []) ∧ px_at 140 70 = some (73, [], .getfield 49, [10, 5, 2, 1, 119]) ∧ px_at 140 73 = some (76, [], .getfield 294, [9, 1, 2, 1, 92]) ∧ px_at 140 76 = some (77, [], .iload_n 3, []) ∧ px_at 140 77 = some (78, [], .iaload, []) ∧ px_at 140 78 = some (79, [], .ireturn, [0]) := ⟨rfl, rfl, rfl, rfl, rfl, rfl, rfl, rfl, rfl, rfl, rfl, rfl, rfl, rfl, rfl, rfl, rfl, rfl, rfl, rfl, rfl, rfl, rfl, rfl, rfl, rfl, rfl, rfl, rfl, rfl, rfl, rfl, rfl, rfl, rfl, rfl, rfl, rfl, rfl, rfl, rfl, rfl, rfl⟩
set_option maxRecDepth 100000 in
/-- X11_weakest -/
theorem cd_141 : px_at 141 0 = some (1, [], .iload_n 1, []) ∧ px_at 141 1 = some (4, [], .ifCond .lt 8, [9]) ∧ px_at 141 4 = some (5, [], .iload_n 1, []) ∧ px_at 141 5 = some (6, [], .iconst 1, []) ∧ px_at 141 6 = some (9, [], .if_icmp .le 5, [11]) ∧ px_at 141 9 = some (10, [], .iconst (-1), []) ∧ px_at 141 10 = some (11, [], .ireturn, [0]) ∧ px_at 141 11 = some (12, [], .aload_n 0, []) ∧ px_at 141 12 = some (15, [], .getfield 49, [10, 5, 2, 1, 119]) ∧ px_at 141 15 = some (16, [], .aload_n 0, []) ∧ px_at 141 16 = some (19, [], .getfield 26, [10, 2, 2, 1, 116]) ∧ px_at 141 19 = some (20, [], .aload_n 0, []) ∧ px_at 141 20 = some (23, [], .getfield 42, [10, 4, 2, 1, 118]) ∧ px_at 141 23 = some (26, [], .invokevirtual 233, [109, 2, 9, 110]) ∧ px_at 141 26 = some (28, [], .bipush (-2), []) ∧ px_at 141 28 = some (29, [], .istore_n 2, []) ∧ px_at 141 29 = some (30, [], .iconst 0, []) ∧ px_at 141 30 = some (31, [], .istore_n 3, []) ∧ px_at 141 31 = some (32, [], .iconst 0, []) ∧ px_at 141 32 = some (34, [], .istore 4, []) ∧ px_at 141 34 = some (36, [1, 1, 1, 1, 1, 0], .iload 4, []) ∧ px_at 141 36 = some (39, [], .sipush 400, []) ∧ px_at 141 39 = some (42, [], .if_icmp .ge 54, [93]) ∧ px_at 141 42 = some (43, [], .aload_n 0, []) ∧ px_at 141 43 = some (46, [], .getfield 33, [10, 3, 2, 1, 117]) ∧ px_at 141 46 = some (49, [], .getfield 290, [6, 1, 2, 1, 58]) ∧ px_at 141 49 = some (51, [], .iload 4, []) ∧ px_at 141 51 = some (52, [], .iaload, []) ∧ px_at 141 52 = some (54, [], .istore 5, []) ∧ px_at 141 54 = some (56, [], .iload 5, []) ∧ px_at 141 56 = some (59, [], .ifCond .lt 31, [87]) ∧ px_at 141 59 = some (60, [], .aload_n 0, []) ∧ px_at 141 60 = some (63, [], .getfield 49, [10, 5, 2, 1, 119]) ∧ px_at 141 63 = some (66, [], .getfield 294, [9, 1, 2, 1, 92]) ∧ px_at 141 66 = some (68, [], .iload 5, []) ∧ px_at 141 68 = some (69, [], .iaload, []) ∧ px_at 141 69 = some (70, [], .iload_n 3, []) ∧ px_at 141 70 = some (73, [], .if_icmp .le 17, [87]) ∧ px_at 141 73 = some (74, [], .aload_n 0, []) ∧ px_at 141 74 = some (77, [], .getfield 49, [10, 5, 2, 1, 119]) ∧ px_at 141 77 = some (80, [], .getfield 294, [9, 1, 2, 1, 92]) ∧ px_at 141 80 = some (82, [], .iload 5, []) ∧ px_at 141 82 = some (83, [], .iaload, []) ∧ px_at 141 83 = some (84, [], .istore_n 3, []) ∧ px_at 141 84 = some (86, [], .iload 4, []) ∧ px_at 141 86 = some (87, [], .istore_n 2, []) ∧ px_at 141 87 = some (90, [], .iinc 4 1, []) ∧ px_at 141 90 = some (93, [], .goto (-56), [34]) ∧ px_at 141 93 = some (94, [], .iload_n 1, []) ∧ px_at 141 94 = some (97, [], .ifCond .ne 7, [101]) ∧ px_at 141 97 = some (98, [], .iload_n 2, []) ∧ px_at 141 98 = some (101, [], .goto 4, [102]) ∧ px_at 141 101 = some (102, [], .iload_n 3, []) ∧ px_at 141 102 = some (103, [], .ireturn, [0]) := ⟨rfl, rfl, rfl, rfl, rfl, rfl, rfl, rfl, rfl, rfl, rfl, rfl, rfl, rfl, rfl, rfl, rfl, rfl, rfl, rfl, rfl, rfl, rfl, rfl, rfl, rfl, rfl, rfl, rfl, rfl, rfl, rfl, rfl, rfl, rfl, rfl, rfl, rfl, rfl, rfl, rfl, rfl, rfl, rfl, rfl, rfl, rfl, rfl, rfl, rfl, rfl, rfl, rfl, rfl⟩
set_option maxRecDepth 100000 in
/-- X11_drops -/
theorem cd_142 : px_at 142 0 = some (1, [], .iload_n 1, []) ∧ px_at 142 1 = some (4, [], .ifCond .lt 19, [20]) ∧ px_at 142 4 = some (5, [], .iload_n 1, []) ∧ px_at 142 5 = some (8, [], .sipush 400, []) ∧ px_at 142 8 = some (11, [], .if_icmp .gt 12, [20]) ∧ px_at 142 11 = some (12, [], .iload_n 2, []) ∧ px_at 142 12 = some (15, [], .ifCond .lt 8, [20]) ∧ px_at 142 15 = some (16, [], .iload_n 2, []) ∧ px_at 142 16 = some (17, [], .iconst 2, []) ∧ px_at 142 17 = some (20, [], .if_icmp .le 5, [22]) ∧ px_at 142 20 = some (21, [], .iconst (-1), []) ∧ px_at 142 21 = some (22, [], .ireturn, [0]) ∧ px_at 142 22 = some (23, [], .aload_n 0, []) ∧ px_at 142 23 = some (26, [], .getfield 49, [10, 5, 2, 1, 119]) ∧ px_at 142 26 = some (27, [], .aload_n 0, []) ∧ px_at 142 27 = some (30, [], .getfield 26, [10, 2, 2, 1, 116]) ∧ px_at 142 30 = some (31, [], .aload_n 0, []) ∧ px_at 142 31 = some (34, [], .getfield 42, [10, 4, 2, 1, 118]) ∧ px_at 142 34 = some (37, [], .invokevirtual 233, [109, 2, 9, 110]) ∧ px_at 142 37 = some (38, [], .aload_n 0, []) ∧ px_at 142 38 = some (41, [], .getfield 26, [10, 2, 2, 1, 116]) ∧ px_at 142 41 = some (44, [], .invokevirtual 296, [54, 0, 3, 143]) ∧ px_at 142 44 = some (45, [], .istore_n 3, []) ∧ px_at 142 45 = some (47, [], .bipush (-2), []) ∧ px_at 142 47 = some (49, [], .istore 4, []) ∧ px_at 142 49 = some (51, [], .bipush 11, []) ∧ px_at 142 51 = some (53, [], .istore 5, []) ∧ px_at 142 53 = some (54, [], .iconst 0, []) ∧ px_at 142 54 = some (56, [], .istore 6, []) ∧ px_at 142 56 = some (58, [1, 1, 1, 1, 1, 1, 1, 0], .iload 6, []) ∧ px_at 142 58 = some (59, [], .iconst 1, []) ∧ px_at 142 59 = some (60, [], .aload_n 0, []) ∧ px_at 142 60 = some (63, [], .getfield 26, [10, 2, 2, 1, 116]) ∧ px_at 142 63 = some (66, [], .getfield 139, [3, 1, 0, 0, 50]) ∧ px_at 142 66 = some (67, [], .ishl, []) ∧ px_at 142 67 = some (70, [], .if_icmp .ge 55, [122]) ∧ px_at 142 70 = some (72, [], .iload 6, []) ∧ px_at 142 72 = some (75, [], .invokestatic 299, [306, 1, 0, 144]) ∧ px_at 142 75 = some (77, [], .istore 7, []) ∧ px_at 142 77 = some (79, [], .iload 6, []) ∧ px_at 142 79 = some (80, [], .iload_n 3, []) ∧ px_at 142 80 = some (81, [], .iand, []) ∧ px_at 142 81 = some (84, [], .ifCond .ne 35, [116]) ∧ px_at 142 84 = some (86, [], .iload 7, []) ∧ px_at 142 86 = some (88, [], .iload 5, []) ∧ px_at 142 88 = some (91, [], .if_icmp .ge 28, [116]) ∧ px_at 142 91 = some (92, [], .aload_n 0, []) ∧ px_at 142 92 = some (95, [], .getfield 49, [10, 5, 2, 1, 119]) ∧ px_at 142 95 = some (97, [], .iload 6, []) ∧ px_at 142 97 = some (98, [], .aload_n 0, []) ∧ px_at 142 98 = some (101, [], .getfield 42, [10, 4, 2, 1, 118]) ∧ px_at 142 101 = some (104, [], .invokevirtual 305, [111, 2, 9, 145]) ∧ px_at 142 104 = some (105, [], .iload_n 1, []) ∧ px_at 142 105 = some (108, [], .if_icmp .lt 11, [116]) ∧ px_at 142 108 = some (110, [], .iload 6, []) ∧ px_at 142 110 = some (112, [], .istore 4, []) ∧ px_at 142 112 = some (114, [], .iload 7, []) ∧ px_at 142 114 = some (116, [], .istore 5, []) ∧ px_at 142 116 = some (119, [], .iinc 6 1, []) ∧ px_at 142 119 = some (122, [], .goto (-63), [56]) ∧ px_at 142 122 = some (124, [], .iload 4, []) ∧ px_at 142 124 = some (127, [], .ifCond .ge 6, [130]) ∧ px_at 142 127 = some (129, [], .bipush (-2), []) ∧ px_at 142 129 = some (130, [], .ireturn, [0]) ∧ px_at 142 130 = some (131, [], .iload_n 2, []) ∧ px_at 142 131 = some (132, [], .iconst 2, []) ∧ px_at 142 132 = some (135, [], .if_icmp .ne 17, [149]) ∧ px_at 142 135 = some (136, [], .aload_n 0, []) ∧ px_at 142 136 = some (139, [], .getfield 49, [10, 5, 2, 1, 119]) ∧ px_at 142 139 = some (141, [], .iload 4, []) ∧ px_at 142 141 = some (142, [], .aload_n 0, []) ∧ px_at 142 142 = some (145, [], .getfield 42, [10, 4, 2, 1, 118]) ∧ px_at 142 145 = some (148, [], .invokevirtual 305, [111, 2, 9, 145]) ∧ px_at 142 148 = some (149, [], .ireturn, [0]) ∧ px_at 142 149 = some (150, [], .iload_n 2, []) ∧ px_at 142 150 = some (153, [], .ifCond .ne 8, [158]) ∧ px_at 142 153 = some (155, [], .iload 5, []) ∧ px_at 142 155 = some (158, [], .goto 5, [160]) ∧ px_at 142 158 = some (160, [], .iload 4, []) ∧ px_at 142 160 = some (161, [], .ireturn, [0]) := ⟨rfl, rfl, rfl, rfl, rfl, rfl, rfl, rfl, rfl, rfl, rfl, rfl, rfl, rfl, rfl, rfl, rfl, rfl, rfl, rfl, rfl, rfl, rfl, rfl, rfl, rfl, rfl, rfl, rfl, rfl, rfl, rfl, rfl, rfl, rfl, rfl, rfl, rfl, rfl, rfl, rfl, rfl, rfl, rfl, rfl, rfl, rfl, rfl, rfl, rfl, rfl, rfl, rfl, rfl, rfl, rfl, rfl, rfl, rfl, rfl, rfl, rfl, rfl, rfl, rfl, rfl, rfl, rfl, rfl, rfl, rfl, rfl, rfl, rfl, rfl, rfl, rfl, rfl, rfl, rfl⟩
set_option maxRecDepth 100000 in
/-- X11_thrift -/
theorem cd_143 : px_at 143 0 = some (1, [], .aload_n 0, []) ∧ px_at 143 1 = some (4, [], .getfield 49, [10, 5, 2, 1, 119]) ∧ px_at 143 4 = some (5, [], .aload_n 0, []) ∧ px_at 143 5 = some (8, [], .getfield 26, [10, 2, 2, 1, 116]) ∧ px_at 143 8 = some (9, [], .aload_n 0, []) ∧ px_at 143 9 = some (12, [], .getfield 42, [10, 4, 2, 1, 118]) ∧ px_at 143 12 = some (15, [], .invokevirtual 233, [109, 2, 9, 110]) ∧ px_at 143 15 = some (16, [], .aload_n 0, []) ∧ px_at 143 16 = some (19, [], .getfield 42, [10, 4, 2, 1, 118]) ∧ px_at 143 19 = some (20, [], .aload_n 0, []) ∧ px_at 143 20 = some (23, [], .getfield 49, [10, 5, 2, 1, 119]) ∧ px_at 143 23 = some (26, [], .getfield 309, [9, 0, 2, 1, 90]) ∧ px_at 143 26 = some (29, [], .invokevirtual 312, [27, 1, 1, 148]) ∧ px_at 143 29 = some (30, [], .ireturn, [0]) := ⟨rfl, rfl, rfl, rfl, rfl, rfl, rfl, rfl, rfl, rfl, rfl, rfl, rfl, rfl⟩
set_option maxRecDepth 100000 in
/-- X11_pieces -/
theorem cd_144 : px_at 144 0 = some (1, [], .aload_n 0, []) ∧ px_at 144 1 = some (4, [], .getfield 42, [10, 4, 2, 1, 118]) ∧ px_at 144 4 = some (5, [], .iload_n 1, []) ∧ px_at 144 5 = some (8, [], .invokevirtual 277, [7, 1, 1, 132]) ∧ px_at 144 8 = some (11, [], .ifCond .eq 14, [22]) ∧ px_at 144 11 = some (12, [], .aload_n 0, []) ∧ px_at 144 12 = some (15, [], .getfield 42, [10, 4, 2, 1, 118]) ∧ px_at 144 15 = some (16, [], .iload_n 2, []) ∧ px_at 144 16 = some (19, [], .invokevirtual 277, [7, 1, 1, 132]) ∧ px_at 144 19 = some (22, [], .ifCond .ne 5, [24]) ∧ px_at 144 22 = some (23, [], .iconst (-1), []) ∧ px_at 144 23 = some (24, [], .ireturn, [0]) ∧ px_at 144 24 = some (25, [], .aload_n 0, []) ∧ px_at 144 25 = some (28, [], .getfield 42, [10, 4, 2, 1, 118]) ∧ px_at 144 28 = some (31, [], .getfield 176, [1, 8, 2, 1, 84]) ∧ px_at 144 31 = some (32, [], .iload_n 1, []) ∧ px_at 144 32 = some (33, [], .baload, []) ∧ px_at 144 33 = some (36, [], .ifCond .eq 15, [48]) ∧ px_at 144 36 = some (37, [], .aload_n 0, []) ∧ px_at 144 37 = some (40, [], .getfield 42, [10, 4, 2, 1, 118]) ∧ px_at 144 40 = some (43, [], .getfield 176, [1, 8, 2, 1, 84]) ∧ px_at 144 43 = some (44, [], .iload_n 2, []) ∧ px_at 144 44 = some (45, [], .baload, []) ∧ px_at 144 45 = some (48, [], .ifCond .ne 6, [51]) ∧ px_at 144 48 = some (50, [], .bipush (-2), []) ∧ px_at 144 50 = some (51, [], .ireturn, [0]) ∧ px_at 144 51 = some (52, [], .aload_n 0, []) ∧ px_at 144 52 = some (55, [], .getfield 42, [10, 4, 2, 1, 118]) ∧ px_at 144 55 = some (56, [], .iload_n 2, []) ∧ px_at 144 56 = some (57, [], .aload_n 0, []) ∧ px_at 144 57 = some (60, [], .getfield 42, [10, 4, 2, 1, 118]) ∧ px_at 144 60 = some (63, [], .getfield 315, [1, 6, 2, 1, 80]) ∧ px_at 144 63 = some (64, [], .iload_n 1, []) ∧ px_at 144 64 = some (65, [], .aaload, []) ∧ px_at 144 65 = some (66, [], .aload_n 0, []) ∧ px_at 144 66 = some (69, [], .getfield 42, [10, 4, 2, 1, 118]) ∧ px_at 144 69 = some (72, [], .getfield 318, [1, 0, 2, 1, 68]) ∧ px_at 144 72 = some (73, [], .iload_n 1, []) ∧ px_at 144 73 = some (74, [], .iaload, []) ∧ px_at 144 74 = some (77, [], .invokevirtual 321, [16, 3, 1, 150]) ∧ px_at 144 77 = some (78, [], .ireturn, [0]) := ⟨rfl, rfl, rfl, rfl, rfl, rfl, rfl, rfl, rfl, rfl, rfl, rfl, rfl, rfl, rfl, rfl, rfl, rfl, rfl, rfl, rfl, rfl, rfl, rfl, rfl, rfl, rfl, rfl, rfl, rfl, rfl, rfl, rfl, rfl, rfl, rfl, rfl, rfl, rfl, rfl, rfl⟩
set_option maxRecDepth 100000 in
/-- X11_content -/
theorem cd_145 : px_at 145 0 = some (1, [], .aload_n 0, []) ∧ px_at 145 1 = some (4, [], .getfield 42, [10, 4, 2, 1, 118]) ∧ px_at 145 4 = some (5, [], .iload_n 1, []) ∧ px_at 145 5 = some (8, [], .invokevirtual 277, [7, 1, 1, 132]) ∧ px_at 145 8 = some (11, [], .ifCond .ne 5, [13]) ∧ px_at 145 11 = some (12, [], .iconst (-1), []) ∧ px_at 145 12 = some (13, [], .ireturn, [0]) ∧ px_at 145 13 = some (14, [], .iload_n 2, []) ∧ px_at 145 14 = some (16, [], .bipush 6, []) ∧ px_at 145 16 = some (19, [], .if_icmp .ne 28, [44]) ∧ px_at 145 19 = some (20, [], .aload_n 0, []) ∧ px_at 145 20 = some (23, [], .getfield 49, [10, 5, 2, 1, 119]) ∧ px_at 145 23 = some (24, [], .aload_n 0, []) ∧ px_at 145 24 = some (27, [], .getfield 26, [10, 2, 2, 1, 116]) ∧ px_at 145 27 = some (28, [], .aload_n 0, []) ∧ px_at 145 28 = some (31, [], .getfield 42, [10, 4, 2, 1, 118]) ∧ px_at 145 31 = some (34, [], .invokevirtual 233, [109, 2, 9, 110]) ∧ px_at 145 34 = some (35, [], .aload_n 0, []) ∧ px_at 145 35 = some (38, [], .getfield 49, [10, 5, 2, 1, 119]) ∧ px_at 145 38 = some (41, [], .getfield 309, [9, 0, 2, 1, 90]) ∧ px_at 145 41 = some (42, [], .iload_n 1, []) ∧ px_at 145 42 = some (43, [], .iaload, []) ∧ px_at 145 43 = some (44, [], .ireturn, [0]) ∧ px_at 145 44 = some (45, [], .aload_n 0, []) ∧ px_at 145 45 = some (48, [], .getfield 42, [10, 4, 2, 1, 118]) ∧ px_at 145 48 = some (49, [], .iload_n 1, []) ∧ px_at 145 49 = some (50, [], .iload_n 2, []) ∧ px_at 145 50 = some (53, [], .invokevirtual 324, [28, 2, 1, 152]) ∧ px_at 145 53 = some (54, [], .ireturn, [0]) := ⟨rfl, rfl, rfl, rfl, rfl, rfl, rfl, rfl, rfl, rfl, rfl, rfl, rfl, rfl, rfl, rfl, rfl, rfl, rfl, rfl, rfl, rfl, rfl, rfl, rfl, rfl, rfl, rfl, rfl⟩
set_option maxRecDepth 100000 in
/-- J6_bitCount_0f7a4 -/
theorem cd_306 : px_at 306 0 = some (1, [], .iload_n 0, []) ∧ px_at 306 1 = some (2, [], .iload_n 0, []) ∧ px_at 306 2 = some (3, [], .iconst 1, []) ∧ px_at 306 3 = some (4, [], .iushr, []) ∧ px_at 306 4 = some (7, [], .ldc_w 265, [1431655765, 1]) ∧ px_at 306 7 = some (8, [], .iand, []) ∧ px_at 306 8 = some (9, [], .isub, []) ∧ px_at 306 9 = some (10, [], .istore_n 0, []) ∧ px_at 306 10 = some (11, [], .iload_n 0, []) ∧ px_at 306 11 = some (14, [], .ldc_w 266, [858993459, 2]) ∧ px_at 306 14 = some (15, [], .iand, []) ∧ px_at 306 15 = some (16, [], .iload_n 0, []) ∧ px_at 306 16 = some (17, [], .iconst 2, []) ∧ px_at 306 17 = some (18, [], .iushr, []) ∧ px_at 306 18 = some (21, [], .ldc_w 266, [858993459, 2]) ∧ px_at 306 21 = some (22, [], .iand, []) ∧ px_at 306 22 = some (23, [], .iadd, []) ∧ px_at 306 23 = some (24, [], .istore_n 0, []) ∧ px_at 306 24 = some (25, [], .iload_n 0, []) ∧ px_at 306 25 = some (26, [], .iload_n 0, []) ∧ px_at 306 26 = some (27, [], .iconst 4, []) ∧ px_at 306 27 = some (28, [], .iushr, []) ∧ px_at 306 28 = some (29, [], .iadd, []) ∧ px_at 306 29 = some (32, [], .ldc_w 267, [252645135, 3]) ∧ px_at 306 32 = some (33, [], .iand, []) ∧ px_at 306 33 = some (34, [], .istore_n 0, []) ∧ px_at 306 34 = some (35, [], .iload_n 0, []) ∧ px_at 306 35 = some (36, [], .iload_n 0, []) ∧ px_at 306 36 = some (38, [], .bipush 8, []) ∧ px_at 306 38 = some (39, [], .iushr, []) ∧ px_at 306 39 = some (40, [], .iadd, []) ∧ px_at 306 40 = some (41, [], .istore_n 0, []) ∧ px_at 306 41 = some (42, [], .iload_n 0, []) ∧ px_at 306 42 = some (43, [], .iload_n 0, []) ∧ px_at 306 43 = some (45, [], .bipush 16, []) ∧ px_at 306 45 = some (46, [], .iushr, []) ∧ px_at 306 46 = some (47, [], .iadd, []) ∧ px_at 306 47 = some (48, [], .istore_n 0, []) ∧ px_at 306 48 = some (49, [], .iload_n 0, []) ∧ px_at 306 49 = some (51, [], .bipush 63, []) ∧ px_at 306 51 = some (52, [], .iand, []) ∧ px_at 306 52 = some (53, [], .ireturn, [0]) := ⟨rfl, rfl, rfl, rfl, rfl, rfl, rfl, rfl, rfl, rfl, rfl, rfl, rfl, rfl, rfl, rfl, rfl, rfl, rfl, rfl, rfl, rfl, rfl, rfl, rfl, rfl, rfl, rfl, rfl, rfl, rfl, rfl, rfl, rfl, rfl, rfl, rfl, rfl, rfl, rfl, rfl, rfl⟩
/-! EditionVault: what hangs on what; bits counted -/
def bcA (a : Int) : Int := a - px_iand (px_iushr a 1) 1431655765
def bcB (x : Int) : Int := px_iand x 858993459 + px_iand (px_iushr x 2) 858993459
def bcC (x : Int) : Int := x + px_iushr x 4
def bcD (x : Int) : Int := px_iand x 252645135 + px_iushr (px_iand x 252645135) 8
def bcE (x : Int) : Int := x + px_iushr x 16
def pcN : Nat → Nat → Nat
  | 0, _ => 0
  | k + 1, n => n % 2 + pcN k (n / 2)
/-- how many members a set of small numbers has -/
def pcI (s : Int) : Int := (pcN 10 s.toNat : Int)
set_option maxRecDepth 100000 in
theorem bc_key : ∀ n : Nat, n < 1024 → (-2147483648 ≤ bcA n ∧ bcA n < 2147483648) ∧ (-2147483648 ≤ bcB (bcA n) ∧ bcB (bcA n) < 2147483648) ∧ (-2147483648 ≤ bcC (bcB (bcA n)) ∧ bcC (bcB (bcA n)) < 2147483648) ∧ (-2147483648 ≤ bcD (bcC (bcB (bcA n))) ∧ bcD (bcC (bcB (bcA n))) < 2147483648) ∧ (-2147483648 ≤ bcE (bcD (bcC (bcB (bcA n)))) ∧ bcE (bcD (bcC (bcB (bcA n)))) < 2147483648) ∧ px_iand (bcE (bcD (bcC (bcB (bcA n))))) 63 = (pcN 10 n : Int) := by decide +kernel
theorem pcN_le : ∀ k n : Nat, pcN k n ≤ k := by
  intro k
  induction k with
  | zero => intro n; exact Nat.le_refl 0
  | succ k ih => intro n; show n % 2 + pcN k (n / 2) ≤ k + 1; have := ih (n / 2); omega
theorem pcI_rng (s : Int) : 0 ≤ pcI s ∧ pcI s ≤ 10 := by unfold pcI; have := pcN_le 10 s.toNat; omega
/-- the first place on whose byte most paths hang, and how many -/
def wkR (ow P : Int → Int) : Nat → Int × Int
  | 0 => (-2, 0)
  | k + 1 => if 0 ≤ ow (k : Int) ∧ (wkR ow P k).2 < P (ow (k : Int)) then ((k : Int), P (ow (k : Int))) else wkR ow P k
/-- the least set, of the fewest, that is so -/
noncomputable def drR (c : Int → Prop) : Nat → Int × Int
  | 0 => (-2, 11)
  | k + 1 => by
    classical
    exact if c (k : Int) ∧ pcI (k : Int) < (drR c k).2 then ((k : Int), pcI (k : Int)) else drR c k
theorem drR_t {c : Int → Prop} {k : Int} (k0 : 0 ≤ k) (h : c k) (h2 : pcI k < (drR c k.toNat).2) : drR c (k + 1).toNat = (k, pcI k) := by
  rw [show (k + 1).toNat = k.toNat + 1 by omega]
  unfold drR
  rw [Int.toNat_of_nonneg k0, if_pos ⟨h, h2⟩]
theorem drR_f {c : Int → Prop} {k : Int} (k0 : 0 ≤ k) (h : ¬ (c k ∧ pcI k < (drR c k.toNat).2)) : drR c (k + 1).toNat = drR c k.toNat := by
  rw [show (k + 1).toNat = k.toNat + 1 by omega]
  conv => lhs; unfold drR
  rw [Int.toNat_of_nonneg k0, if_neg h]
theorem drR_rng {c : Int → Prop} : ∀ k : Nat, ((drR c k).1 = -2 ∧ (drR c k).2 = 11) ∨ (0 ≤ (drR c k).1 ∧ (drR c k).1 < k ∧ (drR c k).2 = pcI (drR c k).1 ∧ c (drR c k).1) := by
  intro k
  induction k with
  | zero => exact Or.inl ⟨rfl, rfl⟩
  | succ k ih =>
    by_cases h : c (k : Int) ∧ pcI (k : Int) < (drR c k).2
    · have e := drR_t (c := c) (k := (k : Int)) (by omega) h.1 h.2
      rw [show ((k : Int) + 1).toNat = k + 1 by omega] at e
      rw [e]
      exact Or.inr ⟨by show 0 ≤ (k : Int); omega, by show (k : Int) < ((k + 1 : Nat) : Int); omega, rfl, h.1⟩
    · have e := drR_f (c := c) (k := (k : Int)) (by omega) h
      rw [show ((k : Int) + 1).toNat = k + 1 by omega, Int.toNat_natCast] at e
      rw [e]
      rcases ih with z | z
      · exact Or.inl z
      · exact Or.inr ⟨z.1, by omega, z.2.2⟩
theorem full_nn {dd bs f : Int → Int} (hf : ∀ c, 0 ≤ c → c < 40 → 0 ≤ f c ∧ f c ≤ 200) {c : Int} (c0 : 0 ≤ c) (c1 : c < 40) : 0 ≤ full dd bs f 3 c := (full_rng (by decide) hf 3 c c0 c1).1
section PS
variable {M : px_mem} {Q : Option pv → px_mem → Prop}
set_option maxHeartbeats 4000000 in
set_option maxRecDepth 100000 in
theorem sp_bitCount {s : Int} (hs : 0 ≤ s ∧ s < 1024) (h : Q (some (0, pcI s)) M) : px_Ok 306 [(0, s)] LAY M Q := by
  obtain ⟨n, rfl⟩ := Int.eq_ofNat_of_zero_le hs.1
  obtain ⟨k1, k2, k3, k4, k5, k6⟩ := bc_key n (by omega)
  have h : Q (some (0, px_iand (bcE (bcD (bcC (bcB (bcA n))))) 63)) M := by rw [k6]; exact h
  refine px_ok_go (inl := []) (ls0 := [(0, (n : Int))]) 60 (by decide) (Nat.le_of_ble_eq_true rfl) rfl ?_
  simp only [px_go, px_Q0_at, px_sx_0, px_sx_s, px_cl, px_step, ↓px_ll, px_lg, f4_, ↓px_r1, ↓px_r2, ↓px_r4, ↓px_r5, ↓px_p1, ↓px_p2, ↓px_p3, ↓px_pop, px_k_0, px_k_s, px_k3_0, px_stk_, px_cats, px_ent, px_st1, px_st2, px_mask, ↓px_tsw, ↓px_lsw, ct_, mls_0, mls_1, mls_2, mls_3, mls_4, mls_5, kd_0, kd_1, kd_2, kd_3, ln_0, ln_1, ln_2, ln_3, gf_0, gf_1, gf_2, gf_3, gf_4, gf_7, gf_21, gf_63, dy_0, dy_1, dy_2, dy_3, dy_7, dy_21, px_brT, px_brF, true_and, and_true, and_false, false_and, and_self, true_implies, false_implies, or_true, true_or, or_false, false_or, eq_self, ne_eq, not_false_eq_true, not_true_eq_false, if_true, if_false, List.mem_cons, List.not_mem_nil, List.length_cons, List.length_nil, Nat.reduceEqDiff, Nat.reduceAdd, Nat.reduceSub, Nat.reduceLeDiff, Nat.reduceLT, Int.reduceEq, Int.reduceLT, Int.reduceLE, Int.reduceNeg, Int.reduceAdd, Int.reduceSub, Int.reduceToNat, ↓reduceIte, one_ne_zero_, zero_ne_one_, px_in32L, cd_306]
  exact ⟨k1, k2, k3, k4, k5, h⟩
set_option maxHeartbeats 600000 in
set_option maxRecDepth 100000 in
theorem sp_risk {p w : Int} (hw : edW M) (hl : lsA M) (hci : ci M) (h0 : ¬ (0 ≤ p ∧ p < 400 ∧ 0 ≤ w ∧ w ≤ 1) → Q (some (0, -1)) M) (h2 : (0 ≤ p ∧ p < 400 ∧ 0 ≤ w ∧ w ≤ 1) → M 54 p < 0 → Q (some (0, 0)) M) (h1 : ∀ M', (0 ≤ p ∧ p < 400 ∧ 0 ≤ w ∧ w ≤ 1) → 0 ≤ M 54 p → M 54 p < 40 → talC M M' → Q (some (0, if w = 0 then M' 113 (M 54 p) else M' 112 (M 54 p))) M') : px_Ok 140 [(2, 1), (0, p), (0, w)] LAY M Q := by
  have ho := hci.2.2.1.2 p
  refine px_ok_go (inl := [75]) (ls0 := [(2, 1), (0, p), (0, w), (9, 0)]) 60 (by decide) (Nat.le_of_ble_eq_true rfl) rfl ?_
  simp only [px_go, px_Q0_at, px_sx_0, px_sx_s, px_cl, px_step, ↓px_ll, px_lg, f4_, ↓px_r1, ↓px_r2, ↓px_r4, ↓px_r5, ↓px_p1, ↓px_p2, ↓px_p3, ↓px_pop, px_k_0, px_k_s, px_k3_0, px_stk_, px_cats, px_ent, px_st1, px_st2, px_mask, ↓px_tsw, ↓px_lsw, ct_, mls_0, mls_1, mls_2, mls_3, mls_4, mls_5, kd_0, kd_1, kd_2, kd_3, ln_0, ln_1, ln_2, ln_3, gf_0, gf_1, gf_2, gf_3, gf_4, gf_7, gf_21, gf_63, dy_0, dy_1, dy_2, dy_3, dy_7, dy_21, px_brT, px_brF, true_and, and_true, and_false, false_and, and_self, true_implies, false_implies, or_true, true_or, or_false, false_or, eq_self, ne_eq, not_false_eq_true, not_true_eq_false, if_true, if_false, List.mem_cons, List.not_mem_nil, List.length_cons, List.length_nil, Nat.reduceEqDiff, Nat.reduceAdd, Nat.reduceSub, Nat.reduceLeDiff, Nat.reduceLT, Int.reduceEq, Int.reduceLT, Int.reduceLE, Int.reduceNeg, Int.reduceAdd, Int.reduceSub, Int.reduceToNat, ↓reduceIte, one_ne_zero_, zero_ne_one_, px_in32L, cd_140, cd_75]
  repeat' (first | (with_reducible apply And.intro) | (with_reducible refine px_br_intro (fun _ => ?_) (fun _ => ?_)))
  all_goals (try (first | (unfold px_in32; omega) | omega))
  all_goals (try exact h0 (by omega))
  · refine sp_tally hw hl hci (fun M' ht => ?_)
    have ho2 := ho (by omega) (by omega)
    have h1 := h1 M' (by omega) (by omega) (by omega) ht
    simp only [px_go, px_Q0_at, px_sx_0, px_sx_s, px_cl, px_step, ↓px_ll, px_lg, f4_, ↓px_r1, ↓px_r2, ↓px_r4, ↓px_r5, ↓px_p1, ↓px_p2, ↓px_p3, ↓px_pop, px_k_0, px_k_s, px_k3_0, px_stk_, px_cats, px_ent, px_st1, px_st2, px_mask, ↓px_tsw, ↓px_lsw, ct_, mls_0, mls_1, mls_2, mls_3, mls_4, mls_5, kd_0, kd_1, kd_2, kd_3, ln_0, ln_1, ln_2, ln_3, gf_0, gf_1, gf_2, gf_3, gf_4, gf_7, gf_21, gf_63, dy_0, dy_1, dy_2, dy_3, dy_7, dy_21, px_brT, px_brF, true_and, and_true, and_false, false_and, and_self, true_implies, false_implies, or_true, true_or, or_false, false_or, eq_self, ne_eq, not_false_eq_true, not_true_eq_false, if_true, if_false, List.mem_cons, List.not_mem_nil, List.length_cons, List.length_nil, Nat.reduceEqDiff, Nat.reduceAdd, Nat.reduceSub, Nat.reduceLeDiff, Nat.reduceLT, Int.reduceEq, Int.reduceLT, Int.reduceLE, Int.reduceNeg, Int.reduceAdd, Int.reduceSub, Int.reduceToNat, ↓reduceIte, one_ne_zero_, zero_ne_one_, px_in32L, cd_140, cd_75]
    repeat' (first | (with_reducible apply And.intro) | (with_reducible refine px_br_intro (fun _ => ?_) (fun _ => ?_)))
    all_goals (try (first | (unfold px_in32; omega) | omega))
    · rename_i c5; rw [if_pos c5] at h1; exact h1
    · rename_i c5; rw [if_neg c5] at h1; exact h1
  · exact h2 (by omega) (by omega)
set_option maxHeartbeats 600000 in
set_option maxRecDepth 100000 in
theorem lp_weakest {w : Int} (ho : ∀ x, 0 ≤ x → x < 400 → M 54 x < 40) (h : Q (some (0, if w = 0 then (wkR (M 54) (M 112) 400).1 else (wkR (M 54) (M 112) 400).2)) M) (k : Int) (hk_k : k ≤ 400) : 0 ≤ k → px_WP 141 0 0 (px_Q0 LAY Q) 34 [(2, 1), (0, w), (0, (wkR (M 54) (M 112) k.toNat).1), (0, (wkR (M 54) (M 112) k.toNat).2), (0, k), (9, 0)] [] LAY M 0 0 := by
  refine up_ind (P := fun k => 0 ≤ k → px_WP 141 0 0 (px_Q0 LAY Q) 34 [(2, 1), (0, w), (0, (wkR (M 54) (M 112) k.toNat).1), (0, (wkR (M 54) (M 112) k.toNat).2), (0, k), (9, 0)] [] LAY M 0 0) (400) (fun k hk_k ih => ?_) k hk_k
  intro k0
  have hok := ho k k0
  have hs : wkR (M 54) (M 112) (k + 1).toNat = if 0 ≤ M 54 k ∧ (wkR (M 54) (M 112) k.toNat).2 < M 112 (M 54 k) then (k, M 112 (M 54 k)) else wkR (M 54) (M 112) k.toNat := by
    rw [show (k + 1).toNat = k.toNat + 1 by omega]
    show (if 0 ≤ M 54 (k.toNat : Int) ∧ (wkR (M 54) (M 112) k.toNat).2 < M 112 (M 54 (k.toNat : Int)) then ((k.toNat : Int), M 112 (M 54 (k.toNat : Int))) else wkR (M 54) (M 112) k.toNat) = _
    rw [Int.toNat_of_nonneg k0]
  refine px_go_ok (inl := []) 60 ?_
  simp only [px_go, px_Q0_at, px_sx_0, px_sx_s, px_cl, px_step, ↓px_ll, px_lg, f4_, ↓px_r1, ↓px_r2, ↓px_r4, ↓px_r5, ↓px_p1, ↓px_p2, ↓px_p3, ↓px_pop, px_k_0, px_k_s, px_k3_0, px_stk_, px_cats, px_ent, px_st1, px_st2, px_mask, ↓px_tsw, ↓px_lsw, ct_, mls_0, mls_1, mls_2, mls_3, mls_4, mls_5, kd_0, kd_1, kd_2, kd_3, ln_0, ln_1, ln_2, ln_3, gf_0, gf_1, gf_2, gf_3, gf_4, gf_7, gf_21, gf_63, dy_0, dy_1, dy_2, dy_3, dy_7, dy_21, px_brT, px_brF, true_and, and_true, and_false, false_and, and_self, true_implies, false_implies, or_true, true_or, or_false, false_or, eq_self, ne_eq, not_false_eq_true, not_true_eq_false, if_true, if_false, List.mem_cons, List.not_mem_nil, List.length_cons, List.length_nil, Nat.reduceEqDiff, Nat.reduceAdd, Nat.reduceSub, Nat.reduceLeDiff, Nat.reduceLT, Int.reduceEq, Int.reduceLT, Int.reduceLE, Int.reduceNeg, Int.reduceAdd, Int.reduceSub, Int.reduceToNat, ↓reduceIte, one_ne_zero_, zero_ne_one_, px_in32L, cd_141]
  repeat' (first | (with_reducible apply And.intro) | (with_reducible refine px_br_intro (fun _ => ?_) (fun _ => ?_)))
  all_goals (try (first | (unfold px_in32; omega) | omega))
  · rename_i c1 c2
    rw [if_pos c2] at h
    rw [show k.toNat = 400 by omega]; exact h
  · rename_i c1 c2
    rw [if_neg c2] at h
    rw [show k.toNat = 400 by omega]; exact h
  · rename_i c1 c2
    rw [if_neg (by omega)] at hs
    have := ih (by omega) (by omega)
    rw [hs] at this; exact this
  · rename_i c1 c2 c3
    rw [if_neg (by omega)] at hs
    have := ih (by omega) (by omega)
    rw [hs] at this; exact this
  · rename_i c1 c2 c3
    rw [if_pos (by omega)] at hs
    have := ih (by omega) (by omega)
    rw [hs] at this; exact this
set_option maxHeartbeats 600000 in
set_option maxRecDepth 100000 in
theorem sp_weakest {w : Int} (hw : edW M) (hl : lsA M) (hci : ci M) (h0 : ¬ (0 ≤ w ∧ w ≤ 1) → Q (some (0, -1)) M) (h1 : ∀ M', (0 ≤ w ∧ w ≤ 1) → talC M M' → Q (some (0, if w = 0 then (wkR (M 54) (M' 112) 400).1 else (wkR (M 54) (M' 112) 400).2)) M') : px_Ok 141 [(2, 1), (0, w)] LAY M Q := by
  refine px_ok_go (inl := []) (ls0 := [(2, 1), (0, w), (9, 0), (9, 0), (9, 0), (9, 0)]) 60 (by decide) (Nat.le_of_ble_eq_true rfl) rfl ?_
  simp only [px_go, px_Q0_at, px_sx_0, px_sx_s, px_cl, px_step, ↓px_ll, px_lg, f4_, ↓px_r1, ↓px_r2, ↓px_r4, ↓px_r5, ↓px_p1, ↓px_p2, ↓px_p3, ↓px_pop, px_k_0, px_k_s, px_k3_0, px_stk_, px_cats, px_ent, px_st1, px_st2, px_mask, ↓px_tsw, ↓px_lsw, ct_, mls_0, mls_1, mls_2, mls_3, mls_4, mls_5, kd_0, kd_1, kd_2, kd_3, ln_0, ln_1, ln_2, ln_3, gf_0, gf_1, gf_2, gf_3, gf_4, gf_7, gf_21, gf_63, dy_0, dy_1, dy_2, dy_3, dy_7, dy_21, px_brT, px_brF, true_and, and_true, and_false, false_and, and_self, true_implies, false_implies, or_true, true_or, or_false, false_or, eq_self, ne_eq, not_false_eq_true, not_true_eq_false, if_true, if_false, List.mem_cons, List.not_mem_nil, List.length_cons, List.length_nil, Nat.reduceEqDiff, Nat.reduceAdd, Nat.reduceSub, Nat.reduceLeDiff, Nat.reduceLT, Int.reduceEq, Int.reduceLT, Int.reduceLE, Int.reduceNeg, Int.reduceAdd, Int.reduceSub, Int.reduceToNat, ↓reduceIte, one_ne_zero_, zero_ne_one_, px_in32L, cd_141]
  repeat' (first | (with_reducible apply And.intro) | (with_reducible refine px_br_intro (fun _ => ?_) (fun _ => ?_)))
  all_goals (try (first | (unfold px_in32; omega) | omega))
  all_goals (try exact h0 (by omega))
  refine sp_tally hw hl hci (fun M' ht => ?_)
  have e54 : M' 54 = M 54 := ht.2.2.2.2 54 (by decide)
  have h1 := h1 M' (by omega) ht
  rw [← e54] at h1
  simp only [px_go, px_Q0_at, px_sx_0, px_sx_s, px_cl, px_step, ↓px_ll, px_lg, f4_, ↓px_r1, ↓px_r2, ↓px_r4, ↓px_r5, ↓px_p1, ↓px_p2, ↓px_p3, ↓px_pop, px_k_0, px_k_s, px_k3_0, px_stk_, px_cats, px_ent, px_st1, px_st2, px_mask, ↓px_tsw, ↓px_lsw, ct_, mls_0, mls_1, mls_2, mls_3, mls_4, mls_5, kd_0, kd_1, kd_2, kd_3, ln_0, ln_1, ln_2, ln_3, gf_0, gf_1, gf_2, gf_3, gf_4, gf_7, gf_21, gf_63, dy_0, dy_1, dy_2, dy_3, dy_7, dy_21, px_brT, px_brF, true_and, and_true, and_false, false_and, and_self, true_implies, false_implies, or_true, true_or, or_false, false_or, eq_self, ne_eq, not_false_eq_true, not_true_eq_false, if_true, if_false, List.mem_cons, List.not_mem_nil, List.length_cons, List.length_nil, Nat.reduceEqDiff, Nat.reduceAdd, Nat.reduceSub, Nat.reduceLeDiff, Nat.reduceLT, Int.reduceEq, Int.reduceLT, Int.reduceLE, Int.reduceNeg, Int.reduceAdd, Int.reduceSub, Int.reduceToNat, ↓reduceIte, one_ne_zero_, zero_ne_one_, px_in32L, cd_141]
  refine lp_weakest (fun x x0 x1 => ?_) h1 0 (by decide) (Int.le_refl 0)
  rw [e54]
  have := hci.2.2.1.2 x x0 x1
  omega
set_option maxHeartbeats 600000 in
set_option maxRecDepth 100000 in
theorem lp_drops {many w sea : Int} (hw : edW M) (hw2 : 0 ≤ w ∧ w ≤ 2) (hsea : 0 ≤ sea ∧ sea < 2 ^ 10) (hW : ∀ c, 0 ≤ c → c < 40 → 0 ≤ M 114 c ∧ M 114 c < 2 ^ 10) (hK : ∀ c, 0 ≤ c → c < 40 → 0 ≤ M 62 c → 0 ≤ M 60 c ∧ M 60 c ≤ 40) (h : ∀ b f, drR (fun s => px_iand s sea = 0 ∧ many ≤ bol M s) (px_ishl 1 (M 20 1)).toNat = (b, f) → Q (some (0, if b < 0 then -2 else if w = 2 then bol M b else if w = 0 then f else b)) M) (k : Int) (hk_k : k ≤ px_ishl 1 (M 20 1)) : 0 ≤ k → px_WP 142 0 0 (px_Q0 LAY Q) 56 [(2, 1), (0, many), (0, w), (0, sea), (0, (drR (fun s => px_iand s sea = 0 ∧ many ≤ bol M s) k.toNat).1), (0, (drR (fun s => px_iand s sea = 0 ∧ many ≤ bol M s) k.toNat).2), (0, k), (9, 0)] [] LAY M 0 0 := by
  refine up_ind (P := fun k => 0 ≤ k → px_WP 142 0 0 (px_Q0 LAY Q) 56 [(2, 1), (0, many), (0, w), (0, sea), (0, (drR (fun s => px_iand s sea = 0 ∧ many ≤ bol M s) k.toNat).1), (0, (drR (fun s => px_iand s sea = 0 ∧ many ≤ bol M s) k.toNat).2), (0, k), (9, 0)] [] LAY M 0 0) (px_ishl 1 (M 20 1)) (fun k hk_k ih => ?_) k hk_k
  intro k0
  have hn := hw.2.2
  have e10 : (2 : Int) ^ 10 = 1024 := rfl
  have hsz : 1 ≤ px_ishl 1 (M 20 1) ∧ px_ishl 1 (M 20 1) ≤ 1024 := by
    rw [ishl_eq (by omega) (by omega)]
    have := p2_pos (M 20 1).toNat
    have := p2_le (j := (M 20 1).toNat) (k := 10) (by omega)
    omega
  have hr := drR_rng (c := fun s => px_iand s sea = 0 ∧ many ≤ bol M s) k.toNat
  have hst := fun a b => drR_t (c := fun s => px_iand s sea = 0 ∧ many ≤ bol M s) k0 a b
  have hsf := fun a => drR_f (c := fun s => px_iand s sea = 0 ∧ many ≤ bol M s) k0 a
  generalize hd : drR (fun s => px_iand s sea = 0 ∧ many ≤ bol M s) k.toNat = d at *
  refine px_go_ok (inl := []) 60 ?_
  simp only [px_go, px_Q0_at, px_sx_0, px_sx_s, px_cl, px_step, ↓px_ll, px_lg, f4_, ↓px_r1, ↓px_r2, ↓px_r4, ↓px_r5, ↓px_p1, ↓px_p2, ↓px_p3, ↓px_pop, px_k_0, px_k_s, px_k3_0, px_stk_, px_cats, px_ent, px_st1, px_st2, px_mask, ↓px_tsw, ↓px_lsw, ct_, mls_0, mls_1, mls_2, mls_3, mls_4, mls_5, kd_0, kd_1, kd_2, kd_3, ln_0, ln_1, ln_2, ln_3, gf_0, gf_1, gf_2, gf_3, gf_4, gf_7, gf_21, gf_63, dy_0, dy_1, dy_2, dy_3, dy_7, dy_21, px_brT, px_brF, true_and, and_true, and_false, false_and, and_self, true_implies, false_implies, or_true, true_or, or_false, false_or, eq_self, ne_eq, not_false_eq_true, not_true_eq_false, if_true, if_false, List.mem_cons, List.not_mem_nil, List.length_cons, List.length_nil, Nat.reduceEqDiff, Nat.reduceAdd, Nat.reduceSub, Nat.reduceLeDiff, Nat.reduceLT, Int.reduceEq, Int.reduceLT, Int.reduceLE, Int.reduceNeg, Int.reduceAdd, Int.reduceSub, Int.reduceToNat, ↓reduceIte, one_ne_zero_, zero_ne_one_, px_in32L, cd_142]
  repeat' (first | (with_reducible apply And.intro) | (with_reducible refine px_br_intro (fun _ => ?_) (fun _ => ?_)))
  all_goals (try (first | (unfold px_in32; omega) | omega))
  · rename_i c1 c2 c3
    have e : k = px_ishl 1 (M 20 1) := by omega
    rw [← e] at h
    have h := h d.1 d.2 hd
    rw [if_neg (by omega), if_pos c3] at h
    refine sp_bytesOnly (by omega) hW hK ?_
    simp only [px_go, px_Q0_at, px_sx_0, px_sx_s, px_cl, px_step, ↓px_ll, px_lg, f4_, ↓px_r1, ↓px_r2, ↓px_r4, ↓px_r5, ↓px_p1, ↓px_p2, ↓px_p3, ↓px_pop, px_k_0, px_k_s, px_k3_0, px_stk_, px_cats, px_ent, px_st1, px_st2, px_mask, ↓px_tsw, ↓px_lsw, ct_, mls_0, mls_1, mls_2, mls_3, mls_4, mls_5, kd_0, kd_1, kd_2, kd_3, ln_0, ln_1, ln_2, ln_3, gf_0, gf_1, gf_2, gf_3, gf_4, gf_7, gf_21, gf_63, dy_0, dy_1, dy_2, dy_3, dy_7, dy_21, px_brT, px_brF, true_and, and_true, and_false, false_and, and_self, true_implies, false_implies, or_true, true_or, or_false, false_or, eq_self, ne_eq, not_false_eq_true, not_true_eq_false, if_true, if_false, List.mem_cons, List.not_mem_nil, List.length_cons, List.length_nil, Nat.reduceEqDiff, Nat.reduceAdd, Nat.reduceSub, Nat.reduceLeDiff, Nat.reduceLT, Int.reduceEq, Int.reduceLT, Int.reduceLE, Int.reduceNeg, Int.reduceAdd, Int.reduceSub, Int.reduceToNat, ↓reduceIte, one_ne_zero_, zero_ne_one_, px_in32L, cd_142]
    exact h
  · rename_i c1 c2 c3 c4
    have e : k = px_ishl 1 (M 20 1) := by omega
    rw [← e] at h
    have h := h d.1 d.2 hd
    rw [if_neg (by omega), if_neg c3, if_pos c4] at h
    exact h
  · rename_i c1 c2 c3 c4
    have e : k = px_ishl 1 (M 20 1) := by omega
    rw [← e] at h
    have h := h d.1 d.2 hd
    rw [if_neg (by omega), if_neg c3, if_neg c4] at h
    exact h
  · rename_i c1 c2
    have e : k = px_ishl 1 (M 20 1) := by omega
    rw [← e] at h
    have h := h d.1 d.2 hd
    rw [if_pos (by omega)] at h
    exact h
  · rename_i c1
    refine sp_bitCount ⟨k0, by omega⟩ ?_
    have hp := pcI_rng k
    simp only [px_go, px_Q0_at, px_sx_0, px_sx_s, px_cl, px_step, ↓px_ll, px_lg, f4_, ↓px_r1, ↓px_r2, ↓px_r4, ↓px_r5, ↓px_p1, ↓px_p2, ↓px_p3, ↓px_pop, px_k_0, px_k_s, px_k3_0, px_stk_, px_cats, px_ent, px_st1, px_st2, px_mask, ↓px_tsw, ↓px_lsw, ct_, mls_0, mls_1, mls_2, mls_3, mls_4, mls_5, kd_0, kd_1, kd_2, kd_3, ln_0, ln_1, ln_2, ln_3, gf_0, gf_1, gf_2, gf_3, gf_4, gf_7, gf_21, gf_63, dy_0, dy_1, dy_2, dy_3, dy_7, dy_21, px_brT, px_brF, true_and, and_true, and_false, false_and, and_self, true_implies, false_implies, or_true, true_or, or_false, false_or, eq_self, ne_eq, not_false_eq_true, not_true_eq_false, if_true, if_false, List.mem_cons, List.not_mem_nil, List.length_cons, List.length_nil, Nat.reduceEqDiff, Nat.reduceAdd, Nat.reduceSub, Nat.reduceLeDiff, Nat.reduceLT, Int.reduceEq, Int.reduceLT, Int.reduceLE, Int.reduceNeg, Int.reduceAdd, Int.reduceSub, Int.reduceToNat, ↓reduceIte, one_ne_zero_, zero_ne_one_, px_in32L, cd_142]
    repeat' (first | (with_reducible apply And.intro) | (with_reducible refine px_br_intro (fun _ => ?_) (fun _ => ?_)))
    all_goals (try (first | (unfold px_in32; omega) | omega))
    · rename_i c2 c3
      rw [hsf (fun z => by omega)] at ih
      exact ih (by omega) (by omega)
    · rename_i c2 c3
      refine sp_bytesOnly ⟨by omega, by omega⟩ hW hK ?_
      simp only [px_go, px_Q0_at, px_sx_0, px_sx_s, px_cl, px_step, ↓px_ll, px_lg, f4_, ↓px_r1, ↓px_r2, ↓px_r4, ↓px_r5, ↓px_p1, ↓px_p2, ↓px_p3, ↓px_pop, px_k_0, px_k_s, px_k3_0, px_stk_, px_cats, px_ent, px_st1, px_st2, px_mask, ↓px_tsw, ↓px_lsw, ct_, mls_0, mls_1, mls_2, mls_3, mls_4, mls_5, kd_0, kd_1, kd_2, kd_3, ln_0, ln_1, ln_2, ln_3, gf_0, gf_1, gf_2, gf_3, gf_4, gf_7, gf_21, gf_63, dy_0, dy_1, dy_2, dy_3, dy_7, dy_21, px_brT, px_brF, true_and, and_true, and_false, false_and, and_self, true_implies, false_implies, or_true, true_or, or_false, false_or, eq_self, ne_eq, not_false_eq_true, not_true_eq_false, if_true, if_false, List.mem_cons, List.not_mem_nil, List.length_cons, List.length_nil, Nat.reduceEqDiff, Nat.reduceAdd, Nat.reduceSub, Nat.reduceLeDiff, Nat.reduceLT, Int.reduceEq, Int.reduceLT, Int.reduceLE, Int.reduceNeg, Int.reduceAdd, Int.reduceSub, Int.reduceToNat, ↓reduceIte, one_ne_zero_, zero_ne_one_, px_in32L, cd_142]
      repeat' (first | (with_reducible apply And.intro) | (with_reducible refine px_br_intro (fun _ => ?_) (fun _ => ?_)))
      all_goals (try (first | (unfold px_in32; omega) | omega))
      · rename_i c4
        rw [hsf (fun z => by have := z.1.2; omega)] at ih
        exact ih (by omega) (by omega)
      · rename_i c4
        rw [hst ⟨c2, by omega⟩ (by omega)] at ih
        exact ih (by omega) (by omega)
    · rename_i c2
      rw [hsf (fun z => c2 z.1.1)] at ih
      exact ih (by omega) (by omega)
set_option maxHeartbeats 600000 in
set_option maxRecDepth 100000 in
theorem sp_drops {many w : Int} (hw : edW M) (hl : lsA M) (hci : ci M) (h0 : ¬ (0 ≤ many ∧ many ≤ 400 ∧ 0 ≤ w ∧ w ≤ 2) → Q (some (0, -1)) M) (h1 : ∀ M' sea b f, (0 ≤ many ∧ many ≤ 400 ∧ 0 ≤ w ∧ w ≤ 2) → talC M M' → seaC M sea → drR (fun s => px_iand s sea = 0 ∧ many ≤ bol M' s) (px_ishl 1 (M 20 1)).toNat = (b, f) → Q (some (0, if b < 0 then -2 else if w = 2 then bol M' b else if w = 0 then f else b)) M') : px_Ok 142 [(2, 1), (0, many), (0, w)] LAY M Q := by
  refine px_ok_go (inl := []) (ls0 := [(2, 1), (0, many), (0, w), (9, 0), (9, 0), (9, 0), (9, 0), (9, 0)]) 60 (by decide) (Nat.le_of_ble_eq_true rfl) rfl ?_
  simp only [px_go, px_Q0_at, px_sx_0, px_sx_s, px_cl, px_step, ↓px_ll, px_lg, f4_, ↓px_r1, ↓px_r2, ↓px_r4, ↓px_r5, ↓px_p1, ↓px_p2, ↓px_p3, ↓px_pop, px_k_0, px_k_s, px_k3_0, px_stk_, px_cats, px_ent, px_st1, px_st2, px_mask, ↓px_tsw, ↓px_lsw, ct_, mls_0, mls_1, mls_2, mls_3, mls_4, mls_5, kd_0, kd_1, kd_2, kd_3, ln_0, ln_1, ln_2, ln_3, gf_0, gf_1, gf_2, gf_3, gf_4, gf_7, gf_21, gf_63, dy_0, dy_1, dy_2, dy_3, dy_7, dy_21, px_brT, px_brF, true_and, and_true, and_false, false_and, and_self, true_implies, false_implies, or_true, true_or, or_false, false_or, eq_self, ne_eq, not_false_eq_true, not_true_eq_false, if_true, if_false, List.mem_cons, List.not_mem_nil, List.length_cons, List.length_nil, Nat.reduceEqDiff, Nat.reduceAdd, Nat.reduceSub, Nat.reduceLeDiff, Nat.reduceLT, Int.reduceEq, Int.reduceLT, Int.reduceLE, Int.reduceNeg, Int.reduceAdd, Int.reduceSub, Int.reduceToNat, ↓reduceIte, one_ne_zero_, zero_ne_one_, px_in32L, cd_142]
  repeat' (first | (with_reducible apply And.intro) | (with_reducible refine px_br_intro (fun _ => ?_) (fun _ => ?_)))
  all_goals (try (first | (unfold px_in32; omega) | omega))
  all_goals (try exact h0 (by omega))
  refine sp_tally hw hl hci (fun M' ht => ?_)
  have fr := ht.2.2.2.2
  have hw' : edW M' := by unfold edW; rw [fr 20 (by decide), fr 21 (by decide)]; exact hw
  simp only [px_go, px_Q0_at, px_sx_0, px_sx_s, px_cl, px_step, ↓px_ll, px_lg, f4_, ↓px_r1, ↓px_r2, ↓px_r4, ↓px_r5, ↓px_p1, ↓px_p2, ↓px_p3, ↓px_pop, px_k_0, px_k_s, px_k3_0, px_stk_, px_cats, px_ent, px_st1, px_st2, px_mask, ↓px_tsw, ↓px_lsw, ct_, mls_0, mls_1, mls_2, mls_3, mls_4, mls_5, kd_0, kd_1, kd_2, kd_3, ln_0, ln_1, ln_2, ln_3, gf_0, gf_1, gf_2, gf_3, gf_4, gf_7, gf_21, gf_63, dy_0, dy_1, dy_2, dy_3, dy_7, dy_21, px_brT, px_brF, true_and, and_true, and_false, false_and, and_self, true_implies, false_implies, or_true, true_or, or_false, false_or, eq_self, ne_eq, not_false_eq_true, not_true_eq_false, if_true, if_false, List.mem_cons, List.not_mem_nil, List.length_cons, List.length_nil, Nat.reduceEqDiff, Nat.reduceAdd, Nat.reduceSub, Nat.reduceLeDiff, Nat.reduceLT, Int.reduceEq, Int.reduceLT, Int.reduceLE, Int.reduceNeg, Int.reduceAdd, Int.reduceSub, Int.reduceToNat, ↓reduceIte, one_ne_zero_, zero_ne_one_, px_in32L, cd_142]
  refine sp_sealedSet hw' (fun sea hsea => ?_)
  have hsea2 : seaC M sea := by
    unfold seaC at hsea ⊢
    rw [fr 20 (by decide), fr 21 (by decide)] at hsea
    refine ⟨hsea.1, fun i i0 => ?_⟩
    rw [hsea.2 i i0]
    refine and_congr_right (fun q => ?_)
    have := isE_m (hw.1 i i0 (by have := hw.2.2; omega)).1
    rw [fr (M 21 i) (by omega)]
  have e20 : M' 20 1 = M 20 1 := by rw [fr 20 (by decide)]
  simp only [px_go, px_Q0_at, px_sx_0, px_sx_s, px_cl, px_step, ↓px_ll, px_lg, f4_, ↓px_r1, ↓px_r2, ↓px_r4, ↓px_r5, ↓px_p1, ↓px_p2, ↓px_p3, ↓px_pop, px_k_0, px_k_s, px_k3_0, px_stk_, px_cats, px_ent, px_st1, px_st2, px_mask, ↓px_tsw, ↓px_lsw, ct_, mls_0, mls_1, mls_2, mls_3, mls_4, mls_5, kd_0, kd_1, kd_2, kd_3, ln_0, ln_1, ln_2, ln_3, gf_0, gf_1, gf_2, gf_3, gf_4, gf_7, gf_21, gf_63, dy_0, dy_1, dy_2, dy_3, dy_7, dy_21, px_brT, px_brF, true_and, and_true, and_false, false_and, and_self, true_implies, false_implies, or_true, true_or, or_false, false_or, eq_self, ne_eq, not_false_eq_true, not_true_eq_false, if_true, if_false, List.mem_cons, List.not_mem_nil, List.length_cons, List.length_nil, Nat.reduceEqDiff, Nat.reduceAdd, Nat.reduceSub, Nat.reduceLeDiff, Nat.reduceLT, Int.reduceEq, Int.reduceLT, Int.reduceLE, Int.reduceNeg, Int.reduceAdd, Int.reduceSub, Int.reduceToNat, ↓reduceIte, one_ne_zero_, zero_ne_one_, px_in32L, cd_142]
  refine lp_drops hw' (by omega) hsea.1 (fun c c0 c1 => (ht.2.2.2.1 c c0 c1).1) (fun c c0 c1 c2 => ?_) (fun b f e => h1 M' sea b f (by omega) ht hsea2 (by rw [← e20]; exact e)) 0 ?_ (Int.le_refl 0)
  · rw [fr 62 (by decide)] at c2
    rw [fr 60 (by decide)]
    have := cokC (hci.1 c c0 c1 c2)
    omega
  · have hn := hw.2.2
    rw [ishl_eq (by omega) (by omega)]
    have := p2_pos (M' 20 1).toNat
    omega
set_option maxHeartbeats 600000 in
set_option maxRecDepth 100000 in
theorem sp_thrift (hw : edW M) (hl : lsA M) (hci : ci M) (h1 : ∀ M1 M' r, talC M M1 → thrA M1 111 r → (∀ b, b ≠ 106 → b ≠ 107 → b ≠ 108 → M' b = M1 b) → Q (some (0, r)) M') : px_Ok 143 [(2, 1)] LAY M Q := by
  refine px_ok_go (inl := []) (ls0 := [(2, 1)]) 60 (by decide) (Nat.le_of_ble_eq_true rfl) rfl ?_
  simp only [px_go, px_Q0_at, px_sx_0, px_sx_s, px_cl, px_step, ↓px_ll, px_lg, f4_, ↓px_r1, ↓px_r2, ↓px_r4, ↓px_r5, ↓px_p1, ↓px_p2, ↓px_p3, ↓px_pop, px_k_0, px_k_s, px_k3_0, px_stk_, px_cats, px_ent, px_st1, px_st2, px_mask, ↓px_tsw, ↓px_lsw, ct_, mls_0, mls_1, mls_2, mls_3, mls_4, mls_5, kd_0, kd_1, kd_2, kd_3, ln_0, ln_1, ln_2, ln_3, gf_0, gf_1, gf_2, gf_3, gf_4, gf_7, gf_21, gf_63, dy_0, dy_1, dy_2, dy_3, dy_7, dy_21, px_brT, px_brF, true_and, and_true, and_false, false_and, and_self, true_implies, false_implies, or_true, true_or, or_false, false_or, eq_self, ne_eq, not_false_eq_true, not_true_eq_false, if_true, if_false, List.mem_cons, List.not_mem_nil, List.length_cons, List.length_nil, Nat.reduceEqDiff, Nat.reduceAdd, Nat.reduceSub, Nat.reduceLeDiff, Nat.reduceLT, Int.reduceEq, Int.reduceLT, Int.reduceLE, Int.reduceNeg, Int.reduceAdd, Int.reduceSub, Int.reduceToNat, ↓reduceIte, one_ne_zero_, zero_ne_one_, px_in32L, cd_143]
  repeat' (first | (with_reducible apply And.intro) | (with_reducible refine px_br_intro (fun _ => ?_) (fun _ => ?_)))
  all_goals (try (first | (unfold px_in32; omega) | omega))
  refine sp_tally hw hl hci (fun M1 ht => ?_)
  have hci1 : ci M1 := ci_congr (fun b _ b1 _ => ht.2.2.2.2 b (by omega)) hci
  simp only [px_go, px_Q0_at, px_sx_0, px_sx_s, px_cl, px_step, ↓px_ll, px_lg, f4_, ↓px_r1, ↓px_r2, ↓px_r4, ↓px_r5, ↓px_p1, ↓px_p2, ↓px_p3, ↓px_pop, px_k_0, px_k_s, px_k3_0, px_stk_, px_cats, px_ent, px_st1, px_st2, px_mask, ↓px_tsw, ↓px_lsw, ct_, mls_0, mls_1, mls_2, mls_3, mls_4, mls_5, kd_0, kd_1, kd_2, kd_3, ln_0, ln_1, ln_2, ln_3, gf_0, gf_1, gf_2, gf_3, gf_4, gf_7, gf_21, gf_63, dy_0, dy_1, dy_2, dy_3, dy_7, dy_21, px_brT, px_brF, true_and, and_true, and_false, false_and, and_self, true_implies, false_implies, or_true, true_or, or_false, false_or, eq_self, ne_eq, not_false_eq_true, not_true_eq_false, if_true, if_false, List.mem_cons, List.not_mem_nil, List.length_cons, List.length_nil, Nat.reduceEqDiff, Nat.reduceAdd, Nat.reduceSub, Nat.reduceLeDiff, Nat.reduceLT, Int.reduceEq, Int.reduceLT, Int.reduceLE, Int.reduceNeg, Int.reduceAdd, Int.reduceSub, Int.reduceToNat, ↓reduceIte, one_ne_zero_, zero_ne_one_, px_in32L, cd_143]
  refine sp_sizeAnew hci1 rfl rfl (by decide) (fun M' r a b => ?_)
  simp only [px_go, px_Q0_at, px_sx_0, px_sx_s, px_cl, px_step, ↓px_ll, px_lg, f4_, ↓px_r1, ↓px_r2, ↓px_r4, ↓px_r5, ↓px_p1, ↓px_p2, ↓px_p3, ↓px_pop, px_k_0, px_k_s, px_k3_0, px_stk_, px_cats, px_ent, px_st1, px_st2, px_mask, ↓px_tsw, ↓px_lsw, ct_, mls_0, mls_1, mls_2, mls_3, mls_4, mls_5, kd_0, kd_1, kd_2, kd_3, ln_0, ln_1, ln_2, ln_3, gf_0, gf_1, gf_2, gf_3, gf_4, gf_7, gf_21, gf_63, dy_0, dy_1, dy_2, dy_3, dy_7, dy_21, px_brT, px_brF, true_and, and_true, and_false, false_and, and_self, true_implies, false_implies, or_true, true_or, or_false, false_or, eq_self, ne_eq, not_false_eq_true, not_true_eq_false, if_true, if_false, List.mem_cons, List.not_mem_nil, List.length_cons, List.length_nil, Nat.reduceEqDiff, Nat.reduceAdd, Nat.reduceSub, Nat.reduceLeDiff, Nat.reduceLT, Int.reduceEq, Int.reduceLT, Int.reduceLE, Int.reduceNeg, Int.reduceAdd, Int.reduceSub, Int.reduceToNat, ↓reduceIte, one_ne_zero_, zero_ne_one_, px_in32L, cd_143]
  exact h1 M1 M' r ht a b
set_option maxHeartbeats 600000 in
set_option maxRecDepth 100000 in
theorem sp_pieces {c b : Int} (hci : ci M) (h0 : ¬ (0 ≤ c ∧ c < 40 ∧ 0 ≤ M 62 c ∧ 0 ≤ b ∧ b < 40 ∧ 0 ≤ M 62 b) → Q (some (0, -1)) M) (h2 : (0 ≤ c ∧ c < 40 ∧ 0 ≤ M 62 c ∧ 0 ≤ b ∧ b < 40 ∧ 0 ≤ M 62 b) → (M 105 c = 0 ∨ M 105 b = 0) → Q (some (0, -2)) M) (h1 : ∀ M', (0 ≤ c ∧ c < 40 ∧ 0 ≤ M 62 c ∧ 0 ≤ b ∧ b < 40 ∧ 0 ≤ M 62 b) → M 105 c ≠ 0 → M 105 b ≠ 0 → eq67 M M' → Q (some (0, ((pcl (rdC M c) (rdC M b)).length : Int))) M') : px_Ok 144 [(2, 1), (0, c), (0, b)] LAY M Q := by
  refine px_ok_go (inl := [7]) (ls0 := [(2, 1), (0, c), (0, b)]) 60 (by decide) (Nat.le_of_ble_eq_true rfl) rfl ?_
  simp only [px_go, px_Q0_at, px_sx_0, px_sx_s, px_cl, px_step, ↓px_ll, px_lg, f4_, ↓px_r1, ↓px_r2, ↓px_r4, ↓px_r5, ↓px_p1, ↓px_p2, ↓px_p3, ↓px_pop, px_k_0, px_k_s, px_k3_0, px_stk_, px_cats, px_ent, px_st1, px_st2, px_mask, ↓px_tsw, ↓px_lsw, ct_, mls_0, mls_1, mls_2, mls_3, mls_4, mls_5, kd_0, kd_1, kd_2, kd_3, ln_0, ln_1, ln_2, ln_3, gf_0, gf_1, gf_2, gf_3, gf_4, gf_7, gf_21, gf_63, dy_0, dy_1, dy_2, dy_3, dy_7, dy_21, px_brT, px_brF, true_and, and_true, and_false, false_and, and_self, true_implies, false_implies, or_true, true_or, or_false, false_or, eq_self, ne_eq, not_false_eq_true, not_true_eq_false, if_true, if_false, List.mem_cons, List.not_mem_nil, List.length_cons, List.length_nil, Nat.reduceEqDiff, Nat.reduceAdd, Nat.reduceSub, Nat.reduceLeDiff, Nat.reduceLT, Int.reduceEq, Int.reduceLT, Int.reduceLE, Int.reduceNeg, Int.reduceAdd, Int.reduceSub, Int.reduceToNat, ↓reduceIte, one_ne_zero_, zero_ne_one_, px_in32L, cd_144, cd_7]
  repeat' (first | (with_reducible apply And.intro) | (with_reducible refine px_br_intro (fun _ => ?_) (fun _ => ?_)))
  all_goals (try (first | (unfold px_in32; omega) | omega))
  all_goals (try exact h0 (by omega))
  all_goals (try exact h2 (by omega) (by omega))
  have hr := rdC_rng (c := c) hci (by omega) (by omega) (by omega) (by omega)
  have hkc := cokC (hci.1 c (by omega) (by omega) (by omega))
  have hkb := cokC (hci.1 b (by omega) (by omega) (by omega))
  have hrl := row_lay (v := 64 + c) (Or.inr (by omega))
  refine sp_piecesBy (by omega) hrl.1 (by omega) (by omega) (by omega) (by omega) (by omega) (fun j j0 j1 => hr.1 _ (lst_mem.mpr ⟨j, j0, j1, rfl⟩)) (fun M' a1 a2 a3 => ?_)
  have e : pcs M (64 + c) (M 57 c) b = pcl (rdC M c) (rdC M b) := by unfold pcs; rw [pcl_lst (by omega) (by omega)]; rfl
  rw [e]
  simp only [px_go, px_Q0_at, px_sx_0, px_sx_s, px_cl, px_step, ↓px_ll, px_lg, f4_, ↓px_r1, ↓px_r2, ↓px_r4, ↓px_r5, ↓px_p1, ↓px_p2, ↓px_p3, ↓px_pop, px_k_0, px_k_s, px_k3_0, px_stk_, px_cats, px_ent, px_st1, px_st2, px_mask, ↓px_tsw, ↓px_lsw, ct_, mls_0, mls_1, mls_2, mls_3, mls_4, mls_5, kd_0, kd_1, kd_2, kd_3, ln_0, ln_1, ln_2, ln_3, gf_0, gf_1, gf_2, gf_3, gf_4, gf_7, gf_21, gf_63, dy_0, dy_1, dy_2, dy_3, dy_7, dy_21, px_brT, px_brF, true_and, and_true, and_false, false_and, and_self, true_implies, false_implies, or_true, true_or, or_false, false_or, eq_self, ne_eq, not_false_eq_true, not_true_eq_false, if_true, if_false, List.mem_cons, List.not_mem_nil, List.length_cons, List.length_nil, Nat.reduceEqDiff, Nat.reduceAdd, Nat.reduceSub, Nat.reduceLeDiff, Nat.reduceLT, Int.reduceEq, Int.reduceLT, Int.reduceLE, Int.reduceNeg, Int.reduceAdd, Int.reduceSub, Int.reduceToNat, ↓reduceIte, one_ne_zero_, zero_ne_one_, px_in32L, cd_144, cd_7]
  exact h1 M' (by omega) (by omega) (by omega) a3
set_option maxHeartbeats 600000 in
set_option maxRecDepth 100000 in
theorem sp_content {c w : Int} (hw : edW M) (hl : lsA M) (hci : ci M) (h0 : ¬ (0 ≤ c ∧ c < 40 ∧ 0 ≤ M 62 c) → Q (some (0, -1)) M) (h2 : ∀ M', (0 ≤ c ∧ c < 40 ∧ 0 ≤ M 62 c) → w = 6 → talC M M' → Q (some (0, M' 111 c)) M') (h1 : (0 ≤ c ∧ c < 40 ∧ 0 ≤ M 62 c) → w ≠ 6 → Q (some (0, fact M c w)) M) : px_Ok 145 [(2, 1), (0, c), (0, w)] LAY M Q := by
  refine px_ok_go (inl := [7]) (ls0 := [(2, 1), (0, c), (0, w)]) 60 (by decide) (Nat.le_of_ble_eq_true rfl) rfl ?_
  simp only [px_go, px_Q0_at, px_sx_0, px_sx_s, px_cl, px_step, ↓px_ll, px_lg, f4_, ↓px_r1, ↓px_r2, ↓px_r4, ↓px_r5, ↓px_p1, ↓px_p2, ↓px_p3, ↓px_pop, px_k_0, px_k_s, px_k3_0, px_stk_, px_cats, px_ent, px_st1, px_st2, px_mask, ↓px_tsw, ↓px_lsw, ct_, mls_0, mls_1, mls_2, mls_3, mls_4, mls_5, kd_0, kd_1, kd_2, kd_3, ln_0, ln_1, ln_2, ln_3, gf_0, gf_1, gf_2, gf_3, gf_4, gf_7, gf_21, gf_63, dy_0, dy_1, dy_2, dy_3, dy_7, dy_21, px_brT, px_brF, true_and, and_true, and_false, false_and, and_self, true_implies, false_implies, or_true, true_or, or_false, false_or, eq_self, ne_eq, not_false_eq_true, not_true_eq_false, if_true, if_false, List.mem_cons, List.not_mem_nil, List.length_cons, List.length_nil, Nat.reduceEqDiff, Nat.reduceAdd, Nat.reduceSub, Nat.reduceLeDiff, Nat.reduceLT, Int.reduceEq, Int.reduceLT, Int.reduceLE, Int.reduceNeg, Int.reduceAdd, Int.reduceSub, Int.reduceToNat, ↓reduceIte, one_ne_zero_, zero_ne_one_, px_in32L, cd_145, cd_7]
  repeat' (first | (with_reducible apply And.intro) | (with_reducible refine px_br_intro (fun _ => ?_) (fun _ => ?_)))
  all_goals (try (first | (unfold px_in32; omega) | omega))
  all_goals (try exact h0 (by omega))
  · refine sp_tally hw hl hci (fun M' ht => ?_)
    simp only [px_go, px_Q0_at, px_sx_0, px_sx_s, px_cl, px_step, ↓px_ll, px_lg, f4_, ↓px_r1, ↓px_r2, ↓px_r4, ↓px_r5, ↓px_p1, ↓px_p2, ↓px_p3, ↓px_pop, px_k_0, px_k_s, px_k3_0, px_stk_, px_cats, px_ent, px_st1, px_st2, px_mask, ↓px_tsw, ↓px_lsw, ct_, mls_0, mls_1, mls_2, mls_3, mls_4, mls_5, kd_0, kd_1, kd_2, kd_3, ln_0, ln_1, ln_2, ln_3, gf_0, gf_1, gf_2, gf_3, gf_4, gf_7, gf_21, gf_63, dy_0, dy_1, dy_2, dy_3, dy_7, dy_21, px_brT, px_brF, true_and, and_true, and_false, false_and, and_self, true_implies, false_implies, or_true, true_or, or_false, false_or, eq_self, ne_eq, not_false_eq_true, not_true_eq_false, if_true, if_false, List.mem_cons, List.not_mem_nil, List.length_cons, List.length_nil, Nat.reduceEqDiff, Nat.reduceAdd, Nat.reduceSub, Nat.reduceLeDiff, Nat.reduceLT, Int.reduceEq, Int.reduceLT, Int.reduceLE, Int.reduceNeg, Int.reduceAdd, Int.reduceSub, Int.reduceToNat, ↓reduceIte, one_ne_zero_, zero_ne_one_, px_in32L, cd_145, cd_7]
    repeat' (first | (with_reducible apply And.intro) | (with_reducible refine px_br_intro (fun _ => ?_) (fun _ => ?_)))
    all_goals (try (first | (unfold px_in32; omega) | omega))
    exact h2 M' (by omega) (by omega) ht
  · refine sp_factOf (by omega) ?_
    simp only [px_go, px_Q0_at, px_sx_0, px_sx_s, px_cl, px_step, ↓px_ll, px_lg, f4_, ↓px_r1, ↓px_r2, ↓px_r4, ↓px_r5, ↓px_p1, ↓px_p2, ↓px_p3, ↓px_pop, px_k_0, px_k_s, px_k3_0, px_stk_, px_cats, px_ent, px_st1, px_st2, px_mask, ↓px_tsw, ↓px_lsw, ct_, mls_0, mls_1, mls_2, mls_3, mls_4, mls_5, kd_0, kd_1, kd_2, kd_3, ln_0, ln_1, ln_2, ln_3, gf_0, gf_1, gf_2, gf_3, gf_4, gf_7, gf_21, gf_63, dy_0, dy_1, dy_2, dy_3, dy_7, dy_21, px_brT, px_brF, true_and, and_true, and_false, false_and, and_self, true_implies, false_implies, or_true, true_or, or_false, false_or, eq_self, ne_eq, not_false_eq_true, not_true_eq_false, if_true, if_false, List.mem_cons, List.not_mem_nil, List.length_cons, List.length_nil, Nat.reduceEqDiff, Nat.reduceAdd, Nat.reduceSub, Nat.reduceLeDiff, Nat.reduceLT, Int.reduceEq, Int.reduceLT, Int.reduceLE, Int.reduceNeg, Int.reduceAdd, Int.reduceSub, Int.reduceToNat, ↓reduceIte, one_ne_zero_, zero_ne_one_, px_in32L, cd_145, cd_7]
    exact h1 (by omega) (by omega)
set_option maxHeartbeats 600000 in
set_option maxRecDepth 100000 in
theorem sp_row {p : Int} (h : Q (some (0, if 0 ≤ p ∧ p < 400 then M 53 p else -1)) M) : px_Ok 138 [(2, 1), (0, p)] LAY M Q := by
  refine px_ok_go (inl := [75]) (ls0 := [(2, 1), (0, p)]) 60 (by decide) (Nat.le_of_ble_eq_true rfl) rfl ?_
  simp only [px_go, px_Q0_at, px_sx_0, px_sx_s, px_cl, px_step, ↓px_ll, px_lg, f4_, ↓px_r1, ↓px_r2, ↓px_r4, ↓px_r5, ↓px_p1, ↓px_p2, ↓px_p3, ↓px_pop, px_k_0, px_k_s, px_k3_0, px_stk_, px_cats, px_ent, px_st1, px_st2, px_mask, ↓px_tsw, ↓px_lsw, ct_, mls_0, mls_1, mls_2, mls_3, mls_4, mls_5, kd_0, kd_1, kd_2, kd_3, ln_0, ln_1, ln_2, ln_3, gf_0, gf_1, gf_2, gf_3, gf_4, gf_7, gf_21, gf_63, dy_0, dy_1, dy_2, dy_3, dy_7, dy_21, px_brT, px_brF, true_and, and_true, and_false, false_and, and_self, true_implies, false_implies, or_true, true_or, or_false, false_or, eq_self, ne_eq, not_false_eq_true, not_true_eq_false, if_true, if_false, List.mem_cons, List.not_mem_nil, List.length_cons, List.length_nil, Nat.reduceEqDiff, Nat.reduceAdd, Nat.reduceSub, Nat.reduceLeDiff, Nat.reduceLT, Int.reduceEq, Int.reduceLT, Int.reduceLE, Int.reduceNeg, Int.reduceAdd, Int.reduceSub, Int.reduceToNat, ↓reduceIte, one_ne_zero_, zero_ne_one_, px_in32L, cd_138, cd_75]
  repeat' (first | (with_reducible apply And.intro) | (with_reducible refine px_br_intro (fun _ => ?_) (fun _ => ?_)))
  all_goals (try (first | (unfold px_in32; omega) | omega))
  · rw [if_neg (by omega)] at h; exact h
  · rw [if_neg (by omega)] at h; exact h
  · rw [if_pos (by omega)] at h; exact h
set_option maxHeartbeats 600000 in
set_option maxRecDepth 100000 in
theorem sp_owner {p : Int} (h : Q (some (0, if 0 ≤ p ∧ p < 400 then M 54 p else -1)) M) : px_Ok 139 [(2, 1), (0, p)] LAY M Q := by
  refine px_ok_go (inl := [75]) (ls0 := [(2, 1), (0, p)]) 60 (by decide) (Nat.le_of_ble_eq_true rfl) rfl ?_
  simp only [px_go, px_Q0_at, px_sx_0, px_sx_s, px_cl, px_step, ↓px_ll, px_lg, f4_, ↓px_r1, ↓px_r2, ↓px_r4, ↓px_r5, ↓px_p1, ↓px_p2, ↓px_p3, ↓px_pop, px_k_0, px_k_s, px_k3_0, px_stk_, px_cats, px_ent, px_st1, px_st2, px_mask, ↓px_tsw, ↓px_lsw, ct_, mls_0, mls_1, mls_2, mls_3, mls_4, mls_5, kd_0, kd_1, kd_2, kd_3, ln_0, ln_1, ln_2, ln_3, gf_0, gf_1, gf_2, gf_3, gf_4, gf_7, gf_21, gf_63, dy_0, dy_1, dy_2, dy_3, dy_7, dy_21, px_brT, px_brF, true_and, and_true, and_false, false_and, and_self, true_implies, false_implies, or_true, true_or, or_false, false_or, eq_self, ne_eq, not_false_eq_true, not_true_eq_false, if_true, if_false, List.mem_cons, List.not_mem_nil, List.length_cons, List.length_nil, Nat.reduceEqDiff, Nat.reduceAdd, Nat.reduceSub, Nat.reduceLeDiff, Nat.reduceLT, Int.reduceEq, Int.reduceLT, Int.reduceLE, Int.reduceNeg, Int.reduceAdd, Int.reduceSub, Int.reduceToNat, ↓reduceIte, one_ne_zero_, zero_ne_one_, px_in32L, cd_139, cd_75]
  repeat' (first | (with_reducible apply And.intro) | (with_reducible refine px_br_intro (fun _ => ?_) (fun _ => ?_)))
  all_goals (try (first | (unfold px_in32; omega) | omega))
  · rw [if_neg (by omega)] at h; exact h
  · rw [if_neg (by omega)] at h; exact h
  · rw [if_pos (by omega)] at h; exact h
end PS
