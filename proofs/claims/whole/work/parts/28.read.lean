/-! EditionVault.Contents: reading -/
set_option maxRecDepth 100000 in
/-- X1_readAll -/
theorem cd_12 : px_at 12 0 = some (1, [], .iconst 0, []) ∧ px_at 12 1 = some (2, [], .istore_n 1, []) ∧ px_at 12 2 = some (3, [1, 1, 0], .iload_n 1, []) ∧ px_at 12 3 = some (4, [], .iconst 3, []) ∧ px_at 12 4 = some (7, [], .if_icmp .gt 38, [42]) ∧ px_at 12 7 = some (8, [], .iconst 0, []) ∧ px_at 12 8 = some (9, [], .istore_n 2, []) ∧ px_at 12 9 = some (10, [1, 1, 1], .iload_n 2, []) ∧ px_at 12 10 = some (12, [], .bipush 40, []) ∧ px_at 12 12 = some (15, [], .if_icmp .ge 24, [36]) ∧ px_at 12 15 = some (16, [], .aload_n 0, []) ∧ px_at 12 16 = some (19, [], .getfield 27, [1, 5, 2, 1, 76]) ∧ px_at 12 19 = some (20, [], .iload_n 2, []) ∧ px_at 12 20 = some (21, [], .iaload, []) ∧ px_at 12 21 = some (22, [], .iload_n 1, []) ∧ px_at 12 22 = some (25, [], .if_icmp .ne 8, [30]) ∧ px_at 12 25 = some (26, [], .aload_n 0, []) ∧ px_at 12 26 = some (27, [], .iload_n 2, []) ∧ px_at 12 27 = some (30, [], .invokevirtual 68, [13, 1, 1, 83]) ∧ px_at 12 30 = some (33, [], .iinc 2 1, []) ∧ px_at 12 33 = some (36, [], .goto (-24), [9]) ∧ px_at 12 36 = some (39, [], .iinc 1 1, []) ∧ px_at 12 39 = some (42, [], .goto (-37), [2]) ∧ px_at 12 42 = some (43, [], .return_, []) := ⟨rfl, rfl, rfl, rfl, rfl, rfl, rfl, rfl, rfl, rfl, rfl, rfl, rfl, rfl, rfl, rfl, rfl, rfl, rfl, rfl, rfl, rfl, rfl, rfl⟩
set_option maxRecDepth 100000 in
/-- X1_readOne -/
theorem cd_13 : px_at 13 0 = some (1, [], .aload_n 0, []) ∧ px_at 13 1 = some (4, [], .getfield 24, [1, 4, 2, 1, 74]) ∧ px_at 13 4 = some (5, [], .iload_n 1, []) ∧ px_at 13 5 = some (6, [], .iaload, []) ∧ px_at 13 6 = some (9, [], .ifCond .ge 11, [17]) ∧ px_at 13 9 = some (10, [], .aload_n 0, []) ∧ px_at 13 10 = some (11, [], .iload_n 1, []) ∧ px_at 13 11 = some (14, [], .invokevirtual 72, [14, 1, 1, 84]) ∧ px_at 13 14 = some (17, [], .goto 8, [22]) ∧ px_at 13 17 = some (18, [], .aload_n 0, []) ∧ px_at 13 18 = some (19, [], .iload_n 1, []) ∧ px_at 13 19 = some (22, [], .invokevirtual 75, [15, 1, 1, 85]) ∧ px_at 13 22 = some (23, [], .istore_n 2, []) ∧ px_at 13 23 = some (24, [], .aload_n 0, []) ∧ px_at 13 24 = some (27, [], .getfield 35, [1, 7, 2, 1, 81]) ∧ px_at 13 27 = some (28, [], .iload_n 1, []) ∧ px_at 13 28 = some (29, [], .iload_n 2, []) ∧ px_at 13 29 = some (30, [], .bastore, []) ∧ px_at 13 30 = some (31, [], .aload_n 0, []) ∧ px_at 13 31 = some (34, [], .getfield 39, [1, 8, 2, 1, 83]) ∧ px_at 13 34 = some (35, [], .iload_n 1, []) ∧ px_at 13 35 = some (36, [], .iload_n 2, []) ∧ px_at 13 36 = some (39, [], .ifCond .eq 31, [67]) ∧ px_at 13 39 = some (40, [], .aload_n 0, []) ∧ px_at 13 40 = some (43, [], .getfield 32, [1, 6, 2, 1, 78]) ∧ px_at 13 43 = some (44, [], .iload_n 1, []) ∧ px_at 13 44 = some (45, [], .aaload, []) ∧ px_at 13 45 = some (46, [], .aload_n 0, []) ∧ px_at 13 46 = some (49, [], .getfield 9, [1, 0, 2, 1, 66]) ∧ px_at 13 49 = some (50, [], .iload_n 1, []) ∧ px_at 13 50 = some (51, [], .iaload, []) ∧ px_at 13 51 = some (54, [], .invokestatic 78, [6, 2, 1, 82]) ∧ px_at 13 54 = some (55, [], .aload_n 0, []) ∧ px_at 13 55 = some (58, [], .getfield 15, [1, 1, 2, 1, 69]) ∧ px_at 13 58 = some (59, [], .iload_n 1, []) ∧ px_at 13 59 = some (60, [], .iaload, []) ∧ px_at 13 60 = some (63, [], .if_icmp .ne 7, [67]) ∧ px_at 13 63 = some (64, [], .iconst 1, []) ∧ px_at 13 64 = some (67, [], .goto 4, [68]) ∧ px_at 13 67 = some (68, [], .iconst 0, []) ∧ px_at 13 68 = some (69, [], .bastore, []) ∧ px_at 13 69 = some (70, [], .return_, []) := ⟨rfl, rfl, rfl, rfl, rfl, rfl, rfl, rfl, rfl, rfl, rfl, rfl, rfl, rfl, rfl, rfl, rfl, rfl, rfl, rfl, rfl, rfl, rfl, rfl, rfl, rfl, rfl, rfl, rfl, rfl, rfl, rfl, rfl, rfl, rfl, rfl, rfl, rfl, rfl, rfl, rfl, rfl⟩
set_option maxRecDepth 100000 in
/-- X1_readPlain -/
theorem cd_14 : px_at 14 0 = some (1, [], .iconst 0, []) ∧ px_at 14 1 = some (2, [], .istore_n 2, []) ∧ px_at 14 2 = some (3, [1, 1, 1], .iload_n 2, []) ∧ px_at 14 3 = some (4, [], .aload_n 0, []) ∧ px_at 14 4 = some (7, [], .getfield 9, [1, 0, 2, 1, 66]) ∧ px_at 14 7 = some (8, [], .iload_n 1, []) ∧ px_at 14 8 = some (9, [], .iaload, []) ∧ px_at 14 9 = some (12, [], .if_icmp .ge 33, [42]) ∧ px_at 14 12 = some (13, [], .aload_n 0, []) ∧ px_at 14 13 = some (16, [], .getfield 32, [1, 6, 2, 1, 78]) ∧ px_at 14 16 = some (17, [], .iload_n 1, []) ∧ px_at 14 17 = some (18, [], .aaload, []) ∧ px_at 14 18 = some (19, [], .iload_n 2, []) ∧ px_at 14 19 = some (20, [], .aload_n 0, []) ∧ px_at 14 20 = some (23, [], .getfield 55, [1, 9, 2, 1, 85]) ∧ px_at 14 23 = some (26, [], .getfield 82, [6, 0, 2, 1, 54]) ∧ px_at 14 26 = some (27, [], .aload_n 0, []) ∧ px_at 14 27 = some (30, [], .getfield 18, [1, 2, 2, 1, 71]) ∧ px_at 14 30 = some (31, [], .iload_n 1, []) ∧ px_at 14 31 = some (32, [], .iaload, []) ∧ px_at 14 32 = some (33, [], .iload_n 2, []) ∧ px_at 14 33 = some (34, [], .iadd, []) ∧ px_at 14 34 = some (35, [], .iaload, []) ∧ px_at 14 35 = some (36, [], .iastore, []) ∧ px_at 14 36 = some (39, [], .iinc 2 1, []) ∧ px_at 14 39 = some (42, [], .goto (-37), [2]) ∧ px_at 14 42 = some (43, [], .iconst 1, []) ∧ px_at 14 43 = some (44, [], .ireturn, [4]) := ⟨rfl, rfl, rfl, rfl, rfl, rfl, rfl, rfl, rfl, rfl, rfl, rfl, rfl, rfl, rfl, rfl, rfl, rfl, rfl, rfl, rfl, rfl, rfl, rfl, rfl, rfl, rfl, rfl⟩
set_option maxRecDepth 100000 in
/-- X1_readPieces -/
theorem cd_15 : px_at 15 0 = some (1, [], .aload_n 0, []) ∧ px_at 15 1 = some (4, [], .getfield 24, [1, 4, 2, 1, 74]) ∧ px_at 15 4 = some (5, [], .iload_n 1, []) ∧ px_at 15 5 = some (6, [], .iaload, []) ∧ px_at 15 6 = some (7, [], .istore_n 2, []) ∧ px_at 15 7 = some (8, [], .aload_n 0, []) ∧ px_at 15 8 = some (11, [], .getfield 35, [1, 7, 2, 1, 81]) ∧ px_at 15 11 = some (12, [], .iload_n 2, []) ∧ px_at 15 12 = some (13, [], .baload, []) ∧ px_at 15 13 = some (16, [], .ifCond .ne 5, [18]) ∧ px_at 15 16 = some (17, [], .iconst 0, []) ∧ px_at 15 17 = some (18, [], .ireturn, [4]) ∧ px_at 15 18 = some (19, [], .aload_n 0, []) ∧ px_at 15 19 = some (22, [], .getfield 18, [1, 2, 2, 1, 71]) ∧ px_at 15 22 = some (23, [], .iload_n 1, []) ∧ px_at 15 23 = some (24, [], .iaload, []) ∧ px_at 15 24 = some (25, [], .istore_n 3, []) ∧ px_at 15 25 = some (26, [], .iload_n 3, []) ∧ px_at 15 26 = some (27, [], .aload_n 0, []) ∧ px_at 15 27 = some (30, [], .getfield 21, [1, 3, 2, 1, 72]) ∧ px_at 15 30 = some (31, [], .iload_n 1, []) ∧ px_at 15 31 = some (32, [], .iaload, []) ∧ px_at 15 32 = some (33, [], .iadd, []) ∧ px_at 15 33 = some (35, [], .istore 4, []) ∧ px_at 15 35 = some (36, [], .iconst 0, []) ∧ px_at 15 36 = some (38, [], .istore 5, []) ∧ px_at 15 38 = some (39, [1, 1, 1, 1, 1, 1, 0, 0, 0, 0, 0, 0, 0], .iload_n 3, []) ∧ px_at 15 39 = some (41, [], .iload 4, []) ∧ px_at 15 41 = some (44, [], .if_icmp .ge 221, [262]) ∧ px_at 15 44 = some (45, [], .aload_n 0, []) ∧ px_at 15 45 = some (48, [], .getfield 55, [1, 9, 2, 1, 85]) ∧ px_at 15 48 = some (51, [], .getfield 82, [6, 0, 2, 1, 54]) ∧ px_at 15 51 = some (52, [], .iload_n 3, []) ∧ px_at 15 52 = some (53, [], .iaload, []) ∧ px_at 15 53 = some (55, [], .istore 6, []) ∧ px_at 15 55 = some (57, [], .iload 6, []) ∧ px_at 15 57 = some (60, [], .sipush 128, []) ∧ px_at 15 60 = some (63, [], .if_icmp .ge 7, [67]) ∧ px_at 15 63 = some (64, [], .iconst 1, []) ∧ px_at 15 64 = some (67, [], .goto 4, [68]) ∧ px_at 15 67 = some (68, [], .iconst 0, []) ∧ px_at 15 68 = some (70, [], .istore 7, []) ∧ px_at 15 70 = some (72, [], .iload 7, []) ∧ px_at 15 72 = some (75, [], .ifCond .ne 13, [85]) ∧ px_at 15 75 = some (76, [], .iload_n 3, []) ∧ px_at 15 76 = some (77, [], .iconst 1, []) ∧ px_at 15 77 = some (78, [], .iadd, []) ∧ px_at 15 78 = some (80, [], .iload 4, []) ∧ px_at 15 80 = some (83, [], .if_icmp .lt 5, [85]) ∧ px_at 15 83 = some (84, [], .iconst 0, []) ∧ px_at 15 84 = some (85, [], .ireturn, [4]) ∧ px_at 15 85 = some (87, [], .iload 7, []) ∧ px_at 15 87 = some (90, [], .ifCond .eq 8, [95]) ∧ px_at 15 90 = some (92, [], .iload 6, []) ∧ px_at 15 92 = some (95, [], .goto 14, [106]) ∧ px_at 15 95 = some (96, [], .aload_n 0, []) ∧ px_at 15 96 = some (99, [], .getfield 55, [1, 9, 2, 1, 85]) ∧ px_at 15 99 = some (102, [], .getfield 82, [6, 0, 2, 1, 54]) ∧ px_at 15 102 = some (103, [], .iload_n 3, []) ∧ px_at 15 103 = some (104, [], .iconst 1, []) ∧ px_at 15 104 = some (105, [], .iadd, []) ∧ px_at 15 105 = some (106, [], .iaload, []) ∧ px_at 15 106 = some (108, [], .istore 8, []) ∧ px_at 15 108 = some (110, [], .iload 7, []) ∧ px_at 15 110 = some (113, [], .ifCond .eq 9, [119]) ∧ px_at 15 113 = some (114, [], .iload_n 3, []) ∧ px_at 15 114 = some (115, [], .iconst 1, []) ∧ px_at 15 115 = some (116, [], .iadd, []) ∧ px_at 15 116 = some (119, [], .goto 9, [125]) ∧ px_at 15 119 = some (121, [], .iload 6, []) ∧ px_at 15 121 = some (124, [], .sipush 128, []) ∧ px_at 15 124 = some (125, [], .isub, []) ∧ px_at 15 125 = some (127, [], .istore 9, []) ∧ px_at 15 127 = some (129, [], .iload 7, []) ∧ px_at 15 129 = some (132, [], .ifCond .eq 8, [137]) ∧ px_at 15 132 = some (134, [], .iload 4, []) ∧ px_at 15 134 = some (137, [], .goto 9, [143]) ∧ px_at 15 137 = some (138, [], .aload_n 0, []) ∧ px_at 15 138 = some (141, [], .getfield 9, [1, 0, 2, 1, 66]) ∧ px_at 15 141 = some (142, [], .iload_n 2, []) ∧ px_at 15 142 = some (143, [], .iaload, []) ∧ px_at 15 143 = some (145, [], .istore 10, []) ∧ px_at 15 145 = some (147, [], .iload 8, []) ∧ px_at 15 147 = some (148, [], .iconst 1, []) ∧ px_at 15 148 = some (151, [], .if_icmp .lt 27, [175]) ∧ px_at 15 151 = some (153, [], .iload 9, []) ∧ px_at 15 153 = some (155, [], .iload 8, []) ∧ px_at 15 155 = some (156, [], .iadd, []) ∧ px_at 15 156 = some (158, [], .iload 10, []) ∧ px_at 15 158 = some (161, [], .if_icmp .gt 17, [175]) ∧ px_at 15 161 = some (163, [], .iload 5, []) ∧ px_at 15 163 = some (165, [], .iload 8, []) ∧ px_at 15 165 = some (166, [], .iadd, []) ∧ px_at 15 166 = some (167, [], .aload_n 0, []) ∧ px_at 15 167 = some (170, [], .getfield 9, [1, 0, 2, 1, 66]) ∧ px_at 15 170 = some (171, [], .iload_n 1, []) ∧ px_at 15 171 = some (172, [], .iaload, []) ∧ px_at 15 172 = some (175, [], .if_icmp .le 5, [177]) ∧ px_at 15 175 = some (176, [], .iconst 0, []) ∧ px_at 15 176 = some (177, [], .ireturn, [4]) ∧ px_at 15 177 = some (179, [], .iload 7, []) ∧ px_at 15 179 = some (182, [], .ifCond .eq 13, [192]) ∧ px_at 15 182 = some (183, [], .aload_n 0, []) ∧ px_at 15 183 = some (186, [], .getfield 55, [1, 9, 2, 1, 85]) ∧ px_at 15 186 = some (189, [], .getfield 82, [6, 0, 2, 1, 54]) ∧ px_at 15 189 = some (192, [], .goto 9, [198]) ∧ px_at 15 192 = some (193, [], .aload_n 0, []) ∧ px_at 15 193 = some (196, [], .getfield 32, [1, 6, 2, 1, 78]) ∧ px_at 15 196 = some (197, [], .iload_n 2, []) ∧ px_at 15 197 = some (198, [], .aaload, []) ∧ px_at 15 198 = some (200, [], .astore 11, []) ∧ px_at 15 200 = some (201, [], .iconst 0, []) ∧ px_at 15 201 = some (203, [], .istore 12, []) ∧ px_at 15 203 = some (205, [1, 1, 1, 1, 1, 1, 0, 1, 1, 1, 0, 1, 1], .iload 12, []) ∧ px_at 15 205 = some (207, [], .iload 8, []) ∧ px_at 15 207 = some (210, [], .if_icmp .ge 29, [236]) ∧ px_at 15 210 = some (211, [], .aload_n 0, []) ∧ px_at 15 211 = some (214, [], .getfield 32, [1, 6, 2, 1, 78]) ∧ px_at 15 214 = some (215, [], .iload_n 1, []) ∧ px_at 15 215 = some (216, [], .aaload, []) ∧ px_at 15 216 = some (218, [], .iload 5, []) ∧ px_at 15 218 = some (220, [], .iload 12, []) ∧ px_at 15 220 = some (221, [], .iadd, []) ∧ px_at 15 221 = some (223, [], .aload 11, []) ∧ px_at 15 223 = some (225, [], .iload 9, []) ∧ px_at 15 225 = some (227, [], .iload 12, []) ∧ px_at 15 227 = some (228, [], .iadd, []) ∧ px_at 15 228 = some (229, [], .iaload, []) ∧ px_at 15 229 = some (230, [], .iastore, []) ∧ px_at 15 230 = some (233, [], .iinc 12 1, []) ∧ px_at 15 233 = some (236, [], .goto (-30), [203]) ∧ px_at 15 236 = some (238, [], .iload 5, []) ∧ px_at 15 238 = some (240, [], .iload 8, []) ∧ px_at 15 240 = some (241, [], .iadd, []) ∧ px_at 15 241 = some (243, [], .istore 5, []) ∧ px_at 15 243 = some (244, [], .iload_n 3, []) ∧ px_at 15 244 = some (246, [], .iload 7, []) ∧ px_at 15 246 = some (249, [], .ifCond .eq 10, [256]) ∧ px_at 15 249 = some (250, [], .iconst 1, []) ∧ px_at 15 250 = some (252, [], .iload 8, []) ∧ px_at 15 252 = some (253, [], .iadd, []) ∧ px_at 15 253 = some (256, [], .goto 4, [257]) ∧ px_at 15 256 = some (257, [], .iconst 2, []) ∧ px_at 15 257 = some (258, [], .iadd, []) ∧ px_at 15 258 = some (259, [], .istore_n 3, []) ∧ px_at 15 259 = some (262, [], .goto (-221), [38]) ∧ px_at 15 262 = some (264, [], .iload 5, []) ∧ px_at 15 264 = some (265, [], .aload_n 0, []) ∧ px_at 15 265 = some (268, [], .getfield 9, [1, 0, 2, 1, 66]) ∧ px_at 15 268 = some (269, [], .iload_n 1, []) ∧ px_at 15 269 = some (270, [], .iaload, []) ∧ px_at 15 270 = some (273, [], .if_icmp .ne 7, [277]) ∧ px_at 15 273 = some (274, [], .iconst 1, []) ∧ px_at 15 274 = some (277, [], .goto 4, [278]) ∧ px_at 15 277 = some (278, [], .iconst 0, []) ∧ px_at 15 278 = some (279, [], .ireturn, [4]) := ⟨rfl, rfl, rfl, rfl, rfl, rfl, rfl, rfl, rfl, rfl, rfl, rfl, rfl, rfl, rfl, rfl, rfl, rfl, rfl, rfl, rfl, rfl, rfl, rfl, rfl, rfl, rfl, rfl, rfl, rfl, rfl, rfl, rfl, rfl, rfl, rfl, rfl, rfl, rfl, rfl, rfl, rfl, rfl, rfl, rfl, rfl, rfl, rfl, rfl, rfl, rfl, rfl, rfl, rfl, rfl, rfl, rfl, rfl, rfl, rfl, rfl, rfl, rfl, rfl, rfl, rfl, rfl, rfl, rfl, rfl, rfl, rfl, rfl, rfl, rfl, rfl, rfl, rfl, rfl, rfl, rfl, rfl, rfl, rfl, rfl, rfl, rfl, rfl, rfl, rfl, rfl, rfl, rfl, rfl, rfl, rfl, rfl, rfl, rfl, rfl, rfl, rfl, rfl, rfl, rfl, rfl, rfl, rfl, rfl, rfl, rfl, rfl, rfl, rfl, rfl, rfl, rfl, rfl, rfl, rfl, rfl, rfl, rfl, rfl, rfl, rfl, rfl, rfl, rfl, rfl, rfl, rfl, rfl, rfl, rfl, rfl, rfl, rfl, rfl, rfl, rfl, rfl, rfl, rfl, rfl, rfl, rfl, rfl, rfl, rfl, rfl, rfl, rfl, rfl, rfl, rfl⟩
/-- bytes by pieces: row, base's bytes, how many, the end, how many are due; place, what came so far -/
def dp (rw fb : Int → Int) (bl e L : Int) : Nat → Int → List Int → Option (List Int)
  | 0, _, _ => none
  | f + 1, p, a =>
    if e ≤ p then (if (a.length : Int) = L then some a else none)
    else if rw p < 128 then
      (if rw p < 1 ∨ e < p + 1 + rw p ∨ L < (a.length : Int) + rw p then none
       else dp rw fb bl e L f (p + 1 + rw p) (a ++ lst (fun k => rw (p + 1 + k)) (rw p)))
    else if e ≤ p + 1 then none
    else if rw (p + 1) < 1 ∨ bl < rw p - 128 + rw (p + 1) ∨ L < (a.length : Int) + rw (p + 1) then none
    else dp rw fb bl e L f (p + 2) (a ++ lst (fun k => fb (rw p - 128 + k)) (rw (p + 1)))
theorem dp_s (rw fb : Int → Int) (bl e L : Int) (f : Nat) (p : Int) (a : List Int) : dp rw fb bl e L (f + 1) p a =
    if e ≤ p then (if (a.length : Int) = L then some a else none)
    else if rw p < 128 then
      (if rw p < 1 ∨ e < p + 1 + rw p ∨ L < (a.length : Int) + rw p then none
       else dp rw fb bl e L f (p + 1 + rw p) (a ++ lst (fun k => rw (p + 1 + k)) (rw p)))
    else if e ≤ p + 1 then none
    else if rw (p + 1) < 1 ∨ bl < rw p - 128 + rw (p + 1) ∨ L < (a.length : Int) + rw (p + 1) then none
    else dp rw fb bl e L f (p + 2) (a ++ lst (fun k => fb (rw p - 128 + k)) (rw (p + 1))) := rfl
theorem lst_up (M : px_mem) (v : Int) {n : Int} (y : Int) (h : 0 ≤ n) : lst (px_up M v n y v) (n + 1) = lst (M v) n ++ [y] := by
  rw [lst_snoc h, px_up_at, if_pos ⟨rfl, rfl⟩]
  congr 1
  exact lst_congr (fun k h0 h1 => by rw [px_up_at, if_neg (by omega)])
section PS
variable {M : px_mem} {Q : Option pv → px_mem → Prop}
set_option maxHeartbeats 600000 in
set_option maxRecDepth 100000 in
theorem lp_readPlain {M0 : px_mem} {c : Int} (hc : 0 ≤ c ∧ c < 40) (h0 : 0 ≤ M0 57 c ∧ M0 57 c ≤ 40) (h1 : 0 ≤ M0 59 c ∧ M0 59 c + M0 57 c ≤ 400) (h : ∀ M', lst (M' (64 + c)) (M0 57 c) = lst (fun k => M0 53 (M0 59 c + k)) (M0 57 c) → (∀ b, b ≠ 64 + c → M' b = M0 b) → Q (some (0, 1)) M') (k : Int) (hk_k : k ≤ M0 57 c) : ∀ M, 0 ≤ k → lst (M (64 + c)) k = lst (fun k => M0 53 (M0 59 c + k)) k → (∀ b, b ≠ 64 + c → M b = M0 b) → px_WP 14 0 0 (px_Q0 LAY Q) 2 [(2, 56), (0, c), (0, k)] [] LAY M 0 0 := by
  refine up_ind (P := fun k => ∀ M, 0 ≤ k → lst (M (64 + c)) k = lst (fun k => M0 53 (M0 59 c + k)) k → (∀ b, b ≠ 64 + c → M b = M0 b) → px_WP 14 0 0 (px_Q0 LAY Q) 2 [(2, 56), (0, c), (0, k)] [] LAY M 0 0) (M0 57 c) (fun k hk_k ih => ?_) k hk_k
  intros
  have hr := row_lay (v := 64 + c) (by omega)
  refine px_go_ok (inl := []) 60 ?_
  simp only [px_go, px_Q0_at, px_sx_0, px_sx_s, px_cl, px_step, ↓px_ll, px_lg, f4_, ↓px_r1, ↓px_r2, ↓px_r4, ↓px_r5, ↓px_p1, ↓px_p2, ↓px_p3, ↓px_pop, px_k_0, px_k_s, px_k3_0, px_stk_, px_cats, px_ent, px_st1, px_st2, px_mask, ↓px_tsw, ↓px_lsw, ct_, mls_0, mls_1, mls_2, mls_3, mls_4, mls_5, kd_0, kd_1, kd_2, kd_3, ln_0, ln_1, ln_2, ln_3, gf_0, gf_1, gf_2, gf_3, gf_4, gf_7, gf_21, gf_63, dy_0, dy_1, dy_2, dy_3, dy_7, dy_21, px_brT, px_brF, true_and, and_true, and_false, false_and, and_self, true_implies, false_implies, or_true, true_or, or_false, false_or, eq_self, ne_eq, not_false_eq_true, not_true_eq_false, if_true, if_false, List.mem_cons, List.not_mem_nil, List.length_cons, List.length_nil, Nat.reduceEqDiff, Nat.reduceAdd, Nat.reduceSub, Nat.reduceLeDiff, Nat.reduceLT, Int.reduceEq, Int.reduceLT, Int.reduceLE, Int.reduceNeg, Int.reduceAdd, Int.reduceSub, Int.reduceToNat, ↓reduceIte, one_ne_zero_, zero_ne_one_, px_in32L, cd_14]
  repeat' (first | (with_reducible apply And.intro) | (with_reducible refine px_br_intro (fun _ => ?_) (fun _ => ?_)))
  all_goals (try (unfold px_in32))
  all_goals grind -mbtc  (splits := 20) [lst_up, lst_snoc, row_ne]
set_option maxHeartbeats 600000 in
set_option maxRecDepth 100000 in
theorem sp_readPlain {c : Int} (hc : 0 ≤ c ∧ c < 40) (h0 : 0 ≤ M 57 c ∧ M 57 c ≤ 40) (h1 : 0 ≤ M 59 c ∧ M 59 c + M 57 c ≤ 400) (h : ∀ M', lst (M' (64 + c)) (M 57 c) = lst (fun k => M 53 (M 59 c + k)) (M 57 c) → (∀ b, b ≠ 64 + c → M' b = M b) → Q (some (0, 1)) M') : px_Ok 14 [(2, 56), (0, c)] LAY M Q := by
  refine px_ok_go (inl := []) (ls0 := [(2, 56), (0, c), (9, 0)]) 60 (by decide) (Nat.le_of_ble_eq_true rfl) rfl ?_
  simp only [px_go, px_Q0_at, px_sx_0, px_sx_s, px_cl, px_step, ↓px_ll, px_lg, f4_, ↓px_r1, ↓px_r2, ↓px_r4, ↓px_r5, ↓px_p1, ↓px_p2, ↓px_p3, ↓px_pop, px_k_0, px_k_s, px_k3_0, px_stk_, px_cats, px_ent, px_st1, px_st2, px_mask, ↓px_tsw, ↓px_lsw, ct_, mls_0, mls_1, mls_2, mls_3, mls_4, mls_5, kd_0, kd_1, kd_2, kd_3, ln_0, ln_1, ln_2, ln_3, gf_0, gf_1, gf_2, gf_3, gf_4, gf_7, gf_21, gf_63, dy_0, dy_1, dy_2, dy_3, dy_7, dy_21, px_brT, px_brF, true_and, and_true, and_false, false_and, and_self, true_implies, false_implies, or_true, true_or, or_false, false_or, eq_self, ne_eq, not_false_eq_true, not_true_eq_false, if_true, if_false, List.mem_cons, List.not_mem_nil, List.length_cons, List.length_nil, Nat.reduceEqDiff, Nat.reduceAdd, Nat.reduceSub, Nat.reduceLeDiff, Nat.reduceLT, Int.reduceEq, Int.reduceLT, Int.reduceLE, Int.reduceNeg, Int.reduceAdd, Int.reduceSub, Int.reduceToNat, ↓reduceIte, one_ne_zero_, zero_ne_one_, px_in32L, cd_14]
  repeat' (first | (with_reducible apply And.intro) | (with_reducible refine px_br_intro (fun _ => ?_) (fun _ => ?_)))
  all_goals (try (first | (unfold px_in32; omega) | omega))
  exact lp_readPlain hc h0 h1 h 0 h0.1 M (Int.le_refl 0) rfl (fun _ _ => rfl)
set_option maxHeartbeats 600000 in
set_option maxRecDepth 100000 in
theorem lp_rp2 {M0 : px_mem} {c b p e got w n g s : Int} {A : List Int} (hc : 0 ≤ c ∧ c < 40) (hs : px_kd LAY s = 0) (hs2 : s ≠ 64 + c) (hg : 0 ≤ got) (hgn : got + n ≤ 40) (hf : 0 ≤ g) (hfn : g + n ≤ px_ln LAY s) (hl : px_ln LAY s ≤ 400) (hp : 0 ≤ p ∧ p < 400) (hn : 1 ≤ n) (hx : ∀ M', lst (M' (64 + c)) (got + n) = A ++ lst (fun j => M0 s (g + j)) n → (∀ x, x ≠ 64 + c → M' x = M0 x) → px_WP 15 0 0 (px_Q0 LAY Q) 38 [(2, 56), (0, c), (0, b), (0, if w = 0 then p + 2 else p + (1 + n)), (0, e), (0, got + n), (9, 0), (9, 0), (9, 0), (9, 0), (9, 0), (9, 0), (9, 0)] [] LAY M' 0 0) (k : Int) (hk_k : k ≤ n) : ∀ M, 0 ≤ k → lst (M (64 + c)) (got + k) = A ++ lst (fun j => M0 s (g + j)) k → (∀ x, x ≠ 64 + c → M x = M0 x) → px_WP 15 0 0 (px_Q0 LAY Q) 203 [(2, 56), (0, c), (0, b), (0, p), (0, e), (0, got), (9, 0), (0, w), (0, n), (0, g), (9, 0), (2, s), (0, k)] [] LAY M 0 0 := by
  refine up_ind (P := fun k => ∀ M, 0 ≤ k → lst (M (64 + c)) (got + k) = A ++ lst (fun j => M0 s (g + j)) k → (∀ x, x ≠ 64 + c → M x = M0 x) → px_WP 15 0 0 (px_Q0 LAY Q) 203 [(2, 56), (0, c), (0, b), (0, p), (0, e), (0, got), (9, 0), (0, w), (0, n), (0, g), (9, 0), (2, s), (0, k)] [] LAY M 0 0) (n) (fun k hk_k ih => ?_) k hk_k
  intros
  have hr := row_lay (v := 64 + c) (by omega)
  have hs3 := @lst_snoc (fun j => M0 s (g + j)) k
  refine px_go_ok (inl := []) 60 ?_
  simp only [px_go, px_Q0_at, px_sx_0, px_sx_s, px_cl, px_step, ↓px_ll, px_lg, f4_, ↓px_r1, ↓px_r2, ↓px_r4, ↓px_r5, ↓px_p1, ↓px_p2, ↓px_p3, ↓px_pop, px_k_0, px_k_s, px_k3_0, px_stk_, px_cats, px_ent, px_st1, px_st2, px_mask, ↓px_tsw, ↓px_lsw, ct_, mls_0, mls_1, mls_2, mls_3, mls_4, mls_5, kd_0, kd_1, kd_2, kd_3, ln_0, ln_1, ln_2, ln_3, gf_0, gf_1, gf_2, gf_3, gf_4, gf_7, gf_21, gf_63, dy_0, dy_1, dy_2, dy_3, dy_7, dy_21, px_brT, px_brF, true_and, and_true, and_false, false_and, and_self, true_implies, false_implies, or_true, true_or, or_false, false_or, eq_self, ne_eq, not_false_eq_true, not_true_eq_false, if_true, if_false, List.mem_cons, List.not_mem_nil, List.length_cons, List.length_nil, Nat.reduceEqDiff, Nat.reduceAdd, Nat.reduceSub, Nat.reduceLeDiff, Nat.reduceLT, Int.reduceEq, Int.reduceLT, Int.reduceLE, Int.reduceNeg, Int.reduceAdd, Int.reduceSub, Int.reduceToNat, ↓reduceIte, one_ne_zero_, zero_ne_one_, px_in32L, cd_15, hs]
  repeat' (first | (with_reducible apply And.intro) | (with_reducible refine px_br_intro (fun _ => ?_) (fun _ => ?_)))
  all_goals (try (unfold px_in32))
  all_goals grind -mbtc  (splits := 20) [lst_up, row_ne]
set_option maxHeartbeats 4000000 in
set_option maxRecDepth 100000 in
theorem lp_rp {M0 : px_mem} {c b e : Int} {R : Option (List Int)} (hc : 0 ≤ c ∧ c < 40) (hb : 0 ≤ b ∧ b < 40) (hbc : b ≠ c) (he : e ≤ 400) (hL : 0 ≤ M0 57 c ∧ M0 57 c ≤ 40) (hbl : 0 ≤ M0 57 b ∧ M0 57 b ≤ 40) (hv : ∀ k, 0 ≤ k → k < 400 → 0 ≤ M0 53 k ∧ M0 53 k < 256) (h1 : ∀ M' l, R = some l → lst (M' (64 + c)) (M0 57 c) = l → (∀ x, x ≠ 64 + c → M' x = M0 x) → Q (some (0, 1)) M') (h0 : ∀ M', R = none → (∀ x, x ≠ 64 + c → M' x = M0 x) → Q (some (0, 0)) M') : ∀ (f : Nat) (p got : Int) (M : px_mem), 0 ≤ p → e ≤ p + f → 0 ≤ got → got ≤ 40 → dp (M0 53) (M0 (64 + b)) (M0 57 b) e (M0 57 c) (f + 1) p (lst (M (64 + c)) got) = R → (∀ x, x ≠ 64 + c → M x = M0 x) → px_WP 15 0 0 (px_Q0 LAY Q) 38 [(2, 56), (0, c), (0, b), (0, p), (0, e), (0, got), (9, 0), (9, 0), (9, 0), (9, 0), (9, 0), (9, 0), (9, 0)] [] LAY M 0 0 := by
  have hr := row_lay (v := 64 + c) (by omega)
  have hr2 := row_lay (v := 64 + b) (by omega)
  intro f
  induction f with
  | zero =>
    intro p got M hp hpe hg hg2 hR hfr
    rw [dp_s, if_pos (by omega), lst_len hg] at hR
    have e57 := hfr 57 (by omega)
    refine px_go_ok (inl := []) 120 ?_
    simp only [px_go, px_Q0_at, px_sx_0, px_sx_s, px_cl, px_step, ↓px_ll, px_lg, f4_, ↓px_r1, ↓px_r2, ↓px_r4, ↓px_r5, ↓px_p1, ↓px_p2, ↓px_p3, ↓px_pop, px_k_0, px_k_s, px_k3_0, px_stk_, px_cats, px_ent, px_st1, px_st2, px_mask, ↓px_tsw, ↓px_lsw, ct_, mls_0, mls_1, mls_2, mls_3, mls_4, mls_5, kd_0, kd_1, kd_2, kd_3, ln_0, ln_1, ln_2, ln_3, gf_0, gf_1, gf_2, gf_3, gf_4, gf_7, gf_21, gf_63, dy_0, dy_1, dy_2, dy_3, dy_7, dy_21, px_brT, px_brF, true_and, and_true, and_false, false_and, and_self, true_implies, false_implies, or_true, true_or, or_false, false_or, eq_self, ne_eq, not_false_eq_true, not_true_eq_false, if_true, if_false, List.mem_cons, List.not_mem_nil, List.length_cons, List.length_nil, Nat.reduceEqDiff, Nat.reduceAdd, Nat.reduceSub, Nat.reduceLeDiff, Nat.reduceLT, Int.reduceEq, Int.reduceLT, Int.reduceLE, Int.reduceNeg, Int.reduceAdd, Int.reduceSub, Int.reduceToNat, ↓reduceIte, one_ne_zero_, zero_ne_one_, px_in32L, cd_15]
    repeat' (first | (with_reducible apply And.intro) | (with_reducible refine px_br_intro (fun _ => ?_) (fun _ => ?_)))
    all_goals (try (first | (unfold px_in32; omega) | omega))
    · refine h1 M _ (by rw [← hR, if_pos (by rw [← e57]; omega)]) (by rw [← e57]; congr 1; omega) hfr
    · refine h0 M (by rw [← hR, if_neg (by rw [← e57]; omega)]) hfr
  | succ f ih =>
    intro p got M hp hpe hg hg2 hR hfr
    rw [dp_s] at hR
    rw [lst_len hg] at hR
    have e57 := hfr 57 (by omega)
    have e53 := hfr 53 (by omega)
    have e57b : M 57 = M0 57 := e57
    have hv1 := hv p
    have hv2 := hv (p + 1)
    refine px_go_ok (inl := []) 120 ?_
    simp only [px_go, px_Q0_at, px_sx_0, px_sx_s, px_cl, px_step, ↓px_ll, px_lg, f4_, ↓px_r1, ↓px_r2, ↓px_r4, ↓px_r5, ↓px_p1, ↓px_p2, ↓px_p3, ↓px_pop, px_k_0, px_k_s, px_k3_0, px_stk_, px_cats, px_ent, px_st1, px_st2, px_mask, ↓px_tsw, ↓px_lsw, ct_, mls_0, mls_1, mls_2, mls_3, mls_4, mls_5, kd_0, kd_1, kd_2, kd_3, ln_0, ln_1, ln_2, ln_3, gf_0, gf_1, gf_2, gf_3, gf_4, gf_7, gf_21, gf_63, dy_0, dy_1, dy_2, dy_3, dy_7, dy_21, px_brT, px_brF, true_and, and_true, and_false, false_and, and_self, true_implies, false_implies, or_true, true_or, or_false, false_or, eq_self, ne_eq, not_false_eq_true, not_true_eq_false, if_true, if_false, List.mem_cons, List.not_mem_nil, List.length_cons, List.length_nil, Nat.reduceEqDiff, Nat.reduceAdd, Nat.reduceSub, Nat.reduceLeDiff, Nat.reduceLT, Int.reduceEq, Int.reduceLT, Int.reduceLE, Int.reduceNeg, Int.reduceAdd, Int.reduceSub, Int.reduceToNat, ↓reduceIte, one_ne_zero_, zero_ne_one_, px_in32L, cd_15, e53, e57]
    repeat' (first | (with_reducible apply And.intro) | (with_reducible refine px_br_intro (fun _ => ?_) (fun _ => ?_)))
    all_goals (try (first | (unfold px_in32; omega) | omega))
    case' succ.refine_2.right.refine_1.right.refine_1.right.right.right.right.refine_2.right.refine_2.right.right.refine_1.right =>
      rename_i c1 c2 c3 c4 c5 c6
      rw [if_neg c1, if_neg (by omega), if_neg (by omega), if_neg (by omega)] at hR
      refine lp_rp2 (M0 := M0) (A := lst (M (64 + c)) got) hc hr2.1 (by omega) hg (by omega) (by omega) (by omega) (by omega) (by omega) (by omega) (fun M' e1 e2 => ?_) 0 (by omega) M (by decide) (by rw [Int.add_zero]; exact (List.append_nil _).symm) hfr
      rw [if_pos rfl]
      exact ih _ _ M' (by omega) (by omega) (by omega) (by omega) (by rw [e1]; exact hR) e2
    case' succ.refine_2.right.refine_2.right.refine_2.right.refine_2.right.right.refine_1 =>
      rename_i c1 c2 c3 c4 c5
      rw [if_neg c1, if_pos (by omega), if_neg (by omega)] at hR
      refine lp_rp2 (M0 := M0) (A := lst (M (64 + c)) got) hc rfl (by omega) hg (by omega) (by omega) (by rw [show px_ln LAY 53 = 400 from rfl]; omega) (by rw [show px_ln LAY 53 = 400 from rfl]; omega) (by omega) (by omega) (fun M' e1 e2 => ?_) 0 (by omega) M (by decide) (by rw [Int.add_zero]; exact (List.append_nil _).symm) hfr
      rw [if_neg (by decide)]
      exact ih _ _ M' (by omega) (by omega) (by omega) (by omega) (by rw [e1, show p + (1 + M0 53 p) = p + 1 + M0 53 p by omega]; exact hR) e2
    all_goals grind -mbtc [lst_len]
set_option maxHeartbeats 600000 in
set_option maxRecDepth 100000 in
theorem sp_readPieces {c : Int} (hc : 0 ≤ c ∧ c < 40) (hb : 0 ≤ M 61 c ∧ M 61 c < 40 ∧ M 61 c ≠ c) (hp : 0 ≤ M 59 c ∧ 0 ≤ M 60 c ∧ M 59 c + M 60 c ≤ 400) (hL : 0 ≤ M 57 c ∧ M 57 c ≤ 40) (hbl : 0 ≤ M 57 (M 61 c) ∧ M 57 (M 61 c) ≤ 40) (hv : ∀ k, 0 ≤ k → k < 400 → 0 ≤ M 53 k ∧ M 53 k < 256) (h1 : ∀ M' l, M 104 (M 61 c) ≠ 0 → dp (M 53) (M (64 + M 61 c)) (M 57 (M 61 c)) (M 59 c + M 60 c) (M 57 c) 401 (M 59 c) [] = some l → lst (M' (64 + c)) (M 57 c) = l → (∀ x, x ≠ 64 + c → M' x = M x) → Q (some (0, 1)) M') (h0 : ∀ M', (M 104 (M 61 c) = 0 ∨ dp (M 53) (M (64 + M 61 c)) (M 57 (M 61 c)) (M 59 c + M 60 c) (M 57 c) 401 (M 59 c) [] = none) → (∀ x, x ≠ 64 + c → M' x = M x) → Q (some (0, 0)) M') : px_Ok 15 [(2, 56), (0, c)] LAY M Q := by
  refine px_ok_go (inl := []) (ls0 := [(2, 56), (0, c), (9, 0), (9, 0), (9, 0), (9, 0), (9, 0), (9, 0), (9, 0), (9, 0), (9, 0), (9, 0), (9, 0)]) 60 (by decide) (Nat.le_of_ble_eq_true rfl) rfl ?_
  simp only [px_go, px_Q0_at, px_sx_0, px_sx_s, px_cl, px_step, ↓px_ll, px_lg, f4_, ↓px_r1, ↓px_r2, ↓px_r4, ↓px_r5, ↓px_p1, ↓px_p2, ↓px_p3, ↓px_pop, px_k_0, px_k_s, px_k3_0, px_stk_, px_cats, px_ent, px_st1, px_st2, px_mask, ↓px_tsw, ↓px_lsw, ct_, mls_0, mls_1, mls_2, mls_3, mls_4, mls_5, kd_0, kd_1, kd_2, kd_3, ln_0, ln_1, ln_2, ln_3, gf_0, gf_1, gf_2, gf_3, gf_4, gf_7, gf_21, gf_63, dy_0, dy_1, dy_2, dy_3, dy_7, dy_21, px_brT, px_brF, true_and, and_true, and_false, false_and, and_self, true_implies, false_implies, or_true, true_or, or_false, false_or, eq_self, ne_eq, not_false_eq_true, not_true_eq_false, if_true, if_false, List.mem_cons, List.not_mem_nil, List.length_cons, List.length_nil, Nat.reduceEqDiff, Nat.reduceAdd, Nat.reduceSub, Nat.reduceLeDiff, Nat.reduceLT, Int.reduceEq, Int.reduceLT, Int.reduceLE, Int.reduceNeg, Int.reduceAdd, Int.reduceSub, Int.reduceToNat, ↓reduceIte, one_ne_zero_, zero_ne_one_, px_in32L, cd_15]
  repeat' (first | (with_reducible apply And.intro) | (with_reducible refine px_br_intro (fun _ => ?_) (fun _ => ?_)))
  all_goals (try (first | (unfold px_in32; omega) | omega))
  · rename_i c1; exact h0 M (Or.inl c1) (fun _ _ => rfl)
  · rename_i c1
    exact lp_rp hc ⟨hb.1, hb.2.1⟩ hb.2.2 hp.2.2 hL hbl hv (fun M' l e1 e2 e3 => h1 M' l c1 e1 e2 e3) (fun M' e1 e3 => h0 M' (Or.inr e1) e3) 400 (M 59 c) 0 M hp.1 (by omega) (by omega) (by omega) rfl (fun _ _ => rfl)
end PS
theorem dp_shift {rw rw' fb fb' : Int → Int} {bl e L s p0 : Int} (h : ∀ k, p0 ≤ k → k < e → rw' (k + s) = rw k) (h2 : ∀ k, 0 ≤ k → k < bl → fb' k = fb k) : ∀ (f : Nat) (p : Int) (a : List Int), p0 ≤ p → dp rw' fb' bl (e + s) L f (p + s) a = dp rw fb bl e L f p a := by
  intro f
  induction f with
  | zero => intro p a _; rfl
  | succ f ih =>
    intro p a hp
    rw [dp_s, dp_s]
    by_cases c1 : e ≤ p
    · rw [if_pos (show e + s ≤ p + s by omega), if_pos c1]
    · rw [if_neg (show ¬ e + s ≤ p + s by omega), if_neg c1, h p hp (by omega)]
      by_cases c2 : rw p < 128
      · rw [if_pos c2, if_pos c2]
        by_cases c3 : rw p < 1 ∨ e < p + 1 + rw p ∨ L < (a.length : Int) + rw p
        · rw [if_pos (by omega), if_pos c3]
        · rw [if_neg (by omega), if_neg c3, show p + s + 1 + rw p = p + 1 + rw p + s by omega, ih _ _ (by omega)]
          have e1 : lst (fun k => rw' (p + 1 + s + k)) (rw p) = lst (fun k => rw (p + 1 + k)) (rw p) := lst_congr (fun k k0 k1 => by
            show rw' (p + 1 + s + k) = rw (p + 1 + k)
            rw [show p + 1 + s + k = p + 1 + k + s by omega]; exact h _ (by omega) (by omega))
          rw [show p + s + 1 = p + 1 + s by omega, e1]
      · rw [if_neg c2, if_neg c2]
        by_cases c4 : e ≤ p + 1
        · rw [if_pos (by omega), if_pos c4]
        · rw [if_neg (by omega), if_neg c4, show p + s + 1 = p + 1 + s by omega, h (p + 1) (by omega) (by omega)]
          by_cases c3 : rw (p + 1) < 1 ∨ bl < rw p - 128 + rw (p + 1) ∨ L < (a.length : Int) + rw (p + 1)
          · rw [if_pos c3, if_pos c3]
          · rw [if_neg c3, if_neg c3, show p + s + 2 = p + 2 + s by omega, ih _ _ (by omega)]
            rw [lst_congr (fun k k0 k1 => h2 _ (by omega) (by omega))]
theorem dp_congr {rw rw' fb fb' : Int → Int} {bl e L : Int} {f : Nat} {p : Int} {a : List Int} (h : ∀ k, p ≤ k → k < e → rw' k = rw k) (h2 : ∀ k, 0 ≤ k → k < bl → fb' k = fb k) : dp rw' fb' bl e L f p a = dp rw fb bl e L f p a := by
  have h' : ∀ k, p ≤ k → k < e → rw' (k + 0) = rw k := fun k a b => by rw [Int.add_zero]; exact h k a b
  have := dp_shift (s := 0) (p0 := p) h' h2 (L := L) f p a (Int.le_refl p)
  rw [Int.add_zero, Int.add_zero] at this
  exact this
/-- the bytes of what is read have the length that is due -/
theorem dp_len {rw fb : Int → Int} {bl e L : Int} : ∀ (f : Nat) (p : Int) (a l : List Int), dp rw fb bl e L f p a = some l → (l.length : Int) = L := by
  intro f
  induction f with
  | zero => intro p a l h; exact absurd h (by simp [dp])
  | succ f ih =>
    intro p a l h
    rw [dp_s] at h
    grind
