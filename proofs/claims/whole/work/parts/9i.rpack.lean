set_option maxRecDepth 100000 in
/-- X12_pack -/
theorem cd_250 : px_at 250 0 = some (1, [], .iconst 0, []) ∧ px_at 250 1 = some (2, [], .istore_n 1, []) ∧ px_at 250 2 = some (3, [], .iconst 0, []) ∧ px_at 250 3 = some (4, [], .istore_n 2, []) ∧ px_at 250 4 = some (5, [], .iconst 0, []) ∧ px_at 250 5 = some (6, [], .istore_n 3, []) ∧ px_at 250 6 = some (7, [1, 1, 1, 1, 0, 0, 0], .iload_n 3, []) ∧ px_at 250 7 = some (10, [], .sipush 400, []) ∧ px_at 250 10 = some (13, [], .if_icmp .ge 16, [26]) ∧ px_at 250 13 = some (14, [], .aload_n 0, []) ∧ px_at 250 14 = some (17, [], .getfield 69, [11, 28, 2, 1, 153]) ∧ px_at 250 17 = some (18, [], .iload_n 3, []) ∧ px_at 250 18 = some (19, [], .iconst 0, []) ∧ px_at 250 19 = some (20, [], .iastore, []) ∧ px_at 250 20 = some (23, [], .iinc 3 1, []) ∧ px_at 250 23 = some (26, [], .goto (-17), [6]) ∧ px_at 250 26 = some (27, [], .iconst 0, []) ∧ px_at 250 27 = some (28, [], .istore_n 3, []) ∧ px_at 250 28 = some (29, [1, 1, 1, 1, 0, 0, 0], .iload_n 3, []) ∧ px_at 250 29 = some (32, [], .sipush 400, []) ∧ px_at 250 32 = some (35, [], .if_icmp .ge 106, [138]) ∧ px_at 250 35 = some (36, [], .aload_n 0, []) ∧ px_at 250 36 = some (37, [], .iload_n 3, []) ∧ px_at 250 37 = some (40, [], .invokevirtual 325, [251, 1, 11, 295]) ∧ px_at 250 40 = some (42, [], .istore 4, []) ∧ px_at 250 42 = some (44, [], .iload 4, []) ∧ px_at 250 44 = some (45, [], .iconst (-1), []) ∧ px_at 250 45 = some (48, [], .if_icmp .eq 87, [132]) ∧ px_at 250 48 = some (49, [], .aload_n 0, []) ∧ px_at 250 49 = some (51, [], .iload 4, []) ∧ px_at 250 51 = some (52, [], .iconst 3, []) ∧ px_at 250 52 = some (55, [], .invokevirtual 109, [187, 2, 11, 259]) ∧ px_at 250 55 = some (56, [], .iload_n 3, []) ∧ px_at 250 56 = some (59, [], .if_icmp .eq 6, [62]) ∧ px_at 250 59 = some (62, [], .goto 73, [132]) ∧ px_at 250 62 = some (63, [], .aload_n 0, []) ∧ px_at 250 63 = some (65, [], .iload 4, []) ∧ px_at 250 65 = some (66, [], .iconst 4, []) ∧ px_at 250 66 = some (69, [], .invokevirtual 109, [187, 2, 11, 259]) ∧ px_at 250 69 = some (71, [], .istore 5, []) ∧ px_at 250 71 = some (72, [], .iconst 0, []) ∧ px_at 250 72 = some (74, [], .istore 6, []) ∧ px_at 250 74 = some (76, [1, 1, 1, 1, 1, 1, 1], .iload 6, []) ∧ px_at 250 76 = some (78, [], .iload 5, []) ∧ px_at 250 78 = some (81, [], .if_icmp .ge 31, [109]) ∧ px_at 250 81 = some (82, [], .aload_n 0, []) ∧ px_at 250 82 = some (85, [], .getfield 69, [11, 28, 2, 1, 153]) ∧ px_at 250 85 = some (86, [], .iload_n 2, []) ∧ px_at 250 86 = some (88, [], .iload 6, []) ∧ px_at 250 88 = some (89, [], .iadd, []) ∧ px_at 250 89 = some (90, [], .aload_n 0, []) ∧ px_at 250 90 = some (93, [], .getfield 7, [11, 0, 2, 1, 125]) ∧ px_at 250 93 = some (96, [], .sipush 894, []) ∧ px_at 250 96 = some (97, [], .iload_n 3, []) ∧ px_at 250 97 = some (98, [], .iadd, []) ∧ px_at 250 98 = some (100, [], .iload 6, []) ∧ px_at 250 100 = some (101, [], .iadd, []) ∧ px_at 250 101 = some (102, [], .iaload, []) ∧ px_at 250 102 = some (103, [], .iastore, []) ∧ px_at 250 103 = some (106, [], .iinc 6 1, []) ∧ px_at 250 106 = some (109, [], .goto (-32), [74]) ∧ px_at 250 109 = some (110, [], .aload_n 0, []) ∧ px_at 250 110 = some (113, [], .getfield 35, [11, 10, 2, 1, 135]) ∧ px_at 250 113 = some (115, [], .iload 4, []) ∧ px_at 250 115 = some (116, [], .iload_n 2, []) ∧ px_at 250 116 = some (117, [], .iastore, []) ∧ px_at 250 117 = some (118, [], .iload_n 2, []) ∧ px_at 250 118 = some (119, [], .iload_n 3, []) ∧ px_at 250 119 = some (122, [], .if_icmp .eq 8, [127]) ∧ px_at 250 122 = some (123, [], .iload_n 1, []) ∧ px_at 250 123 = some (125, [], .iload 5, []) ∧ px_at 250 125 = some (126, [], .iadd, []) ∧ px_at 250 126 = some (127, [], .istore_n 1, []) ∧ px_at 250 127 = some (128, [], .iload_n 2, []) ∧ px_at 250 128 = some (130, [], .iload 5, []) ∧ px_at 250 130 = some (131, [], .iadd, []) ∧ px_at 250 131 = some (132, [], .istore_n 2, []) ∧ px_at 250 132 = some (135, [], .iinc 3 1, []) ∧ px_at 250 135 = some (138, [], .goto (-107), [28]) ∧ px_at 250 138 = some (139, [], .iconst 0, []) ∧ px_at 250 139 = some (140, [], .istore_n 3, []) ∧ px_at 250 140 = some (141, [1, 1, 0, 1, 0, 0, 0], .iload_n 3, []) ∧ px_at 250 141 = some (143, [], .bipush 40, []) ∧ px_at 250 143 = some (146, [], .if_icmp .ge 40, [183]) ∧ px_at 250 146 = some (147, [], .aload_n 0, []) ∧ px_at 250 147 = some (148, [], .iload_n 3, []) ∧ px_at 250 148 = some (149, [], .iconst 0, []) ∧ px_at 250 149 = some (152, [], .invokevirtual 109, [187, 2, 11, 259]) ∧ px_at 250 152 = some (153, [], .iconst 1, []) ∧ px_at 250 153 = some (156, [], .if_icmp .ne 24, [177]) ∧ px_at 250 156 = some (157, [], .aload_n 0, []) ∧ px_at 250 157 = some (158, [], .iload_n 3, []) ∧ px_at 250 158 = some (159, [], .iconst 4, []) ∧ px_at 250 159 = some (162, [], .invokevirtual 109, [187, 2, 11, 259]) ∧ px_at 250 162 = some (165, [], .ifCond .le 15, [177]) ∧ px_at 250 165 = some (166, [], .aload_n 0, []) ∧ px_at 250 166 = some (167, [], .iload_n 3, []) ∧ px_at 250 167 = some (168, [], .iconst 3, []) ∧ px_at 250 168 = some (169, [], .aload_n 0, []) ∧ px_at 250 169 = some (172, [], .getfield 35, [11, 10, 2, 1, 135]) ∧ px_at 250 172 = some (173, [], .iload_n 3, []) ∧ px_at 250 173 = some (174, [], .iaload, []) ∧ px_at 250 174 = some (177, [], .invokevirtual 170, [188, 3, 11, 274]) ∧ px_at 250 177 = some (180, [], .iinc 3 1, []) ∧ px_at 250 180 = some (183, [], .goto (-40), [140]) ∧ px_at 250 183 = some (184, [], .iconst 0, []) ∧ px_at 250 184 = some (185, [], .istore_n 3, []) ∧ px_at 250 185 = some (186, [1, 1, 0, 1, 0, 0, 0], .iload_n 3, []) ∧ px_at 250 186 = some (189, [], .sipush 400, []) ∧ px_at 250 189 = some (192, [], .if_icmp .ge 25, [214]) ∧ px_at 250 192 = some (193, [], .aload_n 0, []) ∧ px_at 250 193 = some (196, [], .getfield 7, [11, 0, 2, 1, 125]) ∧ px_at 250 196 = some (199, [], .sipush 894, []) ∧ px_at 250 199 = some (200, [], .iload_n 3, []) ∧ px_at 250 200 = some (201, [], .iadd, []) ∧ px_at 250 201 = some (202, [], .aload_n 0, []) ∧ px_at 250 202 = some (205, [], .getfield 69, [11, 28, 2, 1, 153]) ∧ px_at 250 205 = some (206, [], .iload_n 3, []) ∧ px_at 250 206 = some (207, [], .iaload, []) ∧ px_at 250 207 = some (208, [], .iastore, []) ∧ px_at 250 208 = some (211, [], .iinc 3 1, []) ∧ px_at 250 211 = some (214, [], .goto (-26), [185]) ∧ px_at 250 214 = some (215, [], .iload_n 1, []) ∧ px_at 250 215 = some (216, [], .ireturn, [0]) := ⟨rfl, rfl, rfl, rfl, rfl, rfl, rfl, rfl, rfl, rfl, rfl, rfl, rfl, rfl, rfl, rfl, rfl, rfl, rfl, rfl, rfl, rfl, rfl, rfl, rfl, rfl, rfl, rfl, rfl, rfl, rfl, rfl, rfl, rfl, rfl, rfl, rfl, rfl, rfl, rfl, rfl, rfl, rfl, rfl, rfl, rfl, rfl, rfl, rfl, rfl, rfl, rfl, rfl, rfl, rfl, rfl, rfl, rfl, rfl, rfl, rfl, rfl, rfl, rfl, rfl, rfl, rfl, rfl, rfl, rfl, rfl, rfl, rfl, rfl, rfl, rfl, rfl, rfl, rfl, rfl, rfl, rfl, rfl, rfl, rfl, rfl, rfl, rfl, rfl, rfl, rfl, rfl, rfl, rfl, rfl, rfl, rfl, rfl, rfl, rfl, rfl, rfl, rfl, rfl, rfl, rfl, rfl, rfl, rfl, rfl, rfl, rfl, rfl, rfl, rfl, rfl, rfl, rfl, rfl, rfl, rfl, rfl, rfl, rfl⟩
set_option maxRecDepth 100000 in
/-- X12_ownerOf -/
theorem cd_251 : px_at 251 0 = some (1, [], .iconst 0, []) ∧ px_at 251 1 = some (2, [], .istore_n 2, []) ∧ px_at 251 2 = some (3, [1, 1, 1], .iload_n 2, []) ∧ px_at 251 3 = some (5, [], .bipush 40, []) ∧ px_at 251 5 = some (8, [], .if_icmp .ge 49, [54]) ∧ px_at 251 8 = some (9, [], .aload_n 0, []) ∧ px_at 251 9 = some (10, [], .iload_n 2, []) ∧ px_at 251 10 = some (11, [], .iconst 0, []) ∧ px_at 251 11 = some (14, [], .invokevirtual 109, [187, 2, 11, 259]) ∧ px_at 251 14 = some (15, [], .iconst 1, []) ∧ px_at 251 15 = some (18, [], .if_icmp .ne 33, [48]) ∧ px_at 251 18 = some (19, [], .iload_n 1, []) ∧ px_at 251 19 = some (20, [], .aload_n 0, []) ∧ px_at 251 20 = some (21, [], .iload_n 2, []) ∧ px_at 251 21 = some (22, [], .iconst 3, []) ∧ px_at 251 22 = some (25, [], .invokevirtual 109, [187, 2, 11, 259]) ∧ px_at 251 25 = some (26, [], .aload_n 0, []) ∧ px_at 251 26 = some (27, [], .iload_n 2, []) ∧ px_at 251 27 = some (28, [], .iconst 3, []) ∧ px_at 251 28 = some (31, [], .invokevirtual 109, [187, 2, 11, 259]) ∧ px_at 251 31 = some (32, [], .aload_n 0, []) ∧ px_at 251 32 = some (33, [], .iload_n 2, []) ∧ px_at 251 33 = some (34, [], .iconst 4, []) ∧ px_at 251 34 = some (37, [], .invokevirtual 109, [187, 2, 11, 259]) ∧ px_at 251 37 = some (38, [], .iadd, []) ∧ px_at 251 38 = some (39, [], .iconst 1, []) ∧ px_at 251 39 = some (40, [], .isub, []) ∧ px_at 251 40 = some (43, [], .invokestatic 92, [170, 3, 11, 223]) ∧ px_at 251 43 = some (46, [], .ifCond .eq 5, [48]) ∧ px_at 251 46 = some (47, [], .iload_n 2, []) ∧ px_at 251 47 = some (48, [], .ireturn, [0]) ∧ px_at 251 48 = some (51, [], .iinc 2 1, []) ∧ px_at 251 51 = some (54, [], .goto (-49), [2]) ∧ px_at 251 54 = some (55, [], .iconst (-1), []) ∧ px_at 251 55 = some (56, [], .ireturn, [0]) := ⟨rfl, rfl, rfl, rfl, rfl, rfl, rfl, rfl, rfl, rfl, rfl, rfl, rfl, rfl, rfl, rfl, rfl, rfl, rfl, rfl, rfl, rfl, rfl, rfl, rfl, rfl, rfl, rfl, rfl, rfl, rfl, rfl, rfl, rfl, rfl⟩
set_option maxRecDepth 100000 in
/-- X12_row -/
theorem cd_252 : px_at 252 0 = some (1, [], .iload_n 1, []) ∧ px_at 252 1 = some (2, [], .iconst 0, []) ∧ px_at 252 2 = some (5, [], .sipush 399, []) ∧ px_at 252 5 = some (8, [], .invokestatic 92, [170, 3, 11, 223]) ∧ px_at 252 8 = some (11, [], .ifCond .eq 16, [24]) ∧ px_at 252 11 = some (12, [], .aload_n 0, []) ∧ px_at 252 12 = some (15, [], .getfield 7, [11, 0, 2, 1, 125]) ∧ px_at 252 15 = some (18, [], .sipush 894, []) ∧ px_at 252 18 = some (19, [], .iload_n 1, []) ∧ px_at 252 19 = some (20, [], .iadd, []) ∧ px_at 252 20 = some (21, [], .iaload, []) ∧ px_at 252 21 = some (24, [], .goto 4, [25]) ∧ px_at 252 24 = some (25, [], .iconst (-1), []) ∧ px_at 252 25 = some (26, [], .ireturn, [0]) := ⟨rfl, rfl, rfl, rfl, rfl, rfl, rfl, rfl, rfl, rfl, rfl, rfl, rfl, rfl⟩
set_option maxRecDepth 100000 in
/-- X12_owner -/
theorem cd_253 : px_at 253 0 = some (1, [], .iload_n 1, []) ∧ px_at 253 1 = some (2, [], .iconst 0, []) ∧ px_at 253 2 = some (5, [], .sipush 399, []) ∧ px_at 253 5 = some (8, [], .invokestatic 92, [170, 3, 11, 223]) ∧ px_at 253 8 = some (11, [], .ifCond .ne 5, [13]) ∧ px_at 253 11 = some (12, [], .iconst (-1), []) ∧ px_at 253 12 = some (13, [], .ireturn, [0]) ∧ px_at 253 13 = some (14, [], .aload_n 0, []) ∧ px_at 253 14 = some (15, [], .iload_n 1, []) ∧ px_at 253 15 = some (18, [], .invokevirtual 325, [251, 1, 11, 295]) ∧ px_at 253 18 = some (19, [], .istore_n 2, []) ∧ px_at 253 19 = some (20, [], .iload_n 2, []) ∧ px_at 253 20 = some (21, [], .iconst (-1), []) ∧ px_at 253 21 = some (24, [], .if_icmp .ne 8, [29]) ∧ px_at 253 24 = some (26, [], .bipush (-2), []) ∧ px_at 253 26 = some (29, [], .goto 4, [30]) ∧ px_at 253 29 = some (30, [], .iload_n 2, []) ∧ px_at 253 30 = some (31, [], .ireturn, [0]) := ⟨rfl, rfl, rfl, rfl, rfl, rfl, rfl, rfl, rfl, rfl, rfl, rfl, rfl, rfl, rfl, rfl, rfl, rfl⟩
set_option maxRecDepth 100000 in
/-- X12_spoil -/
theorem cd_254 : px_at 254 0 = some (1, [], .iload_n 1, []) ∧ px_at 254 1 = some (2, [], .iconst 0, []) ∧ px_at 254 2 = some (5, [], .sipush 399, []) ∧ px_at 254 5 = some (8, [], .invokestatic 92, [170, 3, 11, 223]) ∧ px_at 254 8 = some (11, [], .ifCond .eq 14, [22]) ∧ px_at 254 11 = some (12, [], .iload_n 2, []) ∧ px_at 254 12 = some (13, [], .iconst 0, []) ∧ px_at 254 13 = some (16, [], .sipush 255, []) ∧ px_at 254 16 = some (19, [], .invokestatic 92, [170, 3, 11, 223]) ∧ px_at 254 19 = some (22, [], .ifCond .ne 5, [24]) ∧ px_at 254 22 = some (23, [], .iconst (-1), []) ∧ px_at 254 23 = some (24, [], .ireturn, [0]) ∧ px_at 254 24 = some (25, [], .aload_n 0, []) ∧ px_at 254 25 = some (28, [], .getfield 7, [11, 0, 2, 1, 125]) ∧ px_at 254 28 = some (31, [], .sipush 894, []) ∧ px_at 254 31 = some (32, [], .iload_n 1, []) ∧ px_at 254 32 = some (33, [], .iadd, []) ∧ px_at 254 33 = some (34, [], .iaload, []) ∧ px_at 254 34 = some (35, [], .istore_n 3, []) ∧ px_at 254 35 = some (36, [], .aload_n 0, []) ∧ px_at 254 36 = some (39, [], .getfield 7, [11, 0, 2, 1, 125]) ∧ px_at 254 39 = some (42, [], .sipush 894, []) ∧ px_at 254 42 = some (43, [], .iload_n 1, []) ∧ px_at 254 43 = some (44, [], .iadd, []) ∧ px_at 254 44 = some (45, [], .iload_n 2, []) ∧ px_at 254 45 = some (46, [], .iastore, []) ∧ px_at 254 46 = some (47, [], .iload_n 3, []) ∧ px_at 254 47 = some (48, [], .ireturn, [0]) := ⟨rfl, rfl, rfl, rfl, rfl, rfl, rfl, rfl, rfl, rfl, rfl, rfl, rfl, rfl, rfl, rfl, rfl, rfl, rfl, rfl, rfl, rfl, rfl, rfl, rfl, rfl, rfl, rfl⟩
/-! the reference: owner, row, pack -/
section PS
variable {M : px_mem} {Q : Option pv → px_mem → Prop}
set_option maxHeartbeats 600000 in
set_option maxRecDepth 100000 in
theorem lp_ownerOf {Mc : px_mem} {p : Int} (hT : tieC Mc (M 128)) (hp : 0 ≤ p ∧ p < 400) (h : Q (some (0, if Mc 54 p < 0 then -1 else Mc 54 p)) M) (c : Int) (hk_c : c ≤ 40) : 0 ≤ c → (∀ j, 0 ≤ j → j < c → ¬ (0 ≤ Mc 62 j ∧ Mc 59 j ≤ p ∧ p < Mc 59 j + Mc 60 j)) → px_WP 251 0 0 (px_Q0 LAY Q) 2 [(2, 127), (0, p), (0, c)] [] LAY M 0 0 := by
  refine up_ind (P := fun c => 0 ≤ c → (∀ j, 0 ≤ j → j < c → ¬ (0 ≤ Mc 62 j ∧ Mc 59 j ≤ p ∧ p < Mc 59 j + Mc 60 j)) → px_WP 251 0 0 (px_Q0 LAY Q) 2 [(2, 127), (0, p), (0, c)] [] LAY M 0 0) (40) (fun c hk_c ih => ?_) c hk_c
  intro c0 hj
  have hu := fun q => hT.2.1 c c0 q
  have hpp := fun q q2 => tieC_p hT c0 q q2
  have hk := fun q q2 => cokC (hT.1.1 c c0 q q2)
  have ho := hT.1.2.2.1
  have hnx : c < 40 → ¬ (0 ≤ Mc 62 c ∧ Mc 59 c ≤ p ∧ p < Mc 59 c + Mc 60 c) → px_WP 251 0 0 (px_Q0 LAY Q) 2 [(2, 127), (0, p), (0, c + 1)] [] LAY M 0 0 := fun q z => ih q (by omega) (fun j j0 j1 => by
    by_cases e : j = c
    · rw [e]; exact z
    · exact hj j j0 (by omega))
  obtain ⟨u, eu, eu2⟩ : ∃ u, M 128 (654 + 6 * c + 0) = u ∧ (c < 40 → (0 ≤ Mc 62 c ∧ u = 1) ∨ (Mc 62 c < 0 ∧ u = 0)) := ⟨_, rfl, hu⟩
  obtain ⟨s, es, es2⟩ : ∃ s, M 128 (654 + 6 * c + 3) = s ∧ (c < 40 → 0 ≤ Mc 62 c → s = Mc 59 c ∧ 0 ≤ s ∧ s ≤ 400) := ⟨_, rfl, fun q q2 => ⟨(hpp q q2).2.2.1, by have := (hpp q q2).2.2.1; have := hk q q2; show 0 ≤ rC (M 128) c 3; omega, by have := (hpp q q2).2.2.1; have := hk q q2; show rC (M 128) c 3 ≤ 400; omega⟩⟩
  obtain ⟨n, en, en2⟩ : ∃ n, M 128 (654 + 6 * c + 4) = n ∧ (c < 40 → 0 ≤ Mc 62 c → n = Mc 60 c ∧ 0 ≤ n ∧ n ≤ 400) := ⟨_, rfl, fun q q2 => ⟨(hpp q q2).2.2.2.1, by have := (hpp q q2).2.2.2.1; have := hk q q2; show 0 ≤ rC (M 128) c 4; omega, by have := (hpp q q2).2.2.2.1; have := hk q q2; show rC (M 128) c 4 ≤ 400; omega⟩⟩
  refine px_go_ok (inl := [187,170]) 60 ?_
  simp only [px_go, px_Q0_at, px_sx_0, px_sx_s, px_cl, px_step, ↓px_ll, px_lg, f4_, ↓px_r1, ↓px_r2, ↓px_r4, ↓px_r5, ↓px_p1, ↓px_p2, ↓px_p3, ↓px_pop, px_k_0, px_k_s, px_k3_0, px_stk_, px_cats, px_ent, px_st1, px_st2, px_mask, ↓px_tsw, ↓px_lsw, ct_, mls_0, mls_1, mls_2, mls_3, mls_4, mls_5, kd_0, kd_1, kd_2, kd_3, ln_0, ln_1, ln_2, ln_3, gf_0, gf_1, gf_2, gf_3, gf_4, gf_7, gf_21, gf_63, dy_0, dy_1, dy_2, dy_3, dy_7, dy_21, px_brT, px_brF, true_and, and_true, and_false, false_and, and_self, true_implies, false_implies, or_true, true_or, or_false, false_or, eq_self, ne_eq, not_false_eq_true, not_true_eq_false, if_true, if_false, List.mem_cons, List.not_mem_nil, List.length_cons, List.length_nil, Nat.reduceEqDiff, Nat.reduceAdd, Nat.reduceSub, Nat.reduceLeDiff, Nat.reduceLT, Int.reduceEq, Int.reduceLT, Int.reduceLE, Int.reduceNeg, Int.reduceAdd, Int.reduceSub, Int.reduceToNat, ↓reduceIte, one_ne_zero_, zero_ne_one_, px_in32L, cd_251, cd_187, cd_170, eu, es, en]
  repeat' (first | (with_reducible apply And.intro) | (with_reducible refine px_br_intro (fun _ => ?_) (fun _ => ?_)))
  all_goals (try (first | (unfold px_in32; omega) | omega))
  · rename_i c1
    have : Mc 54 p < 0 := by
      rcases ho.2 p hp.1 hp.2 with z | z
      · omega
      · exact absurd ⟨z.2.2.1, z.2.2.2⟩ (hj _ z.1 (by omega))
    rw [if_pos this] at h
    exact h
  all_goals
    have hc40 : c < 40 := by omega
    have ue := eu2 hc40
    try (have s2 := es2 hc40 (by omega))
    try (have n2 := en2 hc40 (by omega))
    try (unfold px_in32)
    try omega
  · exact hnx hc40 (fun z => by omega)
  · exact hnx hc40 (fun z => by omega)
  · rename_i c1 c2 c3 c4
    have hc2 : 0 ≤ Mc 62 c := by omega
    have e := ho.1 c c0 hc40 hc2 p (by omega) (by omega)
    rw [e, if_neg (by omega)] at h
    exact h
  · exact hnx hc40 (fun z => by omega)
set_option maxHeartbeats 600000 in
set_option maxRecDepth 100000 in
theorem sp_ownerOf {Mc : px_mem} {p : Int} (hT : tieC Mc (M 128)) (hp : 0 ≤ p ∧ p < 400) (h : Q (some (0, if Mc 54 p < 0 then -1 else Mc 54 p)) M) : px_Ok 251 [(2, 127), (0, p)] LAY M Q := by
  refine px_ok_go (inl := []) (ls0 := [(2, 127), (0, p), (9, 0)]) 60 (by decide) (Nat.le_of_ble_eq_true rfl) rfl ?_
  simp only [px_go, px_Q0_at, px_sx_0, px_sx_s, px_cl, px_step, ↓px_ll, px_lg, f4_, ↓px_r1, ↓px_r2, ↓px_r4, ↓px_r5, ↓px_p1, ↓px_p2, ↓px_p3, ↓px_pop, px_k_0, px_k_s, px_k3_0, px_stk_, px_cats, px_ent, px_st1, px_st2, px_mask, ↓px_tsw, ↓px_lsw, ct_, mls_0, mls_1, mls_2, mls_3, mls_4, mls_5, kd_0, kd_1, kd_2, kd_3, ln_0, ln_1, ln_2, ln_3, gf_0, gf_1, gf_2, gf_3, gf_4, gf_7, gf_21, gf_63, dy_0, dy_1, dy_2, dy_3, dy_7, dy_21, px_brT, px_brF, true_and, and_true, and_false, false_and, and_self, true_implies, false_implies, or_true, true_or, or_false, false_or, eq_self, ne_eq, not_false_eq_true, not_true_eq_false, if_true, if_false, List.mem_cons, List.not_mem_nil, List.length_cons, List.length_nil, Nat.reduceEqDiff, Nat.reduceAdd, Nat.reduceSub, Nat.reduceLeDiff, Nat.reduceLT, Int.reduceEq, Int.reduceLT, Int.reduceLE, Int.reduceNeg, Int.reduceAdd, Int.reduceSub, Int.reduceToNat, ↓reduceIte, one_ne_zero_, zero_ne_one_, px_in32L, cd_251]
  repeat' (first | (with_reducible apply And.intro) | (with_reducible refine px_br_intro (fun _ => ?_) (fun _ => ?_)))
  all_goals (try (first | (unfold px_in32; omega) | omega))
  exact lp_ownerOf hT hp h 0 (by decide) (Int.le_refl 0) (fun j j0 j1 => by omega)
set_option maxHeartbeats 600000 in
set_option maxRecDepth 100000 in
theorem sp_rrow {Mc : px_mem} {p : Int} (hT : tieC Mc (M 128)) (h : Q (some (0, if 0 ≤ p ∧ p < 400 then Mc 53 p else -1)) M) : px_Ok 252 [(2, 127), (0, p)] LAY M Q := by
  refine px_ok_go (inl := [170]) (ls0 := [(2, 127), (0, p)]) 60 (by decide) (Nat.le_of_ble_eq_true rfl) rfl ?_
  simp only [px_go, px_Q0_at, px_sx_0, px_sx_s, px_cl, px_step, ↓px_ll, px_lg, f4_, ↓px_r1, ↓px_r2, ↓px_r4, ↓px_r5, ↓px_p1, ↓px_p2, ↓px_p3, ↓px_pop, px_k_0, px_k_s, px_k3_0, px_stk_, px_cats, px_ent, px_st1, px_st2, px_mask, ↓px_tsw, ↓px_lsw, ct_, mls_0, mls_1, mls_2, mls_3, mls_4, mls_5, kd_0, kd_1, kd_2, kd_3, ln_0, ln_1, ln_2, ln_3, gf_0, gf_1, gf_2, gf_3, gf_4, gf_7, gf_21, gf_63, dy_0, dy_1, dy_2, dy_3, dy_7, dy_21, px_brT, px_brF, true_and, and_true, and_false, false_and, and_self, true_implies, false_implies, or_true, true_or, or_false, false_or, eq_self, ne_eq, not_false_eq_true, not_true_eq_false, if_true, if_false, List.mem_cons, List.not_mem_nil, List.length_cons, List.length_nil, Nat.reduceEqDiff, Nat.reduceAdd, Nat.reduceSub, Nat.reduceLeDiff, Nat.reduceLT, Int.reduceEq, Int.reduceLT, Int.reduceLE, Int.reduceNeg, Int.reduceAdd, Int.reduceSub, Int.reduceToNat, ↓reduceIte, one_ne_zero_, zero_ne_one_, px_in32L, cd_252, cd_170]
  repeat' (first | (with_reducible apply And.intro) | (with_reducible refine px_br_intro (fun _ => ?_) (fun _ => ?_)))
  all_goals (try (first | (unfold px_in32; omega) | omega))
  · rename_i c1
    rw [if_neg (by omega)] at h; exact h
  · rename_i c1 c2
    rw [if_neg (by omega)] at h; exact h
  · rename_i c1 c2
    rw [if_pos (by omega)] at h
    rw [hT.2.2.2 p (by omega) (by omega)]; exact h
set_option maxHeartbeats 600000 in
set_option maxRecDepth 100000 in
theorem sp_rowner {Mc : px_mem} {p : Int} (hT : tieC Mc (M 128)) (h : Q (some (0, if 0 ≤ p ∧ p < 400 then Mc 54 p else -1)) M) : px_Ok 253 [(2, 127), (0, p)] LAY M Q := by
  refine px_ok_go (inl := [170]) (ls0 := [(2, 127), (0, p), (9, 0)]) 60 (by decide) (Nat.le_of_ble_eq_true rfl) rfl ?_
  simp only [px_go, px_Q0_at, px_sx_0, px_sx_s, px_cl, px_step, ↓px_ll, px_lg, f4_, ↓px_r1, ↓px_r2, ↓px_r4, ↓px_r5, ↓px_p1, ↓px_p2, ↓px_p3, ↓px_pop, px_k_0, px_k_s, px_k3_0, px_stk_, px_cats, px_ent, px_st1, px_st2, px_mask, ↓px_tsw, ↓px_lsw, ct_, mls_0, mls_1, mls_2, mls_3, mls_4, mls_5, kd_0, kd_1, kd_2, kd_3, ln_0, ln_1, ln_2, ln_3, gf_0, gf_1, gf_2, gf_3, gf_4, gf_7, gf_21, gf_63, dy_0, dy_1, dy_2, dy_3, dy_7, dy_21, px_brT, px_brF, true_and, and_true, and_false, false_and, and_self, true_implies, false_implies, or_true, true_or, or_false, false_or, eq_self, ne_eq, not_false_eq_true, not_true_eq_false, if_true, if_false, List.mem_cons, List.not_mem_nil, List.length_cons, List.length_nil, Nat.reduceEqDiff, Nat.reduceAdd, Nat.reduceSub, Nat.reduceLeDiff, Nat.reduceLT, Int.reduceEq, Int.reduceLT, Int.reduceLE, Int.reduceNeg, Int.reduceAdd, Int.reduceSub, Int.reduceToNat, ↓reduceIte, one_ne_zero_, zero_ne_one_, px_in32L, cd_253, cd_170]
  repeat' (first | (with_reducible apply And.intro) | (with_reducible refine px_br_intro (fun _ => ?_) (fun _ => ?_)))
  all_goals (try (first | (unfold px_in32; omega) | omega))
  · rename_i c1
    rw [if_neg (by omega)] at h; exact h
  · rename_i c1 c2
    rw [if_neg (by omega)] at h; exact h
  · rename_i c1 c2
    rw [if_pos (by omega)] at h
    have ho := hT.1.2.2.1.2 p (by omega) (by omega)
    refine sp_ownerOf hT ⟨by omega, by omega⟩ ?_
    simp only [px_go, px_Q0_at, px_sx_0, px_sx_s, px_cl, px_step, ↓px_ll, px_lg, f4_, ↓px_r1, ↓px_r2, ↓px_r4, ↓px_r5, ↓px_p1, ↓px_p2, ↓px_p3, ↓px_pop, px_k_0, px_k_s, px_k3_0, px_stk_, px_cats, px_ent, px_st1, px_st2, px_mask, ↓px_tsw, ↓px_lsw, ct_, mls_0, mls_1, mls_2, mls_3, mls_4, mls_5, kd_0, kd_1, kd_2, kd_3, ln_0, ln_1, ln_2, ln_3, gf_0, gf_1, gf_2, gf_3, gf_4, gf_7, gf_21, gf_63, dy_0, dy_1, dy_2, dy_3, dy_7, dy_21, px_brT, px_brF, true_and, and_true, and_false, false_and, and_self, true_implies, false_implies, or_true, true_or, or_false, false_or, eq_self, ne_eq, not_false_eq_true, not_true_eq_false, if_true, if_false, List.mem_cons, List.not_mem_nil, List.length_cons, List.length_nil, Nat.reduceEqDiff, Nat.reduceAdd, Nat.reduceSub, Nat.reduceLeDiff, Nat.reduceLT, Int.reduceEq, Int.reduceLT, Int.reduceLE, Int.reduceNeg, Int.reduceAdd, Int.reduceSub, Int.reduceToNat, ↓reduceIte, one_ne_zero_, zero_ne_one_, px_in32L, cd_253, cd_170]
    by_cases q : Mc 54 p < 0
    · rw [if_pos q]
      refine px_br_intro (fun _ => ?_) (fun c => absurd rfl c)
      rw [show Mc 54 p = -2 by omega] at h; exact h
    · rw [if_neg q]
      refine px_br_intro (fun c => by omega) (fun _ => ?_)
      exact h
set_option maxHeartbeats 600000 in
set_option maxRecDepth 100000 in
theorem sp_rspoil {Mc : px_mem} {p v : Int} (hT : tieC Mc (M 128)) (h0 : ¬ (0 ≤ p ∧ p < 400 ∧ 0 ≤ v ∧ v ≤ 255) → Q (some (0, -1)) M) (h1 : (0 ≤ p ∧ p < 400 ∧ 0 ≤ v ∧ v ≤ 255) → Q (some (0, Mc 53 p)) (px_up M 128 (894 + p) v)) : px_Ok 254 [(2, 127), (0, p), (0, v)] LAY M Q := by
  refine px_ok_go (inl := [170]) (ls0 := [(2, 127), (0, p), (0, v), (9, 0)]) 60 (by decide) (Nat.le_of_ble_eq_true rfl) rfl ?_
  simp only [px_go, px_Q0_at, px_sx_0, px_sx_s, px_cl, px_step, ↓px_ll, px_lg, f4_, ↓px_r1, ↓px_r2, ↓px_r4, ↓px_r5, ↓px_p1, ↓px_p2, ↓px_p3, ↓px_pop, px_k_0, px_k_s, px_k3_0, px_stk_, px_cats, px_ent, px_st1, px_st2, px_mask, ↓px_tsw, ↓px_lsw, ct_, mls_0, mls_1, mls_2, mls_3, mls_4, mls_5, kd_0, kd_1, kd_2, kd_3, ln_0, ln_1, ln_2, ln_3, gf_0, gf_1, gf_2, gf_3, gf_4, gf_7, gf_21, gf_63, dy_0, dy_1, dy_2, dy_3, dy_7, dy_21, px_brT, px_brF, true_and, and_true, and_false, false_and, and_self, true_implies, false_implies, or_true, true_or, or_false, false_or, eq_self, ne_eq, not_false_eq_true, not_true_eq_false, if_true, if_false, List.mem_cons, List.not_mem_nil, List.length_cons, List.length_nil, Nat.reduceEqDiff, Nat.reduceAdd, Nat.reduceSub, Nat.reduceLeDiff, Nat.reduceLT, Int.reduceEq, Int.reduceLT, Int.reduceLE, Int.reduceNeg, Int.reduceAdd, Int.reduceSub, Int.reduceToNat, ↓reduceIte, one_ne_zero_, zero_ne_one_, px_in32L, cd_254, cd_170]
  repeat' (first | (with_reducible apply And.intro) | (with_reducible refine px_br_intro (fun _ => ?_) (fun _ => ?_)))
  all_goals (try (first | (unfold px_in32; omega) | omega))
  · exact h0 (by omega)
  · exact h0 (by omega)
  · exact h0 (by omega)
  · exact h0 (by omega)
  · rename_i c1 c2 c3 c4
    rw [hT.2.2.2 p (by omega) (by omega)]
    exact h1 (by omega)
/-- packed so far -/
def pI (Mc M : px_mem) (k : Int) : Prop :=
  (∀ c, 0 ≤ c → c < 40 → 0 ≤ Mc 62 c → 0 < Mc 60 c → Mc 59 c < k → M 136 c = pkE (Mc 54) (Mc 59) (Mc 60) (Mc 59 c) ∧ ∀ x, 0 ≤ x → x < Mc 60 c → M 147 (pkE (Mc 54) (Mc 59) (Mc 60) (Mc 59 c) + x) = Mc 53 (Mc 59 c + x)) ∧
  ∀ y, 0 ≤ y → y < 400 → (∀ c, 0 ≤ c → c < 40 → 0 ≤ Mc 62 c → 0 < Mc 60 c → Mc 59 c < k → ¬ (pkE (Mc 54) (Mc 59) (Mc 60) (Mc 59 c) ≤ y ∧ y < pkE (Mc 54) (Mc 59) (Mc 60) (Mc 59 c) + Mc 60 c)) → M 147 y = 0
set_option maxHeartbeats 600000 in
set_option maxRecDepth 100000 in
theorem lp_pk0 {M0 : px_mem} (hx : ∀ M', (∀ y, 0 ≤ y → y < 400 → M' 147 y = 0) → (∀ b, b ≠ 147 → M' b = M0 b) → px_WP 250 0 0 (px_Q0 LAY Q) 28 [(2, 127), (0, 0), (0, 0), (0, 0), (9, 0), (9, 0), (9, 0)] [] LAY M' 0 0) (k : Int) (hk_k : k ≤ 400) : ∀ (M : px_mem), 0 ≤ k → (∀ y, 0 ≤ y → y < k → M 147 y = 0) → (∀ b, b ≠ 147 → M b = M0 b) → px_WP 250 0 0 (px_Q0 LAY Q) 6 [(2, 127), (0, 0), (0, 0), (0, k), (9, 0), (9, 0), (9, 0)] [] LAY M 0 0 := by
  refine up_ind (P := fun k => ∀ (M : px_mem), 0 ≤ k → (∀ y, 0 ≤ y → y < k → M 147 y = 0) → (∀ b, b ≠ 147 → M b = M0 b) → px_WP 250 0 0 (px_Q0 LAY Q) 6 [(2, 127), (0, 0), (0, 0), (0, k), (9, 0), (9, 0), (9, 0)] [] LAY M 0 0) (400) (fun k hk_k ih => ?_) k hk_k
  intro M k0 ha hfr
  refine px_go_ok (inl := []) 60 ?_
  simp only [px_go, px_Q0_at, px_sx_0, px_sx_s, px_cl, px_step, ↓px_ll, px_lg, f4_, ↓px_r1, ↓px_r2, ↓px_r4, ↓px_r5, ↓px_p1, ↓px_p2, ↓px_p3, ↓px_pop, px_k_0, px_k_s, px_k3_0, px_stk_, px_cats, px_ent, px_st1, px_st2, px_mask, ↓px_tsw, ↓px_lsw, ct_, mls_0, mls_1, mls_2, mls_3, mls_4, mls_5, kd_0, kd_1, kd_2, kd_3, ln_0, ln_1, ln_2, ln_3, gf_0, gf_1, gf_2, gf_3, gf_4, gf_7, gf_21, gf_63, dy_0, dy_1, dy_2, dy_3, dy_7, dy_21, px_brT, px_brF, true_and, and_true, and_false, false_and, and_self, true_implies, false_implies, or_true, true_or, or_false, false_or, eq_self, ne_eq, not_false_eq_true, not_true_eq_false, if_true, if_false, List.mem_cons, List.not_mem_nil, List.length_cons, List.length_nil, Nat.reduceEqDiff, Nat.reduceAdd, Nat.reduceSub, Nat.reduceLeDiff, Nat.reduceLT, Int.reduceEq, Int.reduceLT, Int.reduceLE, Int.reduceNeg, Int.reduceAdd, Int.reduceSub, Int.reduceToNat, ↓reduceIte, one_ne_zero_, zero_ne_one_, px_in32L, cd_250]
  repeat' (first | (with_reducible apply And.intro) | (with_reducible refine px_br_intro (fun _ => ?_) (fun _ => ?_)))
  all_goals (try (first | (unfold px_in32; omega) | omega))
  · rename_i c1
    exact hx M (fun y y0 y1 => ha y y0 (by omega)) hfr
  · rename_i c1
    refine ih (by omega) _ (by omega) (fun y y0 y1 => ?_) (fun b b0 => by rw [row_ne b0]; exact hfr b b0)
    rw [px_up_at]
    by_cases q : y = k
    · rw [if_pos ⟨rfl, q⟩]
    · rw [if_neg (fun z => q z.2)]; exact ha y y0 (by omega)
set_option maxHeartbeats 600000 in
set_option maxRecDepth 100000 in
theorem lp_pk2 {M0 Mc : px_mem} {n nd p c m : Int} (hT : tieC Mc (M0 128)) (hp : 0 ≤ p ∧ p + m ≤ 400) (hm : 0 ≤ m) (hnd : 0 ≤ nd ∧ nd + m ≤ 400) (hn : 0 ≤ n ∧ n ≤ 400) (hc : 0 ≤ c ∧ c < 40) (hx : ∀ M' n', n' = (if nd = p then n else n + m) → (∀ y, M' 147 y = if nd ≤ y ∧ y < nd + m then Mc 53 (p + (y - nd)) else M0 147 y) → (∀ y, M' 136 y = if y = c then nd else M0 136 y) → (∀ b, b ≠ 136 → b ≠ 147 → M' b = M0 b) → px_WP 250 0 0 (px_Q0 LAY Q) 28 [(2, 127), (0, n'), (0, nd + m), (0, p + 1), (9, 0), (9, 0), (9, 0)] [] LAY M' 0 0) (k : Int) (hk_k : k ≤ m) : ∀ (M : px_mem), 0 ≤ k → (∀ y, M 147 y = if nd ≤ y ∧ y < nd + k then Mc 53 (p + (y - nd)) else M0 147 y) → (∀ b, b ≠ 147 → M b = M0 b) → px_WP 250 0 0 (px_Q0 LAY Q) 74 [(2, 127), (0, n), (0, nd), (0, p), (0, c), (0, m), (0, k)] [] LAY M 0 0 := by
  refine up_ind (P := fun k => ∀ (M : px_mem), 0 ≤ k → (∀ y, M 147 y = if nd ≤ y ∧ y < nd + k then Mc 53 (p + (y - nd)) else M0 147 y) → (∀ b, b ≠ 147 → M b = M0 b) → px_WP 250 0 0 (px_Q0 LAY Q) 74 [(2, 127), (0, n), (0, nd), (0, p), (0, c), (0, m), (0, k)] [] LAY M 0 0) (m) (fun k hk_k ih => ?_) k hk_k
  intro M k0 ha hfr
  have e128 := hfr 128 (by decide)
  refine px_go_ok (inl := []) 60 ?_
  simp only [px_go, px_Q0_at, px_sx_0, px_sx_s, px_cl, px_step, ↓px_ll, px_lg, f4_, ↓px_r1, ↓px_r2, ↓px_r4, ↓px_r5, ↓px_p1, ↓px_p2, ↓px_p3, ↓px_pop, px_k_0, px_k_s, px_k3_0, px_stk_, px_cats, px_ent, px_st1, px_st2, px_mask, ↓px_tsw, ↓px_lsw, ct_, mls_0, mls_1, mls_2, mls_3, mls_4, mls_5, kd_0, kd_1, kd_2, kd_3, ln_0, ln_1, ln_2, ln_3, gf_0, gf_1, gf_2, gf_3, gf_4, gf_7, gf_21, gf_63, dy_0, dy_1, dy_2, dy_3, dy_7, dy_21, px_brT, px_brF, true_and, and_true, and_false, false_and, and_self, true_implies, false_implies, or_true, true_or, or_false, false_or, eq_self, ne_eq, not_false_eq_true, not_true_eq_false, if_true, if_false, List.mem_cons, List.not_mem_nil, List.length_cons, List.length_nil, Nat.reduceEqDiff, Nat.reduceAdd, Nat.reduceSub, Nat.reduceLeDiff, Nat.reduceLT, Int.reduceEq, Int.reduceLT, Int.reduceLE, Int.reduceNeg, Int.reduceAdd, Int.reduceSub, Int.reduceToNat, ↓reduceIte, one_ne_zero_, zero_ne_one_, px_in32L, cd_250, e128]
  repeat' (first | (with_reducible apply And.intro) | (with_reducible refine px_br_intro (fun _ => ?_) (fun _ => ?_)))
  all_goals (try (first | (unfold px_in32; omega) | omega))
  · rename_i c1 c2
    have ek : k = m := by omega
    subst ek
    refine hx _ n (by rw [if_pos c2]) (fun y => by rw [row_ne (by decide)]; exact ha y) (fun y => ?_) (fun b b0 b1' => by rw [row_ne b0]; exact hfr b b1')
    rw [px_up_at, hfr 136 (by decide)]
    by_cases q : y = c
    · rw [if_pos ⟨rfl, q⟩, if_pos q]
    · rw [if_neg (fun z => q z.2), if_neg q]
  · rename_i c1 c2
    have ek : k = m := by omega
    subst ek
    refine hx _ (n + k) (by rw [if_neg c2]) (fun y => by rw [row_ne (by decide)]; exact ha y) (fun y => ?_) (fun b b0 b1' => by rw [row_ne b0]; exact hfr b b1')
    rw [px_up_at, hfr 136 (by decide)]
    by_cases q : y = c
    · rw [if_pos ⟨rfl, q⟩, if_pos q]
    · rw [if_neg (fun z => q z.2), if_neg q]
  · rename_i c1
    refine ih (by omega) _ (by omega) (fun y => ?_) (fun b b0 => by rw [row_ne b0]; exact hfr b b0)
    rw [px_up_at, ha y]
    by_cases q : y = nd + k
    · rw [if_pos ⟨rfl, q⟩, if_pos (by omega), Int.add_assoc, hT.2.2.2 (p + k) (by omega) (by omega), show p + (y - nd) = p + k by omega]
    · rw [if_neg (fun z => q z.2)]
      by_cases r : nd ≤ y ∧ y < nd + k
      · rw [if_pos r, if_pos (by omega)]
      · rw [if_neg r, if_neg (by omega)]
set_option maxHeartbeats 600000 in
set_option maxRecDepth 100000 in
theorem lp_pk1 {M0 Mc : px_mem} (hT : tieC Mc (M0 128)) (hx : ∀ M', pI Mc M' 400 → (∀ b, b ≠ 136 → b ≠ 147 → M' b = M0 b) → px_WP 250 0 0 (px_Q0 LAY Q) 140 [(2, 127), (0, pkN (Mc 54) (Mc 59) (Mc 60) 400), (9, 0), (0, 0), (9, 0), (9, 0), (9, 0)] [] LAY M' 0 0) (k : Int) (hk_k : k ≤ 400) : ∀ (M : px_mem), 0 ≤ k → pI Mc M k → (∀ b, b ≠ 136 → b ≠ 147 → M b = M0 b) → px_WP 250 0 0 (px_Q0 LAY Q) 28 [(2, 127), (0, pkN (Mc 54) (Mc 59) (Mc 60) k), (0, pkE (Mc 54) (Mc 59) (Mc 60) k), (0, k), (9, 0), (9, 0), (9, 0)] [] LAY M 0 0 := by
  refine up_ind (P := fun k => ∀ (M : px_mem), 0 ≤ k → pI Mc M k → (∀ b, b ≠ 136 → b ≠ 147 → M b = M0 b) → px_WP 250 0 0 (px_Q0 LAY Q) 28 [(2, 127), (0, pkN (Mc 54) (Mc 59) (Mc 60) k), (0, pkE (Mc 54) (Mc 59) (Mc 60) k), (0, k), (9, 0), (9, 0), (9, 0)] [] LAY M 0 0) (400) (fun k hk_k ih => ?_) k hk_k
  intro M k0 hI hfr
  have e128 := hfr 128 (by decide) (by decide)
  have ho : ownG (Mc 62) (Mc 59) (Mc 60) (Mc 54) := hT.1.2.2.1
  have hr := ci_inR hT.1
  have hE := pkE_rng ho hr k0 hk_k
  have hN := pkN_rng ho hr hk_k
  have hskip : k < 400 → ¬ (0 ≤ Mc 54 k ∧ Mc 59 (Mc 54 k) = k) → px_WP 250 0 0 (px_Q0 LAY Q) 28 [(2, 127), (0, pkN (Mc 54) (Mc 59) (Mc 60) k), (0, pkE (Mc 54) (Mc 59) (Mc 60) k), (0, k + 1), (9, 0), (9, 0), (9, 0)] [] LAY M 0 0 := fun q z => by
    have hne : ∀ c, 0 ≤ c → c < 40 → 0 ≤ Mc 62 c → 0 < Mc 60 c → Mc 59 c ≠ k := fun c c0 c1 c2 c3 e => by
      have := ho.1 c c0 c1 c2 k (by omega) (by omega)
      exact z ⟨by omega, by rw [this]; exact e⟩
    have := ih q M (by omega) ⟨fun c c0 c1 c2 c3 c4 => hI.1 c c0 c1 c2 c3 (by have := hne c c0 c1 c2 c3; omega), fun y y0 y1 hy => hI.2 y y0 y1 (fun c c0 c1 c2 c3 c4 => hy c c0 c1 c2 c3 (by omega))⟩ hfr
    rw [pkE_ns k0 z, pkN_ns k0 (fun y => absurd y z)] at this
    exact this
  refine px_go_ok (inl := [187]) 60 ?_
  simp only [px_go, px_Q0_at, px_sx_0, px_sx_s, px_cl, px_step, ↓px_ll, px_lg, f4_, ↓px_r1, ↓px_r2, ↓px_r4, ↓px_r5, ↓px_p1, ↓px_p2, ↓px_p3, ↓px_pop, px_k_0, px_k_s, px_k3_0, px_stk_, px_cats, px_ent, px_st1, px_st2, px_mask, ↓px_tsw, ↓px_lsw, ct_, mls_0, mls_1, mls_2, mls_3, mls_4, mls_5, kd_0, kd_1, kd_2, kd_3, ln_0, ln_1, ln_2, ln_3, gf_0, gf_1, gf_2, gf_3, gf_4, gf_7, gf_21, gf_63, dy_0, dy_1, dy_2, dy_3, dy_7, dy_21, px_brT, px_brF, true_and, and_true, and_false, false_and, and_self, true_implies, false_implies, or_true, true_or, or_false, false_or, eq_self, ne_eq, not_false_eq_true, not_true_eq_false, if_true, if_false, List.mem_cons, List.not_mem_nil, List.length_cons, List.length_nil, Nat.reduceEqDiff, Nat.reduceAdd, Nat.reduceSub, Nat.reduceLeDiff, Nat.reduceLT, Int.reduceEq, Int.reduceLT, Int.reduceLE, Int.reduceNeg, Int.reduceAdd, Int.reduceSub, Int.reduceToNat, ↓reduceIte, one_ne_zero_, zero_ne_one_, px_in32L, cd_250, cd_187, e128]
  repeat' (first | (with_reducible apply And.intro) | (with_reducible refine px_br_intro (fun _ => ?_) (fun _ => ?_)))
  all_goals (try (first | (unfold px_in32; omega) | omega))
  · rename_i c1
    rw [show k = 400 by omega] at hI ⊢
    exact hx M hI hfr
  · rename_i c1
    refine sp_ownerOf (Mc := Mc) (by rw [e128]; exact hT) ⟨k0, by omega⟩ ?_
    have hok := ho.2 k k0 (by omega)
    by_cases q : Mc 54 k < 0
    · rw [if_pos q]
      simp only [px_go, px_Q0_at, px_sx_0, px_sx_s, px_cl, px_step, ↓px_ll, px_lg, f4_, ↓px_r1, ↓px_r2, ↓px_r4, ↓px_r5, ↓px_p1, ↓px_p2, ↓px_p3, ↓px_pop, px_k_0, px_k_s, px_k3_0, px_stk_, px_cats, px_ent, px_st1, px_st2, px_mask, ↓px_tsw, ↓px_lsw, ct_, mls_0, mls_1, mls_2, mls_3, mls_4, mls_5, kd_0, kd_1, kd_2, kd_3, ln_0, ln_1, ln_2, ln_3, gf_0, gf_1, gf_2, gf_3, gf_4, gf_7, gf_21, gf_63, dy_0, dy_1, dy_2, dy_3, dy_7, dy_21, px_brT, px_brF, true_and, and_true, and_false, false_and, and_self, true_implies, false_implies, or_true, true_or, or_false, false_or, eq_self, ne_eq, not_false_eq_true, not_true_eq_false, if_true, if_false, List.mem_cons, List.not_mem_nil, List.length_cons, List.length_nil, Nat.reduceEqDiff, Nat.reduceAdd, Nat.reduceSub, Nat.reduceLeDiff, Nat.reduceLT, Int.reduceEq, Int.reduceLT, Int.reduceLE, Int.reduceNeg, Int.reduceAdd, Int.reduceSub, Int.reduceToNat, ↓reduceIte, one_ne_zero_, zero_ne_one_, px_in32L, cd_250, cd_187]
      repeat' (first | (with_reducible apply And.intro) | (with_reducible refine px_br_intro (fun _ => ?_) (fun _ => ?_)))
      all_goals (try (first | (unfold px_in32; omega) | omega))
      exact hskip (by omega) (fun z => by omega)
    · rw [if_neg q]
      have hc : 0 ≤ Mc 54 k ∧ Mc 54 k < 40 ∧ 0 ≤ Mc 62 (Mc 54 k) := by omega
      have hpp := tieC_p hT hc.1 hc.2.1 hc.2.2
      have hrr := hr _ hc.1 hc.2.1 hc.2.2
      have e3 : M0 128 (654 + 6 * Mc 54 k + 3) = Mc 59 (Mc 54 k) := hpp.2.2.1
      have e4 : M0 128 (654 + 6 * Mc 54 k + 4) = Mc 60 (Mc 54 k) := hpp.2.2.2.1
      generalize hcc : Mc 54 k = c at *
      simp only [px_go, px_Q0_at, px_sx_0, px_sx_s, px_cl, px_step, ↓px_ll, px_lg, f4_, ↓px_r1, ↓px_r2, ↓px_r4, ↓px_r5, ↓px_p1, ↓px_p2, ↓px_p3, ↓px_pop, px_k_0, px_k_s, px_k3_0, px_stk_, px_cats, px_ent, px_st1, px_st2, px_mask, ↓px_tsw, ↓px_lsw, ct_, mls_0, mls_1, mls_2, mls_3, mls_4, mls_5, kd_0, kd_1, kd_2, kd_3, ln_0, ln_1, ln_2, ln_3, gf_0, gf_1, gf_2, gf_3, gf_4, gf_7, gf_21, gf_63, dy_0, dy_1, dy_2, dy_3, dy_7, dy_21, px_brT, px_brF, true_and, and_true, and_false, false_and, and_self, true_implies, false_implies, or_true, true_or, or_false, false_or, eq_self, ne_eq, not_false_eq_true, not_true_eq_false, if_true, if_false, List.mem_cons, List.not_mem_nil, List.length_cons, List.length_nil, Nat.reduceEqDiff, Nat.reduceAdd, Nat.reduceSub, Nat.reduceLeDiff, Nat.reduceLT, Int.reduceEq, Int.reduceLT, Int.reduceLE, Int.reduceNeg, Int.reduceAdd, Int.reduceSub, Int.reduceToNat, ↓reduceIte, one_ne_zero_, zero_ne_one_, px_in32L, cd_250, cd_187, e128, e3, e4]
      refine px_br_intro (fun c2 => by omega) (fun _ => ?_)
      repeat' (first | (with_reducible apply And.intro) | (with_reducible refine px_br_intro (fun _ => ?_) (fun _ => ?_)))
      all_goals (try (first | (unfold px_in32; omega) | omega))
      · rename_i c2
        have hkp : 0 < Mc 60 c := by omega
        have hhi := pkE_hi ho hr (k := 400) (Int.le_refl 400) hc.1 hc.2.1 hc.2.2 hkp (by omega)
        have hE4 := pkE_rng ho hr (k := 400) (by decide) (Int.le_refl 400)
        have s0 : 0 ≤ Mc 54 k ∧ Mc 59 (Mc 54 k) = k := ⟨by omega, by rw [hcc]; exact c2⟩
        rw [c2] at hhi
        refine lp_pk2 (M0 := M) (Mc := Mc) (by rw [e128]; exact hT) ⟨k0, by omega⟩ (by omega) ⟨hE.1, by omega⟩ ⟨hN.1, by omega⟩ ⟨hc.1, hc.2.1⟩ (fun M1 n' z1 z2 z3 z4 => ?_) 0 (by omega) M (Int.le_refl 0) (fun y => by rw [if_neg (by omega)]) (fun _ _ => rfl)
        have hEs := pkE_st (kp := Mc 60) k0 s0
        rw [hcc] at hEs
        have hNs : n' = pkN (Mc 54) (Mc 59) (Mc 60) (k + 1) := by
          rw [z1]
          by_cases e : pkE (Mc 54) (Mc 59) (Mc 60) k = k
          · rw [if_pos e, pkN_ns k0 (fun _ => e.symm)]
          · rw [if_neg e, pkN_st k0 s0 (fun z => e z.symm), hcc]
        rw [hNs, ← hEs]
        refine ih (by omega) M1 (by omega) ⟨fun d d0 d1 d2 d3 d4 => ?_, fun y y0 y1 hy => ?_⟩ (fun b b0 b1' => by rw [z4 b b0 b1', hfr b b0 b1'])
        · by_cases e : d = c
          · rw [e, c2]
            refine ⟨by rw [z3, if_pos rfl], fun x x0 x1 => ?_⟩
            rw [z2, if_pos (by omega), show k + (pkE (Mc 54) (Mc 59) (Mc 60) k + x - pkE (Mc 54) (Mc 59) (Mc 60) k) = k + x by omega]
          · have hdk : Mc 59 d < k := by
              rcases (by omega : Mc 59 d < k ∨ Mc 59 d = k) with w | w
              · exact w
              · have := ho.1 d d0 d1 d2 k (by omega) (by omega)
                omega
            have hI1 := hI.1 d d0 d1 d2 d3 hdk
            have hh := pkE_hi ho hr (k := k) hk_k d0 d1 d2 d3 hdk
            refine ⟨by rw [z3, if_neg e]; exact hI1.1, fun x x0 x1 => ?_⟩
            rw [z2, if_neg (by omega)]
            exact hI1.2 x x0 x1
        · have hy1 := hy c hc.1 hc.2.1 hc.2.2 hkp (by omega)
          rw [c2] at hy1
          rw [z2, if_neg hy1]
          exact hI.2 y y0 y1 (fun d d0 d1 d2 d3 d4 => hy d d0 d1 d2 d3 (by omega))
      · rename_i c2
        exact hskip (by omega) (fun z => c2 z.2)
end PS
