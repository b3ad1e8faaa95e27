set_option maxRecDepth 100000 in
/-- X12_commit -/
theorem cd_235 : px_at 235 0 = some (1, [], .aload_n 0, []) ∧ px_at 235 1 = some (4, [], .getfield 7, [11, 0, 2, 1, 125]) ∧ px_at 235 4 = some (5, [], .iconst 1, []) ∧ px_at 235 5 = some (6, [], .iaload, []) ∧ px_at 235 6 = some (8, [], .bipush (-2), []) ∧ px_at 235 8 = some (11, [], .if_icmp .ne 7, [15]) ∧ px_at 235 11 = some (12, [], .iconst (-1), []) ∧ px_at 235 12 = some (15, [], .goto 13, [25]) ∧ px_at 235 15 = some (16, [], .aload_n 0, []) ∧ px_at 235 16 = some (17, [], .aload_n 0, []) ∧ px_at 235 17 = some (20, [], .getfield 7, [11, 0, 2, 1, 125]) ∧ px_at 235 20 = some (21, [], .iconst 1, []) ∧ px_at 235 21 = some (22, [], .iaload, []) ∧ px_at 235 22 = some (25, [], .invokevirtual 267, [208, 1, 11, 250]) ∧ px_at 235 25 = some (26, [], .istore_n 1, []) ∧ px_at 235 26 = some (27, [], .iload_n 1, []) ∧ px_at 235 27 = some (28, [], .iconst (-1), []) ∧ px_at 235 28 = some (31, [], .if_icmp .eq 25, [53]) ∧ px_at 235 31 = some (32, [], .aload_n 0, []) ∧ px_at 235 32 = some (35, [], .getfield 7, [11, 0, 2, 1, 125]) ∧ px_at 235 35 = some (36, [], .iconst 2, []) ∧ px_at 235 36 = some (37, [], .iaload, []) ∧ px_at 235 37 = some (39, [], .bipush (-2), []) ∧ px_at 235 39 = some (42, [], .if_icmp .ne 14, [53]) ∧ px_at 235 42 = some (43, [], .aload_n 0, []) ∧ px_at 235 43 = some (44, [], .iload_n 1, []) ∧ px_at 235 44 = some (47, [], .invokevirtual 270, [234, 1, 11, 252]) ∧ px_at 235 47 = some (50, [], .ifCond .eq 6, [53]) ∧ px_at 235 50 = some (52, [], .bipush (-2), []) ∧ px_at 235 52 = some (53, [], .ireturn, [0]) ∧ px_at 235 53 = some (54, [], .aload_n 0, []) ∧ px_at 235 54 = some (57, [], .getfield 7, [11, 0, 2, 1, 125]) ∧ px_at 235 57 = some (58, [], .iconst 5, []) ∧ px_at 235 58 = some (59, [], .iaload, []) ∧ px_at 235 59 = some (61, [], .bipush 10, []) ∧ px_at 235 61 = some (64, [], .if_icmp .eq 14, [75]) ∧ px_at 235 64 = some (65, [], .aload_n 0, []) ∧ px_at 235 65 = some (68, [], .getfield 7, [11, 0, 2, 1, 125]) ∧ px_at 235 68 = some (69, [], .iconst 3, []) ∧ px_at 235 69 = some (70, [], .iaload, []) ∧ px_at 235 70 = some (72, [], .bipush 99, []) ∧ px_at 235 72 = some (75, [], .if_icmp .le 6, [78]) ∧ px_at 235 75 = some (77, [], .bipush (-3), []) ∧ px_at 235 77 = some (78, [], .ireturn, [0]) ∧ px_at 235 78 = some (79, [], .aload_n 0, []) ∧ px_at 235 79 = some (82, [], .invokevirtual 273, [175, 0, 11, 264]) ∧ px_at 235 82 = some (83, [], .aload_n 0, []) ∧ px_at 235 83 = some (86, [], .getfield 7, [11, 0, 2, 1, 125]) ∧ px_at 235 86 = some (87, [], .iconst 5, []) ∧ px_at 235 87 = some (88, [], .iaload, []) ∧ px_at 235 88 = some (89, [], .istore_n 2, []) ∧ px_at 235 89 = some (90, [], .aload_n 0, []) ∧ px_at 235 90 = some (91, [], .iload_n 2, []) ∧ px_at 235 91 = some (94, [], .invokevirtual 174, [204, 1, 11, 251]) ∧ px_at 235 94 = some (95, [], .istore_n 3, []) ∧ px_at 235 95 = some (96, [], .iconst 0, []) ∧ px_at 235 96 = some (98, [], .istore 4, []) ∧ px_at 235 98 = some (100, [1, 0, 1, 1, 1, 0], .iload 4, []) ∧ px_at 235 100 = some (103, [], .sipush 186, []) ∧ px_at 235 103 = some (106, [], .if_icmp .ge 19, [122]) ∧ px_at 235 106 = some (107, [], .aload_n 0, []) ∧ px_at 235 107 = some (110, [], .getfield 7, [11, 0, 2, 1, 125]) ∧ px_at 235 110 = some (111, [], .iload_n 3, []) ∧ px_at 235 111 = some (113, [], .iload 4, []) ∧ px_at 235 113 = some (114, [], .iadd, []) ∧ px_at 235 114 = some (115, [], .iconst 0, []) ∧ px_at 235 115 = some (116, [], .iastore, []) ∧ px_at 235 116 = some (119, [], .iinc 4 1, []) ∧ px_at 235 119 = some (122, [], .goto (-21), [98]) ∧ px_at 235 122 = some (123, [], .iconst 0, []) ∧ px_at 235 123 = some (125, [], .istore 4, []) ∧ px_at 235 125 = some (127, [1, 0, 1, 1, 1, 0], .iload 4, []) ∧ px_at 235 127 = some (128, [], .aload_n 0, []) ∧ px_at 235 128 = some (131, [], .getfield 7, [11, 0, 2, 1, 125]) ∧ px_at 235 131 = some (132, [], .iconst 0, []) ∧ px_at 235 132 = some (133, [], .iaload, []) ∧ px_at 235 133 = some (136, [], .if_icmp .ge 87, [220]) ∧ px_at 235 136 = some (137, [], .aload_n 0, []) ∧ px_at 235 137 = some (139, [], .iload 4, []) ∧ px_at 235 139 = some (142, [], .invokevirtual 264, [221, 1, 11, 255]) ∧ px_at 235 142 = some (143, [], .aload_n 0, []) ∧ px_at 235 143 = some (146, [], .invokevirtual 276, [199, 0, 11, 265]) ∧ px_at 235 146 = some (148, [], .istore 5, []) ∧ px_at 235 148 = some (150, [], .iload 5, []) ∧ px_at 235 150 = some (151, [], .iconst (-1), []) ∧ px_at 235 151 = some (154, [], .if_icmp .ne 9, [160]) ∧ px_at 235 154 = some (155, [], .aload_n 0, []) ∧ px_at 235 155 = some (158, [], .invokevirtual 280, [203, 0, 11, 266]) ∧ px_at 235 158 = some (160, [], .istore 5, []) ∧ px_at 235 160 = some (162, [], .iload 5, []) ∧ px_at 235 162 = some (163, [], .iconst (-1), []) ∧ px_at 235 163 = some (166, [], .if_icmp .ne 10, [173]) ∧ px_at 235 166 = some (167, [], .aload_n 0, []) ∧ px_at 235 167 = some (170, [], .invokevirtual 283, [176, 0, 11, 275]) ∧ px_at 235 170 = some (172, [], .bipush (-4), []) ∧ px_at 235 172 = some (173, [], .ireturn, [0]) ∧ px_at 235 173 = some (174, [], .aload_n 0, []) ∧ px_at 235 174 = some (177, [], .getfield 7, [11, 0, 2, 1, 125]) ∧ px_at 235 177 = some (178, [], .aload_n 0, []) ∧ px_at 235 178 = some (180, [], .iload 4, []) ∧ px_at 235 180 = some (183, [], .invokevirtual 196, [214, 1, 11, 229]) ∧ px_at 235 183 = some (184, [], .aload_n 0, []) ∧ px_at 235 184 = some (187, [], .getfield 7, [11, 0, 2, 1, 125]) ∧ px_at 235 187 = some (188, [], .aload_n 0, []) ∧ px_at 235 188 = some (189, [], .iload_n 2, []) ∧ px_at 235 189 = some (191, [], .iload 4, []) ∧ px_at 235 191 = some (194, [], .invokevirtual 177, [205, 2, 11, 254]) ∧ px_at 235 194 = some (197, [], .invokestatic 203, [185, 4, 11, 236]) ∧ px_at 235 197 = some (198, [], .aload_n 0, []) ∧ px_at 235 198 = some (201, [], .getfield 7, [11, 0, 2, 1, 125]) ∧ px_at 235 201 = some (202, [], .aload_n 0, []) ∧ px_at 235 202 = some (203, [], .iload_n 2, []) ∧ px_at 235 203 = some (205, [], .iload 4, []) ∧ px_at 235 205 = some (208, [], .invokevirtual 177, [205, 2, 11, 254]) ∧ px_at 235 208 = some (210, [], .bipush 13, []) ∧ px_at 235 210 = some (211, [], .iadd, []) ∧ px_at 235 211 = some (213, [], .iload 5, []) ∧ px_at 235 213 = some (214, [], .iastore, []) ∧ px_at 235 214 = some (217, [], .iinc 4 1, []) ∧ px_at 235 217 = some (220, [], .goto (-92), [125]) ∧ px_at 235 220 = some (221, [], .aload_n 0, []) ∧ px_at 235 221 = some (224, [], .getfield 7, [11, 0, 2, 1, 125]) ∧ px_at 235 224 = some (225, [], .iload_n 3, []) ∧ px_at 235 225 = some (226, [], .iconst 0, []) ∧ px_at 235 226 = some (227, [], .iadd, []) ∧ px_at 235 227 = some (228, [], .aload_n 0, []) ∧ px_at 235 228 = some (231, [], .getfield 7, [11, 0, 2, 1, 125]) ∧ px_at 235 231 = some (232, [], .iconst 3, []) ∧ px_at 235 232 = some (233, [], .iaload, []) ∧ px_at 235 233 = some (234, [], .iastore, []) ∧ px_at 235 234 = some (235, [], .aload_n 0, []) ∧ px_at 235 235 = some (238, [], .getfield 7, [11, 0, 2, 1, 125]) ∧ px_at 235 238 = some (239, [], .iload_n 3, []) ∧ px_at 235 239 = some (240, [], .iconst 1, []) ∧ px_at 235 240 = some (241, [], .iadd, []) ∧ px_at 235 241 = some (242, [], .aload_n 0, []) ∧ px_at 235 242 = some (245, [], .getfield 7, [11, 0, 2, 1, 125]) ∧ px_at 235 245 = some (246, [], .iconst 1, []) ∧ px_at 235 246 = some (247, [], .iaload, []) ∧ px_at 235 247 = some (248, [], .iastore, []) ∧ px_at 235 248 = some (249, [], .aload_n 0, []) ∧ px_at 235 249 = some (252, [], .getfield 7, [11, 0, 2, 1, 125]) ∧ px_at 235 252 = some (253, [], .iload_n 3, []) ∧ px_at 235 253 = some (254, [], .iconst 2, []) ∧ px_at 235 254 = some (255, [], .iadd, []) ∧ px_at 235 255 = some (256, [], .aload_n 0, []) ∧ px_at 235 256 = some (259, [], .getfield 7, [11, 0, 2, 1, 125]) ∧ px_at 235 259 = some (260, [], .iconst 2, []) ∧ px_at 235 260 = some (261, [], .iaload, []) ∧ px_at 235 261 = some (262, [], .iastore, []) ∧ px_at 235 262 = some (263, [], .aload_n 0, []) ∧ px_at 235 263 = some (266, [], .getfield 7, [11, 0, 2, 1, 125]) ∧ px_at 235 266 = some (267, [], .iload_n 3, []) ∧ px_at 235 267 = some (269, [], .bipush 17, []) ∧ px_at 235 269 = some (270, [], .iadd, []) ∧ px_at 235 270 = some (271, [], .aload_n 0, []) ∧ px_at 235 271 = some (274, [], .getfield 7, [11, 0, 2, 1, 125]) ∧ px_at 235 274 = some (275, [], .iconst 0, []) ∧ px_at 235 275 = some (276, [], .iaload, []) ∧ px_at 235 276 = some (277, [], .iastore, []) ∧ px_at 235 277 = some (278, [], .aload_n 0, []) ∧ px_at 235 278 = some (281, [], .getfield 7, [11, 0, 2, 1, 125]) ∧ px_at 235 281 = some (282, [], .iconst 5, []) ∧ px_at 235 282 = some (283, [], .iload_n 2, []) ∧ px_at 235 283 = some (284, [], .iconst 1, []) ∧ px_at 235 284 = some (285, [], .iadd, []) ∧ px_at 235 285 = some (286, [], .iastore, []) ∧ px_at 235 286 = some (287, [], .aload_n 0, []) ∧ px_at 235 287 = some (290, [], .getfield 7, [11, 0, 2, 1, 125]) ∧ px_at 235 290 = some (291, [], .iconst 3, []) ∧ px_at 235 291 = some (292, [], .aload_n 0, []) ∧ px_at 235 292 = some (295, [], .getfield 7, [11, 0, 2, 1, 125]) ∧ px_at 235 295 = some (296, [], .iconst 3, []) ∧ px_at 235 296 = some (297, [], .iaload, []) ∧ px_at 235 297 = some (298, [], .iconst 1, []) ∧ px_at 235 298 = some (299, [], .iadd, []) ∧ px_at 235 299 = some (300, [], .iastore, []) ∧ px_at 235 300 = some (301, [], .aload_n 0, []) ∧ px_at 235 301 = some (304, [], .getfield 7, [11, 0, 2, 1, 125]) ∧ px_at 235 304 = some (305, [], .iconst 1, []) ∧ px_at 235 305 = some (306, [], .aload_n 0, []) ∧ px_at 235 306 = some (309, [], .getfield 7, [11, 0, 2, 1, 125]) ∧ px_at 235 309 = some (310, [], .iload_n 3, []) ∧ px_at 235 310 = some (311, [], .iconst 0, []) ∧ px_at 235 311 = some (312, [], .iadd, []) ∧ px_at 235 312 = some (313, [], .iaload, []) ∧ px_at 235 313 = some (314, [], .iastore, []) ∧ px_at 235 314 = some (315, [], .aload_n 0, []) ∧ px_at 235 315 = some (318, [], .getfield 7, [11, 0, 2, 1, 125]) ∧ px_at 235 318 = some (319, [], .iconst 2, []) ∧ px_at 235 319 = some (321, [], .bipush (-2), []) ∧ px_at 235 321 = some (322, [], .iastore, []) ∧ px_at 235 322 = some (323, [], .aload_n 0, []) ∧ px_at 235 323 = some (326, [], .getfield 7, [11, 0, 2, 1, 125]) ∧ px_at 235 326 = some (327, [], .iload_n 3, []) ∧ px_at 235 327 = some (328, [], .iconst 0, []) ∧ px_at 235 328 = some (329, [], .iadd, []) ∧ px_at 235 329 = some (330, [], .iaload, []) ∧ px_at 235 330 = some (331, [], .ireturn, [0]) := ⟨rfl, rfl, rfl, rfl, rfl, rfl, rfl, rfl, rfl, rfl, rfl, rfl, rfl, rfl, rfl, rfl, rfl, rfl, rfl, rfl, rfl, rfl, rfl, rfl, rfl, rfl, rfl, rfl, rfl, rfl, rfl, rfl, rfl, rfl, rfl, rfl, rfl, rfl, rfl, rfl, rfl, rfl, rfl, rfl, rfl, rfl, rfl, rfl, rfl, rfl, rfl, rfl, rfl, rfl, rfl, rfl, rfl, rfl, rfl, rfl, rfl, rfl, rfl, rfl, rfl, rfl, rfl, rfl, rfl, rfl, rfl, rfl, rfl, rfl, rfl, rfl, rfl, rfl, rfl, rfl, rfl, rfl, rfl, rfl, rfl, rfl, rfl, rfl, rfl, rfl, rfl, rfl, rfl, rfl, rfl, rfl, rfl, rfl, rfl, rfl, rfl, rfl, rfl, rfl, rfl, rfl, rfl, rfl, rfl, rfl, rfl, rfl, rfl, rfl, rfl, rfl, rfl, rfl, rfl, rfl, rfl, rfl, rfl, rfl, rfl, rfl, rfl, rfl, rfl, rfl, rfl, rfl, rfl, rfl, rfl, rfl, rfl, rfl, rfl, rfl, rfl, rfl, rfl, rfl, rfl, rfl, rfl, rfl, rfl, rfl, rfl, rfl, rfl, rfl, rfl, rfl, rfl, rfl, rfl, rfl, rfl, rfl, rfl, rfl, rfl, rfl, rfl, rfl, rfl, rfl, rfl, rfl, rfl, rfl, rfl, rfl, rfl, rfl, rfl, rfl, rfl, rfl, rfl, rfl, rfl, rfl, rfl, rfl, rfl, rfl, rfl, rfl, rfl, rfl, rfl, rfl, rfl, rfl, rfl⟩
/-! the reference: commit -/
/-- all cells of the link below the contents and of the editions, but for the one at slot n -/
def cmI (F F0 : Int → Int) (n : Int) : Prop := (∀ x, x < 654 → F x = F0 x) ∧ ∀ x, 1294 ≤ x → ¬ (1294 + 186 * n ≤ x ∧ x < 1294 + 186 * n + 186) → F x = F0 x
theorem cmI_refl (F : Int → Int) (n : Int) : cmI F F n := ⟨fun _ _ => rfl, fun _ _ _ => rfl⟩
theorem cmI_trans {A B C : Int → Int} {n : Int} (h : cmI A B n) (h2 : cmI B C n) : cmI A C n := ⟨fun x x0 => (h.1 x x0).trans (h2.1 x x0), fun x x0 x1 => (h.2 x x0 x1).trans (h2.2 x x0 x1)⟩
/-- the entries so far -/
def enI (F : Int → Int) (n k : Int) (g : Int → fe) (cc : Int → Int) : Prop := (∀ y, 0 ≤ y → y < 18 → F (1294 + 186 * n + y) = 0) ∧ ∀ j, 0 ≤ j → j < k → fp F (1294 + 186 * n + 18 + 14 * j) = (g j).1 ∧ pok F (1294 + 186 * n + 18 + 14 * j) 3154 ∧ F (1294 + 186 * n + 18 + 14 * j + 13) = cc j
/-- what a commit leaves alone of the rows -/
def frC (M' M : px_mem) : Prop := (∀ j, j ≠ 9 → j ≠ 14 → j ≠ 15 → j ≠ 16 → j ≠ 17 → M' 127 j = M 127 j) ∧ ∀ b, b ≠ 127 → b ≠ 128 → b ≠ 134 → b ≠ 135 → b ≠ 136 → b ≠ 137 → b ≠ 138 → b ≠ 139 → b ≠ 140 → M' b = M b
theorem frC_refl (M : px_mem) : frC M M := ⟨fun _ _ _ _ _ _ => rfl, fun _ _ _ _ _ _ _ _ _ _ => rfl⟩
theorem frC_trans {A B C : px_mem} (h : frC A B) (h2 : frC B C) : frC A C := ⟨fun j a b c d e => (h.1 j a b c d e).trans (h2.1 j a b c d e), fun b a0 a1 a2 a3 a4 a5 a6 a7 a8 => (h.2 b a0 a1 a2 a3 a4 a5 a6 a7 a8).trans (h2.2 b a0 a1 a2 a3 a4 a5 a6 a7 a8)⟩
theorem frE_C {A B : px_mem} (h : frE A B) : frC A B := ⟨fun j a b _ _ _ => h.1 j a b, fun b a0 _ a2 a3 a4 a5 _ _ _ => h.2 b a0 a2 a3 a4 a5⟩
theorem frk_C {A B : px_mem} (h : frk A B) : frC A B := ⟨fun j a _ c d e => h.1 j a c d e, fun b a0 a1 a2 a3 a4 _ a6 a7 a8 => h.2 b a0 a1 a2 a3 a4 a6 a7 a8⟩
theorem fr8_C {A B : px_mem} (h : ∀ b, b ≠ 128 → A b = B b) : frC A B := ⟨fun j _ _ _ _ _ => by rw [h 127 (by decide)], fun b _ a1 _ _ _ _ _ _ _ => h b a1⟩
theorem frC_out {A B : px_mem} (h : frC A B) : out A B := ⟨fun b b0 => h.2 b (by omega) (by omega) (by omega) (by omega) (by omega) (by omega) (by omega) (by omega) (by omega), h.2 130 (by decide) (by decide) (by decide) (by decide) (by decide) (by decide) (by decide) (by decide) (by decide), h.1 3 (by decide) (by decide) (by decide) (by decide) (by decide)⟩
theorem frC_129 {A B : px_mem} (h : frC A B) : A 129 = B 129 := h.2 129 (by decide) (by decide) (by decide) (by decide) (by decide) (by decide) (by decide) (by decide) (by decide)
theorem keptR_cm {F F' : Int → Int} {c n m b l p s : Int} {P : Int → Int} (h : keptR F F' c n m b l p P) : cmI F' F s := ⟨fun x x0 => h.2.2 x (by omega), fun x x0 _ => h.2.2 x (by omega)⟩
theorem knew_nofail {Mc Mc' : px_mem} {D : List Int} {c : Int} (hk : knew Mc Mc' D c) : ¬ kfail Mc D := by
  obtain ⟨bb, l, p, P, k1, k2, k3, k4, k5, k6, _⟩ := hk
  rintro (z | ⟨b2, l2, z1, z2⟩)
  · omega
  · have := isBB_uniq z1 k4
    rw [this.2] at z2
    omega
theorem upn {M : px_mem} {v j x i : Int} (h : i ≠ j) : px_up M v j x v i = M v i := by rw [px_up_at, if_neg (fun z => h z.2)]
theorem upe {M : px_mem} {v j x : Int} : px_up M v j x v j = x := by rw [px_up_at, if_pos ⟨rfl, rfl⟩]
section PS
variable {M : px_mem} {Q : Option pv → px_mem → Prop}
set_option maxHeartbeats 600000 in
set_option maxRecDepth 100000 in
theorem lp_cm1 {M0 : px_mem} {n a : Int} (hn : 0 ≤ n ∧ n < 10) (ha : a = 1294 + 186 * n) (hx : ∀ M', (∀ x, M' 128 x = if a ≤ x ∧ x < a + 186 then 0 else M0 128 x) → (∀ b, b ≠ 128 → M' b = M0 b) → px_WP 235 0 0 (px_Q0 LAY Q) 125 [(2, 127), (9, 0), (0, n), (0, a), (0, 0), (9, 0)] [] LAY M' 0 0) (k : Int) (hk_k : k ≤ 186) : ∀ (M : px_mem), 0 ≤ k → (∀ x, M 128 x = if a ≤ x ∧ x < a + k then 0 else M0 128 x) → (∀ b, b ≠ 128 → M b = M0 b) → px_WP 235 0 0 (px_Q0 LAY Q) 98 [(2, 127), (9, 0), (0, n), (0, a), (0, k), (9, 0)] [] LAY M 0 0 := by
  refine up_ind (P := fun k => ∀ (M : px_mem), 0 ≤ k → (∀ x, M 128 x = if a ≤ x ∧ x < a + k then 0 else M0 128 x) → (∀ b, b ≠ 128 → M b = M0 b) → px_WP 235 0 0 (px_Q0 LAY Q) 98 [(2, 127), (9, 0), (0, n), (0, a), (0, k), (9, 0)] [] LAY M 0 0) (186) (fun k hk_k ih => ?_) k hk_k
  intro M k0 hv hf
  refine px_go_ok (inl := []) 60 ?_
  simp only [px_go, px_Q0_at, px_sx_0, px_sx_s, px_cl, px_step, ↓px_ll, px_lg, f4_, ↓px_r1, ↓px_r2, ↓px_r4, ↓px_r5, ↓px_p1, ↓px_p2, ↓px_p3, ↓px_pop, px_k_0, px_k_s, px_k3_0, px_stk_, px_cats, px_ent, px_st1, px_st2, px_mask, ↓px_tsw, ↓px_lsw, ct_, mls_0, mls_1, mls_2, mls_3, mls_4, mls_5, kd_0, kd_1, kd_2, kd_3, ln_0, ln_1, ln_2, ln_3, gf_0, gf_1, gf_2, gf_3, gf_4, gf_7, gf_21, gf_63, dy_0, dy_1, dy_2, dy_3, dy_7, dy_21, px_brT, px_brF, true_and, and_true, and_false, false_and, and_self, true_implies, false_implies, or_true, true_or, or_false, false_or, eq_self, ne_eq, not_false_eq_true, not_true_eq_false, if_true, if_false, List.mem_cons, List.not_mem_nil, List.length_cons, List.length_nil, Nat.reduceEqDiff, Nat.reduceAdd, Nat.reduceSub, Nat.reduceLeDiff, Nat.reduceLT, Int.reduceEq, Int.reduceLT, Int.reduceLE, Int.reduceNeg, Int.reduceAdd, Int.reduceSub, Int.reduceToNat, ↓reduceIte, one_ne_zero_, zero_ne_one_, px_in32L, cd_235]
  repeat' (first | (with_reducible apply And.intro) | (with_reducible refine px_br_intro (fun _ => ?_) (fun _ => ?_)))
  all_goals (try (first | (unfold px_in32; omega) | omega))
  · rename_i c1
    rw [show k = 186 by omega] at hv
    exact hx M hv hf
  · rename_i c1
    refine ih (by omega) _ (by omega) (fun x => ?_) (fun b b0 => by rw [row_ne b0]; exact hf b b0)
    rw [px_up_at, hv x]
    by_cases q : x = a + k
    · rw [if_pos ⟨rfl, q⟩, if_pos (by omega)]
    · rw [if_neg (fun z => q z.2)]
      by_cases r : a ≤ x ∧ x < a + k
      · rw [if_pos r, if_pos (by omega)]
      · rw [if_neg r, if_neg (by omega)]
/-- an entry is written -/
theorem enI_next {F F1 F2 : Int → Int} {n k c : Int} {g : Int → fe} {cc : Int → Int} (hn : 0 ≤ n ∧ n < 10) (hk : 0 ≤ k ∧ k < 12) (h : enI F n k g cc) (hf : fR F k (g k)) (h1 : ∀ x, F1 x = if 1294 + 186 * n + 18 + 14 * k ≤ x ∧ x < 1294 + 186 * n + 18 + 14 * k + 13 then F (6 + 54 * k + (x - (1294 + 186 * n + 18 + 14 * k))) else F x) (h2 : ∀ x, F2 x = if x = 1294 + 186 * n + 18 + 14 * k + 13 then c else F1 x) (hc : cc k = c) : enI F2 n (k + 1) g cc ∧ cmI F2 F n ∧ ∀ x, 654 ≤ x → x < 1294 → F2 x = F x := by
  have e : ∀ x, ¬ (1294 + 186 * n + 18 + 14 * k ≤ x ∧ x < 1294 + 186 * n + 18 + 14 * k + 14) → F2 x = F x := fun x x0 => by
    rw [h2, if_neg (by omega), h1, if_neg (by omega)]
  refine ⟨⟨fun y y0 y1 => by rw [e _ (by omega)]; exact h.1 y y0 y1, fun j j0 j1 => ?_⟩, ⟨fun x x0 => e x (by omega), fun x x0 x1 => e x (by omega)⟩, fun x x0 x1 => e x (by omega)⟩
  by_cases q : j = k
  · rw [q]
    have he : ∀ y, 0 ≤ y → y < 13 → F2 (1294 + 186 * n + 18 + 14 * k + y) = F (6 + 54 * k + y) := fun y y0 y1 => by
      rw [h2, if_neg (by omega), h1, if_pos (by omega), show 6 + 54 * k + (1294 + 186 * n + 18 + 14 * k + y - (1294 + 186 * n + 18 + 14 * k)) = 6 + 54 * k + y by omega]
    refine ⟨?_, pok_congr he hf.2.2.1 (by omega), ?_⟩
    · rw [fp_congr he hf.2.2.1.2.2.1]; exact hf.2.2.2.1
    · rw [h2, if_pos rfl, hc]
  · have hj := h.2 j j0 (by omega)
    have he : ∀ y, 0 ≤ y → y < 13 → F2 (1294 + 186 * n + 18 + 14 * j + y) = F (1294 + 186 * n + 18 + 14 * j + y) := fun y y0 y1 => e _ (by omega)
    refine ⟨?_, pok_congr he hj.2.1 (by omega), ?_⟩
    · rw [fp_congr he hj.2.1.2.2.1]; exact hj.1
    · rw [e _ (by omega)]; exact hj.2.2
set_option maxHeartbeats 600000 in
set_option maxRecDepth 100000 in
theorem lp_cm2 {M0 : px_mem} {Ms : Nat → px_mem} {k : Nat} {N n a : Int} {g : Int → fe} (hn : 0 ≤ n ∧ n < 10) (ha : a = 1294 + 186 * n) (hst : sR (M0 128) N g) (hch : ∀ i : Nat, i < k → ∃ c, kst (Ms i) (Ms (i + 1)) (g (i : Int)).2 i c) (hkN : (k : Int) ≤ N) (hen0 : (k : Int) = N ∨ ((k : Int) < N ∧ kfl (Ms k) (g (k : Int)).2)) (h3 : 0 ≤ M0 128 3 ∧ M0 128 3 < 100) (hbs : ∀ x, 0 ≤ x → x < 3154 → M0 129 x = M0 128 x) (h0 : ∀ M', (k : Int) < N → (∀ x, 0 ≤ x → x < 3154 → M' 128 x = M0 128 x) → out M' M0 → Q (some (0, -4)) M') (h1 : ∀ M', (k : Int) = N → tieC (Ms k) (M' 128) → (∀ x, 4 ≤ x → x < 654 → x ≠ 5 → M' 128 x = M0 128 x) → M' 128 0 = N → M' 128 1 = M0 128 3 → M' 128 2 = -2 → M' 128 3 = M0 128 3 + 1 → M' 128 5 = n + 1 → (∀ x, 1294 ≤ x → ¬ (1294 + 186 * n ≤ x ∧ x < 1294 + 186 * n + 186) → M' 128 x = M0 128 x) → rE (M' 128) n 0 = M0 128 3 → rE (M' 128) n 1 = M0 128 1 → rE (M' 128) n 2 = M0 128 2 → rE (M' 128) n 3 = 0 → rE (M' 128) n 17 = N → (∀ y, 4 ≤ y → y < 17 → M' 128 (1294 + 186 * n + y) = 0) → (∀ j, 0 ≤ j → j < N → rpl (M' 128) n j = (g j).1 ∧ pok (M' 128) (1294 + 186 * n + 18 + 14 * j) 3154 ∧ rcf (M' 128) n j = Ms k 126 j) → out M' M0 → Q (some (0, M0 128 3)) M') (i : Int) (hk_i : i ≤ N) : ∀ (M : px_mem), 0 ≤ i → i ≤ (k : Int) → tieC (Ms i.toNat) (M 128) → enI (M 128) n i g (Ms i.toNat 126) → cmI (M 128) (M0 128) n → frC M M0 → px_WP 235 0 0 (px_Q0 LAY Q) 125 [(2, 127), (9, 0), (0, n), (0, a), (0, i), (9, 0)] [] LAY M 0 0 := by
  refine up_ind (P := fun i => ∀ (M : px_mem), 0 ≤ i → i ≤ (k : Int) → tieC (Ms i.toNat) (M 128) → enI (M 128) n i g (Ms i.toNat 126) → cmI (M 128) (M0 128) n → frC M M0 → px_WP 235 0 0 (px_Q0 LAY Q) 125 [(2, 127), (9, 0), (0, n), (0, a), (0, i), (9, 0)] [] LAY M 0 0) (N) (fun i hk_i ih => ?_) i hk_i
  intro M i0 hik hci hen hcm hfr
  have hF0 : M 128 0 = N := by rw [hcm.1 0 (by decide)]; exact hst.1
  have hF1 : M 128 1 = M0 128 1 := hcm.1 1 (by decide)
  have hF2 : M 128 2 = M0 128 2 := hcm.1 2 (by decide)
  have hF3 : M 128 3 = M0 128 3 := hcm.1 3 (by decide)
  have hF5 : M 128 5 = M0 128 5 := hcm.1 5 (by decide)
  have hn12 := hst.2.2.1
  have hstM : sR (M 128) N g := sR_frame hst (hcm.1 0 (by decide)) (fun x _ x1 => hcm.1 x x1)
  subst ha
  have hgo : i < N → ∀ (M2 : px_mem) (c : Int), i < (k : Int) → kst (Ms i.toNat) (Ms (i.toNat + 1)) (g i).2 i c → tieC (Ms (i.toNat + 1)) (M2 128) → cmI (M2 128) (M 128) n → enI (M2 128) n i g (Ms i.toNat 126) → frC M2 M → ∀ (M3 : px_mem), (∀ x, M3 128 x = if 1294 + 186 * n + 18 + 14 * i ≤ x ∧ x < 1294 + 186 * n + 18 + 14 * i + 13 then M2 128 (6 + 54 * i + (x - (1294 + 186 * n + 18 + 14 * i))) else M2 128 x) → (∀ b, b ≠ 128 → M3 b = M2 b) → px_WP 235 0 0 (px_Q0 LAY Q) 125 [(2, 127), (9, 0), (0, n), (0, 1294 + 186 * n), (0, i + 1), (9, 0)] [] LAY (px_up M3 128 (1294 + 186 * n + 18 + 14 * i + 13) c) 0 0 := fun q M2 c hik2 hk ht hc2 he2 hf2 M3 b1' b2 => by
    have hst2 : sR (M2 128) N g := sR_frame hstM (hc2.1 0 (by decide)) (fun x _ x1 => hc2.1 x x1)
    have hu : ∀ x, px_up M3 128 (1294 + 186 * n + 18 + 14 * i + 13) c 128 x = if x = 1294 + 186 * n + 18 + 14 * i + 13 then c else M3 128 x := fun x => by
      rw [px_up_at]
      by_cases z : x = 1294 + 186 * n + 18 + 14 * i + 13
      · rw [if_pos ⟨rfl, z⟩, if_pos z]
      · rw [if_neg (fun y => z y.2), if_neg z]
    have e126 : ∀ j, 0 ≤ j → j < i → Ms (i.toNat + 1) 126 j = Ms i.toNat 126 j := fun j j0 j1 => hk.2.1 j (by omega)
    have he3 : enI (M2 128) n i g (Ms (i.toNat + 1) 126) := ⟨he2.1, fun j j0 j1 => by rw [e126 j j0 j1]; exact he2.2 j j0 j1⟩
    obtain ⟨n1, n2, n3⟩ := enI_next hn ⟨i0, by omega⟩ he3 (hst2.2.2.2 i i0 q) b1' hu hk.1
    refine ih q _ (by omega) (by omega) ?_ ?_ ?_ ?_
    · rw [show (i + 1).toNat = i.toNat + 1 by omega]
      exact tieC_frame ht n3
    · rw [show (i + 1).toNat = i.toNat + 1 by omega]
      exact n1
    · exact cmI_trans n2 (cmI_trans hc2 hcm)
    · exact frC_trans (fr8_C (fun b b0 => by rw [row_ne b0, b2 b b0])) (frC_trans hf2 hfr)
  refine px_go_ok (inl := [214,205,204]) 200 ?_
  simp only [px_go, px_Q0_at, px_sx_0, px_sx_s, px_cl, px_step, ↓px_ll, px_lg, f4_, ↓px_r1, ↓px_r2, ↓px_r4, ↓px_r5, ↓px_p1, ↓px_p2, ↓px_p3, ↓px_pop, px_k_0, px_k_s, px_k3_0, px_stk_, px_cats, px_ent, px_st1, px_st2, px_mask, ↓px_tsw, ↓px_lsw, ct_, mls_0, mls_1, mls_2, mls_3, mls_4, mls_5, kd_0, kd_1, kd_2, kd_3, ln_0, ln_1, ln_2, ln_3, gf_0, gf_1, gf_2, gf_3, gf_4, gf_7, gf_21, gf_63, dy_0, dy_1, dy_2, dy_3, dy_7, dy_21, px_brT, px_brF, true_and, and_true, and_false, false_and, and_self, true_implies, false_implies, or_true, true_or, or_false, false_or, eq_self, ne_eq, not_false_eq_true, not_true_eq_false, if_true, if_false, List.mem_cons, List.not_mem_nil, List.length_cons, List.length_nil, Nat.reduceEqDiff, Nat.reduceAdd, Nat.reduceSub, Nat.reduceLeDiff, Nat.reduceLT, Int.reduceEq, Int.reduceLT, Int.reduceLE, Int.reduceNeg, Int.reduceAdd, Int.reduceSub, Int.reduceToNat, ↓reduceIte, one_ne_zero_, zero_ne_one_, px_in32L, cd_235, cd_214, cd_205, cd_204, hF0, hF1, hF2, hF3, hF5]
  repeat' (first | (with_reducible apply And.intro) | (with_reducible refine px_br_intro (fun _ => ?_) (fun _ => ?_)))
  all_goals (try (first | (unfold px_in32; omega) | omega))
  · unfold px_in32
    simp (disch := omega) only [upn, upe, hF3]
    omega
  · rename_i c1
    have eiN : i = N := by omega
    have ekN : (k : Int) = N := by omega
    have ek : k = i.toNat := by omega
    refine qe (t := 0) (h1 _ ekN ?_ (fun x x0 x1 x2 => ?_) ?_ ?_ ?_ ?_ ?_ (fun x x0 x1 => ?_) ?_ ?_ ?_ ?_ ?_ (fun y y0 y1 => ?_) (fun j j0 j1 => ?_) ?_) ?_
    · rw [ek]
      exact tieC_frame hci (fun x x0 x1 => by simp (disch := omega) only [upn])
    · simp (disch := omega) only [upn]
      exact hcm.1 x x1
    · simp (disch := omega) only [upn]
      exact hF0
    · simp (disch := omega) only [upn, upe]
    · simp (disch := omega) only [upn, upe]
    · simp (disch := omega) only [upn, upe]
      rw [hF3]
    · simp (disch := omega) only [upn, upe]
    · simp (disch := omega) only [upn]
      exact hcm.2 x x0 x1
    · unfold rE
      simp (disch := omega) only [upn, upe]
    · unfold rE
      simp (disch := omega) only [upn, upe]
      exact hF1
    · unfold rE
      simp (disch := omega) only [upn, upe]
      exact hF2
    · unfold rE
      simp (disch := omega) only [upn]
      exact hen.1 3 (by decide) (by decide)
    · unfold rE
      simp (disch := omega) only [upn, upe]
      exact hF0
    · simp (disch := omega) only [upn]
      exact hen.1 y (by omega) (by omega)
    · have hj := hen.2 j j0 (by omega)
      rw [ek]
      refine ⟨?_, pok_congr (fun y y0 y1 => ?_) hj.2.1 (by omega), ?_⟩
      · rw [← hj.1]
        exact fp_congr (fun y y0 y1 => by simp (disch := omega) only [upn]) hj.2.1.2.2.1
      · simp (disch := omega) only [upn]
      · unfold rcf
        simp (disch := omega) only [upn]
        exact hj.2.2
    · exact out_trans (out_128 (fun b b0 => by simp (disch := exact b0) only [row_ne])) (frC_out hfr)
    · simp (disch := omega) only [upn, upe]
  · rename_i c1
    refine sp_laysDueOf ⟨i0, by omega⟩ (hstM.2.2.2 i i0 (by omega)) (fun M1 a1 a2 => ?_)
    have g1 := frE_128 (frD_E a2)
    have f := hstM.2.2.2 i i0 (by omega)
    simp only [px_go, px_Q0_at, px_sx_0, px_sx_s, px_cl, px_step, ↓px_ll, px_lg, f4_, ↓px_r1, ↓px_r2, ↓px_r4, ↓px_r5, ↓px_p1, ↓px_p2, ↓px_p3, ↓px_pop, px_k_0, px_k_s, px_k3_0, px_stk_, px_cats, px_ent, px_st1, px_st2, px_mask, ↓px_tsw, ↓px_lsw, ct_, mls_0, mls_1, mls_2, mls_3, mls_4, mls_5, kd_0, kd_1, kd_2, kd_3, ln_0, ln_1, ln_2, ln_3, gf_0, gf_1, gf_2, gf_3, gf_4, gf_7, gf_21, gf_63, dy_0, dy_1, dy_2, dy_3, dy_7, dy_21, px_brT, px_brF, true_and, and_true, and_false, false_and, and_self, true_implies, false_implies, or_true, true_or, or_false, false_or, eq_self, ne_eq, not_false_eq_true, not_true_eq_false, if_true, if_false, List.mem_cons, List.not_mem_nil, List.length_cons, List.length_nil, Nat.reduceEqDiff, Nat.reduceAdd, Nat.reduceSub, Nat.reduceLeDiff, Nat.reduceLT, Int.reduceEq, Int.reduceLT, Int.reduceLE, Int.reduceNeg, Int.reduceAdd, Int.reduceSub, Int.reduceToNat, ↓reduceIte, one_ne_zero_, zero_ne_one_, px_in32L, cd_235, cd_214, cd_205, cd_204]
    refine sp_foundDue (dd := Ms i.toNat 62) (D := (g i).2) (by rw [g1]; exact tieC_rok hci) (by rw [g1]; exact tieC_rus hci) a1.2 a1.1 (fun M2 b1' => ?_)
    have g2 : M2 128 = M 128 := by rw [frd_128 b1', g1]
    rw [g1, tieC_fnd hci]
    have fr2 : frC M2 M := frC_trans (frE_C (frd_E b1')) (frE_C (frD_E a2))
    have hsp := fnd_spec 40 (isFb (Ms i.toNat) (g i).2)
    generalize hx : fnd 40 (isFb (Ms i.toNat) (g i).2) = x at *
    have hit : ((i.toNat : Nat) : Int) = i := Int.toNat_of_nonneg i0
    simp only [px_go, px_Q0_at, px_sx_0, px_sx_s, px_cl, px_step, ↓px_ll, px_lg, f4_, ↓px_r1, ↓px_r2, ↓px_r4, ↓px_r5, ↓px_p1, ↓px_p2, ↓px_p3, ↓px_pop, px_k_0, px_k_s, px_k3_0, px_stk_, px_cats, px_ent, px_st1, px_st2, px_mask, ↓px_tsw, ↓px_lsw, ct_, mls_0, mls_1, mls_2, mls_3, mls_4, mls_5, kd_0, kd_1, kd_2, kd_3, ln_0, ln_1, ln_2, ln_3, gf_0, gf_1, gf_2, gf_3, gf_4, gf_7, gf_21, gf_63, dy_0, dy_1, dy_2, dy_3, dy_7, dy_21, px_brT, px_brF, true_and, and_true, and_false, false_and, and_self, true_implies, false_implies, or_true, true_or, or_false, false_or, eq_self, ne_eq, not_false_eq_true, not_true_eq_false, if_true, if_false, List.mem_cons, List.not_mem_nil, List.length_cons, List.length_nil, Nat.reduceEqDiff, Nat.reduceAdd, Nat.reduceSub, Nat.reduceLeDiff, Nat.reduceLT, Int.reduceEq, Int.reduceLT, Int.reduceLE, Int.reduceNeg, Int.reduceAdd, Int.reduceSub, Int.reduceToNat, ↓reduceIte, one_ne_zero_, zero_ne_one_, px_in32L, cd_235, cd_214, cd_205, cd_204]
    refine px_br_intro (fun c2 => ?_) (fun c2 => ?_)
    · refine sp_keepsDue (dd := Ms i.toNat 62) (D := (g i).2) (by rw [g2]; exact tieC_rok hci) (by rw [g2]; exact tieC_rus hci) (by rw [b1'.2 137 (by decide) (by decide) (by decide) (by decide)]; exact a1.2) (by rw [b1'.1 14 (by decide)]; exact a1.1) f.2.2.2.2.2.1 f.2.2.2.2.2.2.2 (fun M3 d1 d2 => ?_) (fun M3 c b l p P d1 d2 d3 d4 d5 d6 d7 d8 d9 => ?_)
      · have hkf : kfail (Ms i.toNat) (g i).2 := by
          rw [g2] at d1
          rcases d1 with z | ⟨b, l, z1, z2⟩
          · exact Or.inl z
          · exact Or.inr ⟨b, l, tieC_best hci _ z1, by rw [← tieC_room hci]; exact z2⟩
        have hnk : ¬ i < (k : Int) := fun q => by
          obtain ⟨c, hc⟩ := hch i.toNat (by omega)
          rw [hit] at hc
          rcases hc.2.2.2.2 with z | z
          · have := hc.2.2.1; omega
          · exact knew_nofail z.2 hkf
        simp only [px_go, px_Q0_at, px_sx_0, px_sx_s, px_cl, px_step, ↓px_ll, px_lg, f4_, ↓px_r1, ↓px_r2, ↓px_r4, ↓px_r5, ↓px_p1, ↓px_p2, ↓px_p3, ↓px_pop, px_k_0, px_k_s, px_k3_0, px_stk_, px_cats, px_ent, px_st1, px_st2, px_mask, ↓px_tsw, ↓px_lsw, ct_, mls_0, mls_1, mls_2, mls_3, mls_4, mls_5, kd_0, kd_1, kd_2, kd_3, ln_0, ln_1, ln_2, ln_3, gf_0, gf_1, gf_2, gf_3, gf_4, gf_7, gf_21, gf_63, dy_0, dy_1, dy_2, dy_3, dy_7, dy_21, px_brT, px_brF, true_and, and_true, and_false, false_and, and_self, true_implies, false_implies, or_true, true_or, or_false, false_or, eq_self, ne_eq, not_false_eq_true, not_true_eq_false, if_true, if_false, List.mem_cons, List.not_mem_nil, List.length_cons, List.length_nil, Nat.reduceEqDiff, Nat.reduceAdd, Nat.reduceSub, Nat.reduceLeDiff, Nat.reduceLT, Int.reduceEq, Int.reduceLT, Int.reduceLE, Int.reduceNeg, Int.reduceAdd, Int.reduceSub, Int.reduceToNat, ↓reduceIte, one_ne_zero_, zero_ne_one_, px_in32L, cd_235, cd_214, cd_205, cd_204]
        refine sp_back (fun M4 e1 e2 => ?_)
        simp only [px_go, px_Q0_at, px_sx_0, px_sx_s, px_cl, px_step, ↓px_ll, px_lg, f4_, ↓px_r1, ↓px_r2, ↓px_r4, ↓px_r5, ↓px_p1, ↓px_p2, ↓px_p3, ↓px_pop, px_k_0, px_k_s, px_k3_0, px_stk_, px_cats, px_ent, px_st1, px_st2, px_mask, ↓px_tsw, ↓px_lsw, ct_, mls_0, mls_1, mls_2, mls_3, mls_4, mls_5, kd_0, kd_1, kd_2, kd_3, ln_0, ln_1, ln_2, ln_3, gf_0, gf_1, gf_2, gf_3, gf_4, gf_7, gf_21, gf_63, dy_0, dy_1, dy_2, dy_3, dy_7, dy_21, px_brT, px_brF, true_and, and_true, and_false, false_and, and_self, true_implies, false_implies, or_true, true_or, or_false, false_or, eq_self, ne_eq, not_false_eq_true, not_true_eq_false, if_true, if_false, List.mem_cons, List.not_mem_nil, List.length_cons, List.length_nil, Nat.reduceEqDiff, Nat.reduceAdd, Nat.reduceSub, Nat.reduceLeDiff, Nat.reduceLT, Int.reduceEq, Int.reduceLT, Int.reduceLE, Int.reduceNeg, Int.reduceAdd, Int.reduceSub, Int.reduceToNat, ↓reduceIte, one_ne_zero_, zero_ne_one_, px_in32L, cd_235, cd_214, cd_205, cd_204]
        have fr3 : frC M3 M0 := frC_trans (frk_C d2.2) (frC_trans fr2 hfr)
        exact h0 M4 (by omega) (fun x x0 x1 => by rw [e1 x x0 x1, frC_129 fr3]; exact hbs x x0 x1) (out_trans (out_128 e2) (frC_out fr3))
      · rw [g2] at d4 d5 d7 d8
        have hb := tieC_best hci _ d4
        rw [tieC_room hci] at d5
        rw [tieC_bst hci hb] at d7
        have hik2 : i < (k : Int) := by
          rcases hen0 with z | z
          · omega
          · have : i ≠ (k : Int) := fun q => by
              have hkf := z.2.2
              rw [← q, show k = i.toNat by omega] at hkf
              rcases hkf with y | ⟨b2, l2, y1, y2⟩
              · omega
              · have := isBB_uniq y1 hb
                rw [this.2] at y2
                omega
            omega
        obtain ⟨c', hc'⟩ := hch i.toNat (by omega)
        rw [hit] at hc'
        have hkn : knew (Ms i.toNat) (Ms (i.toNat + 1)) (g i).2 c' := by
          rcases hc'.2.2.2.2 with z | z
          · have := hc'.2.2.1; omega
          · exact z.2
        obtain ⟨t1, t2⟩ := tieC_new hci hkn d1 hb d5 d7 d8
        have e8 := keptR_cm (s := n) d8
        have en8 : enI (M3 128) n i g (Ms i.toNat 126) := ⟨fun y y0 y1 => by rw [d8.2.2 _ (by omega)]; exact hen.1 y y0 y1, fun j j0 j1 => by
          have hj := hen.2 j j0 j1
          have he : ∀ y, 0 ≤ y → y < 14 → M3 128 (1294 + 186 * n + 18 + 14 * j + y) = M 128 (1294 + 186 * n + 18 + 14 * j + y) := fun y y0 y1 => d8.2.2 _ (by omega)
          refine ⟨?_, pok_congr (fun y y0 y1 => he y y0 (by omega)) hj.2.1 (by omega), ?_⟩
          · rw [fp_congr (fun y y0 y1 => he y y0 (by omega)) hj.2.1.2.2.1]; exact hj.1
          · rw [he 13 (by decide) (by decide)]; exact hj.2.2⟩
        simp only [px_go, px_Q0_at, px_sx_0, px_sx_s, px_cl, px_step, ↓px_ll, px_lg, f4_, ↓px_r1, ↓px_r2, ↓px_r4, ↓px_r5, ↓px_p1, ↓px_p2, ↓px_p3, ↓px_pop, px_k_0, px_k_s, px_k3_0, px_stk_, px_cats, px_ent, px_st1, px_st2, px_mask, ↓px_tsw, ↓px_lsw, ct_, mls_0, mls_1, mls_2, mls_3, mls_4, mls_5, kd_0, kd_1, kd_2, kd_3, ln_0, ln_1, ln_2, ln_3, gf_0, gf_1, gf_2, gf_3, gf_4, gf_7, gf_21, gf_63, dy_0, dy_1, dy_2, dy_3, dy_7, dy_21, px_brT, px_brF, true_and, and_true, and_false, false_and, and_self, true_implies, false_implies, or_true, true_or, or_false, false_or, eq_self, ne_eq, not_false_eq_true, not_true_eq_false, if_true, if_false, List.mem_cons, List.not_mem_nil, List.length_cons, List.length_nil, Nat.reduceEqDiff, Nat.reduceAdd, Nat.reduceSub, Nat.reduceLeDiff, Nat.reduceLT, Int.reduceEq, Int.reduceLT, Int.reduceLE, Int.reduceNeg, Int.reduceAdd, Int.reduceSub, Int.reduceToNat, ↓reduceIte, one_ne_zero_, zero_ne_one_, px_in32L, cd_235, cd_214, cd_205, cd_204]
        refine px_br_intro (fun c3 => by omega) (fun c3 => ?_)
        repeat' (first | (with_reducible apply And.intro) | (with_reducible refine px_br_intro (fun _ => ?_) (fun _ => ?_)))
        all_goals (try (first | (unfold px_in32; omega) | omega))
        refine sp_copiesPath rfl rfl ⟨by omega, by rw [show px_ln LAY 128 = 3154 from rfl]; omega⟩ ⟨by omega, by rw [show px_ln LAY 128 = 3154 from rfl]; omega⟩ ⟨by decide, by decide⟩ (by omega) (fun M4 e1 e2 => ?_)
        simp only [px_go, px_Q0_at, px_sx_0, px_sx_s, px_cl, px_step, ↓px_ll, px_lg, f4_, ↓px_r1, ↓px_r2, ↓px_r4, ↓px_r5, ↓px_p1, ↓px_p2, ↓px_p3, ↓px_pop, px_k_0, px_k_s, px_k3_0, px_stk_, px_cats, px_ent, px_st1, px_st2, px_mask, ↓px_tsw, ↓px_lsw, ct_, mls_0, mls_1, mls_2, mls_3, mls_4, mls_5, kd_0, kd_1, kd_2, kd_3, ln_0, ln_1, ln_2, ln_3, gf_0, gf_1, gf_2, gf_3, gf_4, gf_7, gf_21, gf_63, dy_0, dy_1, dy_2, dy_3, dy_7, dy_21, px_brT, px_brF, true_and, and_true, and_false, false_and, and_self, true_implies, false_implies, or_true, true_or, or_false, false_or, eq_self, ne_eq, not_false_eq_true, not_true_eq_false, if_true, if_false, List.mem_cons, List.not_mem_nil, List.length_cons, List.length_nil, Nat.reduceEqDiff, Nat.reduceAdd, Nat.reduceSub, Nat.reduceLeDiff, Nat.reduceLT, Int.reduceEq, Int.reduceLT, Int.reduceLE, Int.reduceNeg, Int.reduceAdd, Int.reduceSub, Int.reduceToNat, ↓reduceIte, one_ne_zero_, zero_ne_one_, px_in32L, cd_235, cd_205, cd_204, cd_214]
        repeat' (first | (with_reducible apply And.intro) | (with_reducible refine px_br_intro (fun _ => ?_) (fun _ => ?_)))
        all_goals (try (first | (unfold px_in32; omega) | omega))
        rw [t2]
        exact hgo (by omega) M3 c' hik2 hc' t1 e8 en8 (frC_trans (frk_C d9) fr2) M4 e1 e2
    · have hik2 : i < (k : Int) := by
        rcases hen0 with z | z
        · omega
        · have : i ≠ (k : Int) := fun q => by
            have hkf := z.2.1
            rw [← q, show k = i.toNat by omega, hx] at hkf
            exact c2 hkf
          omega
      obtain ⟨c', hc'⟩ := hch i.toNat (by omega)
      rw [hit] at hc'
      unfold kst at hc'
      rw [hx] at hc'
      have hkn : x = c' ∧ ∀ y, y ≠ 126 → Ms (i.toNat + 1) y = Ms i.toNat y := by
        rcases hc'.2.2.2.2 with z | z
        · exact z
        · exact absurd z.1 c2
      refine px_br_intro (fun c3 => absurd c3 c2) (fun c3 => ?_)
      repeat' (first | (with_reducible apply And.intro) | (with_reducible refine px_br_intro (fun _ => ?_) (fun _ => ?_)))
      all_goals (try (first | (unfold px_in32; omega) | omega))
      refine sp_copiesPath rfl rfl ⟨by omega, by rw [show px_ln LAY 128 = 3154 from rfl]; omega⟩ ⟨by omega, by rw [show px_ln LAY 128 = 3154 from rfl]; omega⟩ ⟨by decide, by decide⟩ (by omega) (fun M4 e1 e2 => ?_)
      simp only [px_go, px_Q0_at, px_sx_0, px_sx_s, px_cl, px_step, ↓px_ll, px_lg, f4_, ↓px_r1, ↓px_r2, ↓px_r4, ↓px_r5, ↓px_p1, ↓px_p2, ↓px_p3, ↓px_pop, px_k_0, px_k_s, px_k3_0, px_stk_, px_cats, px_ent, px_st1, px_st2, px_mask, ↓px_tsw, ↓px_lsw, ct_, mls_0, mls_1, mls_2, mls_3, mls_4, mls_5, kd_0, kd_1, kd_2, kd_3, ln_0, ln_1, ln_2, ln_3, gf_0, gf_1, gf_2, gf_3, gf_4, gf_7, gf_21, gf_63, dy_0, dy_1, dy_2, dy_3, dy_7, dy_21, px_brT, px_brF, true_and, and_true, and_false, false_and, and_self, true_implies, false_implies, or_true, true_or, or_false, false_or, eq_self, ne_eq, not_false_eq_true, not_true_eq_false, if_true, if_false, List.mem_cons, List.not_mem_nil, List.length_cons, List.length_nil, Nat.reduceEqDiff, Nat.reduceAdd, Nat.reduceSub, Nat.reduceLeDiff, Nat.reduceLT, Int.reduceEq, Int.reduceLT, Int.reduceLE, Int.reduceNeg, Int.reduceAdd, Int.reduceSub, Int.reduceToNat, ↓reduceIte, one_ne_zero_, zero_ne_one_, px_in32L, cd_235, cd_205, cd_204, cd_214]
      repeat' (first | (with_reducible apply And.intro) | (with_reducible refine px_br_intro (fun _ => ?_) (fun _ => ?_)))
      all_goals (try (first | (unfold px_in32; omega) | omega))
      rw [hkn.1]
      have hc2 : kst (Ms i.toNat) (Ms (i.toNat + 1)) (g i).2 i c' := by unfold kst; rw [hx]; exact hc'
      exact hgo (by omega) M2 c' hik2 hc2 (by rw [g2]; exact tieC_same hci (fun b b0 b1 _ => hkn.2 b (by omega))) (by rw [g2]; exact cmI_refl _ _) (by rw [g2]; exact hen) fr2 M4 e1 e2
end PS
