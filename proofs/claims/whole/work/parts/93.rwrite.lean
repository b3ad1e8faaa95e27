set_option maxRecDepth 100000 in
/-- X12_write -/
theorem cd_223 : px_at 223 0 = some (1, [], .aload_n 0, []) ∧ px_at 223 1 = some (2, [], .iload_n 1, []) ∧ px_at 223 2 = some (3, [], .iload_n 2, []) ∧ px_at 223 3 = some (6, [], .invokevirtual 207, [222, 2, 11, 222]) ∧ px_at 223 6 = some (9, [], .ifCond .ne 5, [11]) ∧ px_at 223 9 = some (10, [], .iconst (-1), []) ∧ px_at 223 10 = some (11, [], .ireturn, [0]) ∧ px_at 223 11 = some (12, [], .aload_n 0, []) ∧ px_at 223 12 = some (13, [], .iconst 0, []) ∧ px_at 223 13 = some (16, [], .putfield 84, [11, 3, 0, 0, 128]) ∧ px_at 223 16 = some (17, [], .aload_n 0, []) ∧ px_at 223 17 = some (18, [], .iconst 0, []) ∧ px_at 223 18 = some (19, [], .iload_n 1, []) ∧ px_at 223 19 = some (20, [], .aload_n 0, []) ∧ px_at 223 20 = some (23, [], .getfield 20, [11, 4, 2, 1, 129]) ∧ px_at 223 23 = some (26, [], .invokevirtual 210, [179, 3, 11, 224]) ∧ px_at 223 26 = some (27, [], .aload_n 0, []) ∧ px_at 223 27 = some (28, [], .iload_n 1, []) ∧ px_at 223 28 = some (29, [], .iload_n 2, []) ∧ px_at 223 29 = some (32, [], .invokevirtual 214, [220, 2, 11, 225]) ∧ px_at 223 32 = some (33, [], .aload_n 0, []) ∧ px_at 223 33 = some (36, [], .getfield 20, [11, 4, 2, 1, 129]) ∧ px_at 223 36 = some (39, [], .invokestatic 217, [181, 1, 11, 226]) ∧ px_at 223 39 = some (42, [], .ifCond .ne 6, [45]) ∧ px_at 223 42 = some (44, [], .bipush (-2), []) ∧ px_at 223 44 = some (45, [], .ireturn, [0]) ∧ px_at 223 45 = some (46, [], .aload_n 0, []) ∧ px_at 223 46 = some (47, [], .aload_n 0, []) ∧ px_at 223 47 = some (50, [], .getfield 20, [11, 4, 2, 1, 129]) ∧ px_at 223 50 = some (51, [], .iconst 0, []) ∧ px_at 223 51 = some (54, [], .invokevirtual 221, [216, 2, 11, 228]) ∧ px_at 223 54 = some (55, [], .istore_n 3, []) ∧ px_at 223 55 = some (56, [], .iconst 0, []) ∧ px_at 223 56 = some (58, [], .istore 4, []) ∧ px_at 223 58 = some (60, [1, 0, 0, 1, 1], .iload 4, []) ∧ px_at 223 60 = some (61, [], .aload_n 0, []) ∧ px_at 223 61 = some (64, [], .getfield 7, [11, 0, 2, 1, 125]) ∧ px_at 223 64 = some (65, [], .iconst 0, []) ∧ px_at 223 65 = some (66, [], .iaload, []) ∧ px_at 223 66 = some (69, [], .if_icmp .ge 39, [105]) ∧ px_at 223 69 = some (71, [], .iload 4, []) ∧ px_at 223 71 = some (72, [], .iload_n 3, []) ∧ px_at 223 72 = some (75, [], .if_icmp .eq 27, [99]) ∧ px_at 223 75 = some (76, [], .aload_n 0, []) ∧ px_at 223 76 = some (79, [], .getfield 7, [11, 0, 2, 1, 125]) ∧ px_at 223 79 = some (80, [], .aload_n 0, []) ∧ px_at 223 80 = some (82, [], .iload 4, []) ∧ px_at 223 82 = some (85, [], .invokevirtual 196, [214, 1, 11, 229]) ∧ px_at 223 85 = some (86, [], .aload_n 0, []) ∧ px_at 223 86 = some (89, [], .getfield 20, [11, 4, 2, 1, 129]) ∧ px_at 223 89 = some (90, [], .iconst 0, []) ∧ px_at 223 90 = some (93, [], .invokestatic 225, [184, 4, 11, 232]) ∧ px_at 223 93 = some (96, [], .ifCond .eq 6, [99]) ∧ px_at 223 96 = some (98, [], .bipush (-3), []) ∧ px_at 223 98 = some (99, [], .ireturn, [0]) ∧ px_at 223 99 = some (102, [], .iinc 4 1, []) ∧ px_at 223 102 = some (105, [], .goto (-44), [58]) ∧ px_at 223 105 = some (106, [], .iload_n 3, []) ∧ px_at 223 106 = some (107, [], .iconst (-1), []) ∧ px_at 223 107 = some (110, [], .if_icmp .ne 17, [124]) ∧ px_at 223 110 = some (111, [], .aload_n 0, []) ∧ px_at 223 111 = some (114, [], .getfield 7, [11, 0, 2, 1, 125]) ∧ px_at 223 114 = some (115, [], .iconst 0, []) ∧ px_at 223 115 = some (116, [], .iaload, []) ∧ px_at 223 116 = some (118, [], .bipush 12, []) ∧ px_at 223 118 = some (121, [], .if_icmp .ne 6, [124]) ∧ px_at 223 121 = some (123, [], .bipush (-4), []) ∧ px_at 223 123 = some (124, [], .ireturn, [0]) ∧ px_at 223 124 = some (125, [], .iload_n 3, []) ∧ px_at 223 125 = some (126, [], .iconst (-1), []) ∧ px_at 223 126 = some (129, [], .if_icmp .ne 13, [139]) ∧ px_at 223 129 = some (130, [], .aload_n 0, []) ∧ px_at 223 130 = some (131, [], .aload_n 0, []) ∧ px_at 223 131 = some (134, [], .getfield 20, [11, 4, 2, 1, 129]) ∧ px_at 223 134 = some (135, [], .iconst 0, []) ∧ px_at 223 135 = some (138, [], .invokevirtual 228, [217, 2, 11, 234]) ∧ px_at 223 138 = some (139, [], .istore_n 3, []) ∧ px_at 223 139 = some (140, [], .aload_n 0, []) ∧ px_at 223 140 = some (141, [], .iload_n 3, []) ∧ px_at 223 141 = some (142, [], .aload_n 0, []) ∧ px_at 223 142 = some (145, [], .getfield 38, [11, 11, 2, 1, 136]) ∧ px_at 223 145 = some (146, [], .aload_n 0, []) ∧ px_at 223 146 = some (149, [], .getfield 129, [11, 14, 0, 0, 139]) ∧ px_at 223 149 = some (152, [], .invokevirtual 231, [219, 3, 11, 237]) ∧ px_at 223 152 = some (153, [], .aload_n 0, []) ∧ px_at 223 153 = some (156, [], .getfield 7, [11, 0, 2, 1, 125]) ∧ px_at 223 156 = some (157, [], .iconst 0, []) ∧ px_at 223 157 = some (158, [], .iaload, []) ∧ px_at 223 158 = some (159, [], .ireturn, [0]) := ⟨rfl, rfl, rfl, rfl, rfl, rfl, rfl, rfl, rfl, rfl, rfl, rfl, rfl, rfl, rfl, rfl, rfl, rfl, rfl, rfl, rfl, rfl, rfl, rfl, rfl, rfl, rfl, rfl, rfl, rfl, rfl, rfl, rfl, rfl, rfl, rfl, rfl, rfl, rfl, rfl, rfl, rfl, rfl, rfl, rfl, rfl, rfl, rfl, rfl, rfl, rfl, rfl, rfl, rfl, rfl, rfl, rfl, rfl, rfl, rfl, rfl, rfl, rfl, rfl, rfl, rfl, rfl, rfl, rfl, rfl, rfl, rfl, rfl, rfl, rfl, rfl, rfl, rfl, rfl, rfl, rfl, rfl, rfl, rfl, rfl, rfl, rfl, rfl, rfl⟩
set_option maxRecDepth 100000 in
/-- X12_remove -/
theorem cd_226 : px_at 226 0 = some (1, [], .aload_n 0, []) ∧ px_at 226 1 = some (2, [], .iload_n 1, []) ∧ px_at 226 2 = some (3, [], .iconst 0, []) ∧ px_at 226 3 = some (6, [], .invokevirtual 207, [222, 2, 11, 222]) ∧ px_at 226 6 = some (9, [], .ifCond .ne 5, [11]) ∧ px_at 226 9 = some (10, [], .iconst (-1), []) ∧ px_at 226 10 = some (11, [], .ireturn, [0]) ∧ px_at 226 11 = some (12, [], .aload_n 0, []) ∧ px_at 226 12 = some (13, [], .iconst 0, []) ∧ px_at 226 13 = some (16, [], .putfield 84, [11, 3, 0, 0, 128]) ∧ px_at 226 16 = some (17, [], .aload_n 0, []) ∧ px_at 226 17 = some (18, [], .iconst 0, []) ∧ px_at 226 18 = some (19, [], .iload_n 1, []) ∧ px_at 226 19 = some (20, [], .aload_n 0, []) ∧ px_at 226 20 = some (23, [], .getfield 20, [11, 4, 2, 1, 129]) ∧ px_at 226 23 = some (26, [], .invokevirtual 210, [179, 3, 11, 224]) ∧ px_at 226 26 = some (27, [], .aload_n 0, []) ∧ px_at 226 27 = some (30, [], .getfield 20, [11, 4, 2, 1, 129]) ∧ px_at 226 30 = some (33, [], .invokestatic 217, [181, 1, 11, 226]) ∧ px_at 226 33 = some (36, [], .ifCond .ne 6, [39]) ∧ px_at 226 36 = some (38, [], .bipush (-2), []) ∧ px_at 226 38 = some (39, [], .ireturn, [0]) ∧ px_at 226 39 = some (40, [], .aload_n 0, []) ∧ px_at 226 40 = some (41, [], .aload_n 0, []) ∧ px_at 226 41 = some (44, [], .getfield 20, [11, 4, 2, 1, 129]) ∧ px_at 226 44 = some (47, [], .invokevirtual 238, [225, 1, 11, 239]) ∧ px_at 226 47 = some (48, [], .istore_n 2, []) ∧ px_at 226 48 = some (49, [], .iload_n 2, []) ∧ px_at 226 49 = some (52, [], .ifCond .ne 8, [57]) ∧ px_at 226 52 = some (54, [], .bipush (-3), []) ∧ px_at 226 54 = some (57, [], .goto 4, [58]) ∧ px_at 226 57 = some (58, [], .iload_n 2, []) ∧ px_at 226 58 = some (59, [], .ireturn, [0]) := ⟨rfl, rfl, rfl, rfl, rfl, rfl, rfl, rfl, rfl, rfl, rfl, rfl, rfl, rfl, rfl, rfl, rfl, rfl, rfl, rfl, rfl, rfl, rfl, rfl, rfl, rfl, rfl, rfl, rfl, rfl, rfl, rfl, rfl⟩
/-! the reference: write, remove -/
/-- a row holds a path, or what might be one -/
def pth (M : px_mem) (v : Int) (l : List Int) : Prop := M v 0 = (l.length : Int) ∧ fp (M v) 0 = l ∧ pok (M v) 0 13
theorem isP_ok2 {l : List Int} (h : isP l) (hl : l.length ≤ 12) : okp l := ⟨isP_okl h, hl⟩
theorem pth_frame {M' M : px_mem} {v : Int} {l : List Int} (h : pth M v l) (e : M' v = M v) : pth M' v l := by unfold pth at h ⊢; rw [e]; exact h
theorem pth_laid {M' M : px_mem} {v s n : Int} (h0 : M' v 0 = n) (hv : ∀ j, 0 ≤ j → j < 12 → M' v (1 + j) = if j < n then M 130 (s + j) % 256 else 0) (hn : 0 ≤ n ∧ n ≤ 12) : pth M' v (tw (M 130) s n) := by
  refine ⟨by rw [tw_len hn.1]; exact h0, ?_, ⟨Int.le_refl 0, by omega, by omega, by decide, fun k k0 k1 => ?_⟩⟩
  · unfold fp tw
    rw [h0]
    exact lst_congr (fun k k0 k1 => by rw [show (0 : Int) + 1 + k = 1 + k by omega, hv k k0 (by omega), if_pos k1])
  · rw [show (0 : Int) + 1 + k = 1 + k by omega, hv k k0 (by omega), if_pos (by omega)]
    omega
/-- what a call of the reference leaves alone -/
def out (M' M : px_mem) : Prop := (∀ b, b < 127 → M' b = M b) ∧ M' 130 = M 130 ∧ M' 127 3 = M 127 3
def out0 (M' M : px_mem) : Prop := (∀ b, b < 127 → M' b = M b) ∧ M' 130 = M 130 ∧ M' 127 3 = 0
theorem out_refl (M : px_mem) : out M M := ⟨fun _ _ => rfl, rfl, rfl⟩
theorem out_trans {A B C : px_mem} (h : out A B) (h2 : out B C) : out A C := ⟨fun b b0 => (h.1 b b0).trans (h2.1 b b0), h.2.1.trans h2.2.1, h.2.2.trans h2.2.2⟩
theorem out0_trans {A B C : px_mem} (h : out A B) (h2 : out0 B C) : out0 A C := ⟨fun b b0 => (h.1 b b0).trans (h2.1 b b0), h.2.1.trans h2.2.1, h.2.2.trans h2.2.2⟩
theorem out_128 {A B : px_mem} (h : ∀ b, b ≠ 128 → A b = B b) : out A B := ⟨fun b b0 => h b (by omega), h 130 (by decide), by rw [h 127 (by decide)]⟩
theorem ins_all {F F1 F2 P : Int → Int} {n i : Int} {g : Int → fe} {x : fe} (hs : sR F n g) (hso : srt n g) (hn : n < 12) (i0 : 0 ≤ i) (i1 : i ≤ n) (hle : ∀ j, 0 ≤ j → j < i → enc (g j).1 ≤ enc x.1) (hgt : ∀ j, i ≤ j → j < n → enc x.1 < enc (g j).1) (hne : ∀ j, 0 ≤ j → j < n → (g j).1 ≠ x.1) (ho : opn F1 F n i P) (hl : slf F2 F1 i x.2) (hx : okp x.1 ∧ x.1 ≠ [] ∧ x.2.length ≤ 40 ∧ ∀ b ∈ x.2, 0 ≤ b ∧ b < 256) (hp : pok P 0 13) (hp2 : fp P 0 = x.1) : sR F2 (n + 1) (insF g i x) ∧ srt (n + 1) (insF g i x) ∧ (∀ y, isM (n + 1) (insF g i x) y ↔ (isM n g y ∨ y = x)) ∧ frf F2 F := by
  have h1 := ins_ok hs hn i0 i1 ho hl hx hp hp2
  refine ⟨h1.1, insF_srt i0 i1 hso (fun j j0 j1 j2 => ?_) (fun j j0 j1 j2 => hgt j j1 j2), insF_isM i0 i1, h1.2⟩
  have a := hle j j0 j1
  have b := hne j j0 j2
  have f := hs.2.2.2 j j0 j2
  rcases (by omega : enc (g j).1 < enc x.1 ∨ enc (g j).1 = enc x.1) with q | q
  · exact q
  · exact absurd (enc_inj f.1.1 hx.1.1 f.1.2 hx.1.2 q) b
theorem fil_ok {F F2 : Int → Int} {n i : Int} {g : Int → fe} {x : fe} (hs : sR F n g) (hso : srt n g) (i0 : 0 ≤ i) (i1 : i < n) (hl : slf F2 F i x.2) (hx : x.2.length ≤ 40 ∧ ∀ b ∈ x.2, 0 ≤ b ∧ b < 256) (hp : (g i).1 = x.1) : sR F2 n (stF g i x) ∧ srt n (stF g i x) ∧ (∀ y, isM n (stF g i x) y ↔ (y = x ∨ (isM n g y ∧ y.1 ≠ x.1))) ∧ frf F2 F := by
  obtain ⟨l1, l2, l3⟩ := hl
  have h12 := hs.2.2.1
  have e1 : ∀ j, (stF g i x j).1 = (g j).1 := fun j => by
    unfold stF
    by_cases q : j = i
    · rw [if_pos q, q, hp]
    · rw [if_neg q]
  refine ⟨⟨by rw [l1 0 (by omega)]; exact hs.1, hs.2.1, h12, fun j j0 j1 => ?_⟩, fun a b a0 a1 b1 => by rw [e1, e1]; exact hso a b a0 a1 b1, fun y => ?_, fun y y0 y1 => l1 y (by omega)⟩
  · have f := hs.2.2.2 j j0 j1
    unfold stF
    by_cases q : j = i
    · rw [if_pos q, q]
      rw [q] at f
      have he : ∀ y, 0 ≤ y → y < 13 → F2 (6 + 54 * i + y) = F (6 + 54 * i + y) := fun y y0 y1 => l1 _ (by omega)
      refine ⟨by rw [← hp]; exact f.1, by rw [← hp]; exact f.2.1, pok_congr he f.2.2.1 (by omega), ?_, l2, hx.1, l3, hx.2⟩
      rw [fp_congr he f.2.2.1.2.2.1, ← hp]; exact f.2.2.2.1
    · rw [if_neg q]
      exact fR_at f ⟨j0, by omega⟩ (fun y y0 y1 => l1 y (by omega))
  · unfold isM
    constructor
    · rintro ⟨j, j0, j1, j2⟩
      by_cases q : j = i
      · left; rw [← j2]; unfold stF; rw [if_pos q]
      · right
        have j3 : g j = y := by rw [← j2]; unfold stF; rw [if_neg q]
        refine ⟨⟨j, j0, j1, j3⟩, fun z => q ?_⟩
        exact srt_ne hso j0 j1 i0 i1 (by rw [j3, z, hp])
    · rintro (z | ⟨⟨j, j0, j1, j2⟩, z⟩)
      · exact ⟨i, i0, i1, by unfold stF; rw [if_pos rfl]; exact z.symm⟩
      · refine ⟨j, j0, j1, ?_⟩
        unfold stF
        rw [if_neg (fun q => z (by rw [← j2, q, hp]))]
        exact j2
section PS
variable {M : px_mem} {Q : Option pv → px_mem → Prop}
theorem sp_lay {s n v : Int} (hv3 : v = 131 ∨ v = 132 ∨ v = 133) (hs : 0 ≤ s ∧ s + n ≤ 160) (hn : 0 ≤ n ∧ n ≤ 12) (h : ∀ M', pth M' v (tw (M 130) s n) → (∀ b, b ≠ v → M' b = M b) → Q none M') : px_Ok 179 [(2, 127), (0, s), (0, n), (2, v)] LAY M Q :=
  sp_laysPath hv3 hs hn (fun M' a1 a2 a3 => h M' (pth_laid a1 a2 hn) a3)
theorem rp_fp (M : px_mem) (v : Int) : rp M v = fp (M v) 0 := lst_congr (fun k _ _ => by rw [Int.zero_add])
theorem sp_isP {v : Int} {l : List Int} (hv : v = 131 ∨ v = 132 ∨ v = 133) (hp : pth M v l) (h1 : isP l → Q (some (0, 1)) M) (h0 : ¬ isP l → Q (some (0, 0)) M) : px_Ok 181 [(2, v)] LAY M Q :=
  sp_isPath (by rcases hv with e | e | e <;> subst e <;> rfl) (by rcases hv with e | e | e <;> subst e <;> rfl) ⟨hp.2.2.2.1, hp.2.2.2.2.1⟩ (fun w => h1 (by rw [rp_fp, hp.2.1] at w; exact w)) (fun w => h0 (by rw [rp_fp, hp.2.1] at w; exact w))
set_option maxHeartbeats 600000 in
set_option maxRecDepth 100000 in
theorem lp_rwrite {N i : Int} {g : Int → fe} {P : List Int} (hst : sR (M 128) N g) (hp : pth M 131 P) (hP : P ≠ []) (h3 : (∃ j, 0 ≤ j ∧ j < N ∧ j ≠ i ∧ mt (g j).1 P) → Q (some (0, -3)) M) (hx : (∀ j, 0 ≤ j → j < N → j ≠ i → ¬ mt (g j).1 P) → px_WP 223 0 0 (px_Q0 LAY Q) 58 [(2, 127), (9, 0), (9, 0), (0, i), (0, N)] [] LAY M 0 0) (k : Int) (hk_k : k ≤ N) : 0 ≤ k → (∀ j, 0 ≤ j → j < k → j ≠ i → ¬ mt (g j).1 P) → px_WP 223 0 0 (px_Q0 LAY Q) 58 [(2, 127), (9, 0), (9, 0), (0, i), (0, k)] [] LAY M 0 0 := by
  refine up_ind (P := fun k => 0 ≤ k → (∀ j, 0 ≤ j → j < k → j ≠ i → ¬ mt (g j).1 P) → px_WP 223 0 0 (px_Q0 LAY Q) 58 [(2, 127), (9, 0), (9, 0), (0, i), (0, k)] [] LAY M 0 0) (N) (fun k hk_k ih => ?_) k hk_k
  intro k0 hj
  have h1 := hst.1
  have h2 := hst.2.1
  have hn3 := hst.2.2.1
  by_cases hkN : k = N
  · subst hkN; exact hx hj
  refine px_go_ok (inl := [214]) 60 ?_
  simp only [px_go, px_Q0_at, px_sx_0, px_sx_s, px_cl, px_step, ↓px_ll, px_lg, f4_, ↓px_r1, ↓px_r2, ↓px_r4, ↓px_r5, ↓px_p1, ↓px_p2, ↓px_p3, ↓px_pop, px_k_0, px_k_s, px_k3_0, px_stk_, px_cats, px_ent, px_st1, px_st2, px_mask, ↓px_tsw, ↓px_lsw, ct_, mls_0, mls_1, mls_2, mls_3, mls_4, mls_5, kd_0, kd_1, kd_2, kd_3, ln_0, ln_1, ln_2, ln_3, gf_0, gf_1, gf_2, gf_3, gf_4, gf_7, gf_21, gf_63, dy_0, dy_1, dy_2, dy_3, dy_7, dy_21, px_brT, px_brF, true_and, and_true, and_false, false_and, and_self, true_implies, false_implies, or_true, true_or, or_false, false_or, eq_self, ne_eq, not_false_eq_true, not_true_eq_false, if_true, if_false, List.mem_cons, List.not_mem_nil, List.length_cons, List.length_nil, Nat.reduceEqDiff, Nat.reduceAdd, Nat.reduceSub, Nat.reduceLeDiff, Nat.reduceLT, Int.reduceEq, Int.reduceLT, Int.reduceLE, Int.reduceNeg, Int.reduceAdd, Int.reduceSub, Int.reduceToNat, ↓reduceIte, one_ne_zero_, zero_ne_one_, px_in32L, cd_223, cd_214, h1]
  repeat' (first | (with_reducible apply And.intro) | (with_reducible refine px_br_intro (fun _ => ?_) (fun _ => ?_)))
  all_goals (try (first | (unfold px_in32; omega) | omega))
  · rename_i c1 c2
    refine ih (by omega) (by omega) (fun j j0 j1 j2 => hj j j0 (by omega) j2)
  · rename_i c1 c2
    have f := hst.2.2.2 k k0 (by omega)
    have hpl : 0 < M 131 0 := by rw [hp.1]; have := List.length_pos_iff.mpr hP; omega
    refine sp_areMeeting rfl rfl f.2.2.1 hp.2.2 ⟨by decide, by decide⟩ (fR_pos f) hpl (fun w => ?_) (fun w => ?_)
    · rw [f.2.2.2.1, hp.2.1] at w
      simp only [px_go, px_Q0_at, px_sx_0, px_sx_s, px_cl, px_step, ↓px_ll, px_lg, f4_, ↓px_r1, ↓px_r2, ↓px_r4, ↓px_r5, ↓px_p1, ↓px_p2, ↓px_p3, ↓px_pop, px_k_0, px_k_s, px_k3_0, px_stk_, px_cats, px_ent, px_st1, px_st2, px_mask, ↓px_tsw, ↓px_lsw, ct_, mls_0, mls_1, mls_2, mls_3, mls_4, mls_5, kd_0, kd_1, kd_2, kd_3, ln_0, ln_1, ln_2, ln_3, gf_0, gf_1, gf_2, gf_3, gf_4, gf_7, gf_21, gf_63, dy_0, dy_1, dy_2, dy_3, dy_7, dy_21, px_brT, px_brF, true_and, and_true, and_false, false_and, and_self, true_implies, false_implies, or_true, true_or, or_false, false_or, eq_self, ne_eq, not_false_eq_true, not_true_eq_false, if_true, if_false, List.mem_cons, List.not_mem_nil, List.length_cons, List.length_nil, Nat.reduceEqDiff, Nat.reduceAdd, Nat.reduceSub, Nat.reduceLeDiff, Nat.reduceLT, Int.reduceEq, Int.reduceLT, Int.reduceLE, Int.reduceNeg, Int.reduceAdd, Int.reduceSub, Int.reduceToNat, ↓reduceIte, one_ne_zero_, zero_ne_one_, px_in32L, cd_223, cd_214]
      exact h3 ⟨k, k0, by omega, c2, w⟩
    · rw [f.2.2.2.1, hp.2.1] at w
      simp only [px_go, px_Q0_at, px_sx_0, px_sx_s, px_cl, px_step, ↓px_ll, px_lg, f4_, ↓px_r1, ↓px_r2, ↓px_r4, ↓px_r5, ↓px_p1, ↓px_p2, ↓px_p3, ↓px_pop, px_k_0, px_k_s, px_k3_0, px_stk_, px_cats, px_ent, px_st1, px_st2, px_mask, ↓px_tsw, ↓px_lsw, ct_, mls_0, mls_1, mls_2, mls_3, mls_4, mls_5, kd_0, kd_1, kd_2, kd_3, ln_0, ln_1, ln_2, ln_3, gf_0, gf_1, gf_2, gf_3, gf_4, gf_7, gf_21, gf_63, dy_0, dy_1, dy_2, dy_3, dy_7, dy_21, px_brT, px_brF, true_and, and_true, and_false, false_and, and_self, true_implies, false_implies, or_true, true_or, or_false, false_or, eq_self, ne_eq, not_false_eq_true, not_true_eq_false, if_true, if_false, List.mem_cons, List.not_mem_nil, List.length_cons, List.length_nil, Nat.reduceEqDiff, Nat.reduceAdd, Nat.reduceSub, Nat.reduceLeDiff, Nat.reduceLT, Int.reduceEq, Int.reduceLT, Int.reduceLE, Int.reduceNeg, Int.reduceAdd, Int.reduceSub, Int.reduceToNat, ↓reduceIte, one_ne_zero_, zero_ne_one_, px_in32L, cd_223, cd_214]
      repeat' (first | (with_reducible apply And.intro) | (with_reducible refine px_br_intro (fun _ => ?_) (fun _ => ?_)))
      all_goals (try (first | (unfold px_in32; omega) | omega))
      refine ih (by omega) (by omega) (fun j j0 j1 j2 => ?_)
      by_cases q : j = k
      · rw [q]; exact w
      · exact hj j j0 (by omega) j2
/-- what write asks of its numbers -/
def wrq (M : px_mem) (p n : Int) : Prop := 1 ≤ p ∧ p ≤ 12 ∧ 0 ≤ n ∧ n ≤ 40 ∧ p + n ≤ M 127 3
set_option maxHeartbeats 600000 in
set_option maxRecDepth 100000 in
theorem sp_rwrite {p n N : Int} {g : Int → fe} (ht : 0 ≤ M 127 3 ∧ M 127 3 ≤ 160) (hst : sR (M 128) N g) (hs : sgI N g) (h0 : ¬ wrq M p n → Q (some (0, -1)) M) (h2 : ∀ M', wrq M p n → ¬ isP (tw (M 130) 0 p) → M' 128 = M 128 → out0 M' M → Q (some (0, -2)) M') (h3 : ∀ M', wrq M p n → isP (tw (M 130) 0 p) → (∀ i, 0 ≤ i → i < N → (g i).1 ≠ tw (M 130) 0 p) → mtg N g (tw (M 130) 0 p) [] → M' 128 = M 128 → out0 M' M → Q (some (0, -3)) M') (h4 : ∀ M', wrq M p n → isP (tw (M 130) 0 p) → (∀ i, 0 ≤ i → i < N → (g i).1 ≠ tw (M 130) 0 p) → ¬ mtg N g (tw (M 130) 0 p) [] → 12 ≤ N → M' 128 = M 128 → out0 M' M → Q (some (0, -4)) M') (h1 : ∀ M' N' g', wrq M p n → isP (tw (M 130) 0 p) → (∃ i, 0 ≤ i ∧ i < N ∧ (g i).1 = tw (M 130) 0 p) ∨ (¬ mtg N g (tw (M 130) 0 p) [] ∧ N < 12) → sR (M' 128) N' g' → srt N' g' → (∀ y, isM N' g' y ↔ (y = (tw (M 130) 0 p, tw (M 130) p n) ∨ (isM N g y ∧ y.1 ≠ tw (M 130) 0 p))) → frf (M' 128) (M 128) → out0 M' M → Q (some (0, N')) M') : px_Ok 223 [(2, 127), (0, p), (0, n)] LAY M Q := by
  refine px_ok_go (inl := []) (ls0 := [(2, 127), (0, p), (0, n), (9, 0), (9, 0)]) 60 (by decide) (Nat.le_of_ble_eq_true rfl) rfl ?_
  simp only [px_go, px_Q0_at, px_sx_0, px_sx_s, px_cl, px_step, ↓px_ll, px_lg, f4_, ↓px_r1, ↓px_r2, ↓px_r4, ↓px_r5, ↓px_p1, ↓px_p2, ↓px_p3, ↓px_pop, px_k_0, px_k_s, px_k3_0, px_stk_, px_cats, px_ent, px_st1, px_st2, px_mask, ↓px_tsw, ↓px_lsw, ct_, mls_0, mls_1, mls_2, mls_3, mls_4, mls_5, kd_0, kd_1, kd_2, kd_3, ln_0, ln_1, ln_2, ln_3, gf_0, gf_1, gf_2, gf_3, gf_4, gf_7, gf_21, gf_63, dy_0, dy_1, dy_2, dy_3, dy_7, dy_21, px_brT, px_brF, true_and, and_true, and_false, false_and, and_self, true_implies, false_implies, or_true, true_or, or_false, false_or, eq_self, ne_eq, not_false_eq_true, not_true_eq_false, if_true, if_false, List.mem_cons, List.not_mem_nil, List.length_cons, List.length_nil, Nat.reduceEqDiff, Nat.reduceAdd, Nat.reduceSub, Nat.reduceLeDiff, Nat.reduceLT, Int.reduceEq, Int.reduceLT, Int.reduceLE, Int.reduceNeg, Int.reduceAdd, Int.reduceSub, Int.reduceToNat, ↓reduceIte, one_ne_zero_, zero_ne_one_, px_in32L, cd_223]
  repeat' (first | (with_reducible apply And.intro) | (with_reducible refine px_br_intro (fun _ => ?_) (fun _ => ?_)))
  all_goals (try (first | (unfold px_in32; omega) | omega))
  refine sp_areLaid ht (fun w => ?_) (fun w => ?_)
  · have hq : wrq M p n := w
    simp only [px_go, px_Q0_at, px_sx_0, px_sx_s, px_cl, px_step, ↓px_ll, px_lg, f4_, ↓px_r1, ↓px_r2, ↓px_r4, ↓px_r5, ↓px_p1, ↓px_p2, ↓px_p3, ↓px_pop, px_k_0, px_k_s, px_k3_0, px_stk_, px_cats, px_ent, px_st1, px_st2, px_mask, ↓px_tsw, ↓px_lsw, ct_, mls_0, mls_1, mls_2, mls_3, mls_4, mls_5, kd_0, kd_1, kd_2, kd_3, ln_0, ln_1, ln_2, ln_3, gf_0, gf_1, gf_2, gf_3, gf_4, gf_7, gf_21, gf_63, dy_0, dy_1, dy_2, dy_3, dy_7, dy_21, px_brT, px_brF, true_and, and_true, and_false, false_and, and_self, true_implies, false_implies, or_true, true_or, or_false, false_or, eq_self, ne_eq, not_false_eq_true, not_true_eq_false, if_true, if_false, List.mem_cons, List.not_mem_nil, List.length_cons, List.length_nil, Nat.reduceEqDiff, Nat.reduceAdd, Nat.reduceSub, Nat.reduceLeDiff, Nat.reduceLT, Int.reduceEq, Int.reduceLT, Int.reduceLE, Int.reduceNeg, Int.reduceAdd, Int.reduceSub, Int.reduceToNat, ↓reduceIte, one_ne_zero_, zero_ne_one_, px_in32L, cd_223]
    refine sp_lay (Or.inl rfl) (by omega) (by omega) (fun M1 a1 a2 => ?_)
    have f130 : px_up M 127 3 0 130 = M 130 := row_ne (by decide)
    rw [f130] at a1
    simp only [px_go, px_Q0_at, px_sx_0, px_sx_s, px_cl, px_step, ↓px_ll, px_lg, f4_, ↓px_r1, ↓px_r2, ↓px_r4, ↓px_r5, ↓px_p1, ↓px_p2, ↓px_p3, ↓px_pop, px_k_0, px_k_s, px_k3_0, px_stk_, px_cats, px_ent, px_st1, px_st2, px_mask, ↓px_tsw, ↓px_lsw, ct_, mls_0, mls_1, mls_2, mls_3, mls_4, mls_5, kd_0, kd_1, kd_2, kd_3, ln_0, ln_1, ln_2, ln_3, gf_0, gf_1, gf_2, gf_3, gf_4, gf_7, gf_21, gf_63, dy_0, dy_1, dy_2, dy_3, dy_7, dy_21, px_brT, px_brF, true_and, and_true, and_false, false_and, and_self, true_implies, false_implies, or_true, true_or, or_false, false_or, eq_self, ne_eq, not_false_eq_true, not_true_eq_false, if_true, if_false, List.mem_cons, List.not_mem_nil, List.length_cons, List.length_nil, Nat.reduceEqDiff, Nat.reduceAdd, Nat.reduceSub, Nat.reduceLeDiff, Nat.reduceLT, Int.reduceEq, Int.reduceLT, Int.reduceLE, Int.reduceNeg, Int.reduceAdd, Int.reduceSub, Int.reduceToNat, ↓reduceIte, one_ne_zero_, zero_ne_one_, px_in32L, cd_223]
    refine sp_laysDue (by omega) (by omega) (fun M2 b1 b2 b3 b4 => ?_)
    have g130 : M1 130 = M 130 := by rw [a2 130 (by decide), f130]
    rw [g130] at b2
    have p2 : pth M2 131 (tw (M 130) 0 p) := pth_frame a1 (b4 131 (by decide) (by decide))
    have e128 : M2 128 = M 128 := by rw [b4 128 (by decide) (by decide), a2 128 (by decide), row_ne (by decide)]
    have o2 : out0 M2 M := ⟨fun b b0 => by rw [b4 b (by omega) (by omega), a2 b (by omega), row_ne (by omega)], by rw [b4 130 (by decide) (by decide), g130], by rw [b3 3 (by decide), a2 127 (by decide), px_up_at, if_pos ⟨rfl, rfl⟩]⟩
    have hdl : ((tw (M 130) p n).length : Int) = n := tw_len w.2.2.1
    have hPl : ((tw (M 130) 0 p).length : Int) = p := tw_len (by omega)
    simp only [px_go, px_Q0_at, px_sx_0, px_sx_s, px_cl, px_step, ↓px_ll, px_lg, f4_, ↓px_r1, ↓px_r2, ↓px_r4, ↓px_r5, ↓px_p1, ↓px_p2, ↓px_p3, ↓px_pop, px_k_0, px_k_s, px_k3_0, px_stk_, px_cats, px_ent, px_st1, px_st2, px_mask, ↓px_tsw, ↓px_lsw, ct_, mls_0, mls_1, mls_2, mls_3, mls_4, mls_5, kd_0, kd_1, kd_2, kd_3, ln_0, ln_1, ln_2, ln_3, gf_0, gf_1, gf_2, gf_3, gf_4, gf_7, gf_21, gf_63, dy_0, dy_1, dy_2, dy_3, dy_7, dy_21, px_brT, px_brF, true_and, and_true, and_false, false_and, and_self, true_implies, false_implies, or_true, true_or, or_false, false_or, eq_self, ne_eq, not_false_eq_true, not_true_eq_false, if_true, if_false, List.mem_cons, List.not_mem_nil, List.length_cons, List.length_nil, Nat.reduceEqDiff, Nat.reduceAdd, Nat.reduceSub, Nat.reduceLeDiff, Nat.reduceLT, Int.reduceEq, Int.reduceLT, Int.reduceLE, Int.reduceNeg, Int.reduceAdd, Int.reduceSub, Int.reduceToNat, ↓reduceIte, one_ne_zero_, zero_ne_one_, px_in32L, cd_223]
    refine sp_isP (Or.inl rfl) p2 (fun v => ?_) (fun v => ?_)
    · simp only [px_go, px_Q0_at, px_sx_0, px_sx_s, px_cl, px_step, ↓px_ll, px_lg, f4_, ↓px_r1, ↓px_r2, ↓px_r4, ↓px_r5, ↓px_p1, ↓px_p2, ↓px_p3, ↓px_pop, px_k_0, px_k_s, px_k3_0, px_stk_, px_cats, px_ent, px_st1, px_st2, px_mask, ↓px_tsw, ↓px_lsw, ct_, mls_0, mls_1, mls_2, mls_3, mls_4, mls_5, kd_0, kd_1, kd_2, kd_3, ln_0, ln_1, ln_2, ln_3, gf_0, gf_1, gf_2, gf_3, gf_4, gf_7, gf_21, gf_63, dy_0, dy_1, dy_2, dy_3, dy_7, dy_21, px_brT, px_brF, true_and, and_true, and_false, false_and, and_self, true_implies, false_implies, or_true, true_or, or_false, false_or, eq_self, ne_eq, not_false_eq_true, not_true_eq_false, if_true, if_false, List.mem_cons, List.not_mem_nil, List.length_cons, List.length_nil, Nat.reduceEqDiff, Nat.reduceAdd, Nat.reduceSub, Nat.reduceLeDiff, Nat.reduceLT, Int.reduceEq, Int.reduceLT, Int.reduceLE, Int.reduceNeg, Int.reduceAdd, Int.reduceSub, Int.reduceToNat, ↓reduceIte, one_ne_zero_, zero_ne_one_, px_in32L, cd_223]
      generalize hPP : tw (M 130) 0 p = P at *
      have hst2 : sR (M2 128) N g := by rw [e128]; exact hst
      have okP : okp P := isP_ok2 v (by omega)
      have neP : P ≠ [] := isP_ne v
      refine sp_stageFind hst2 rfl p2.2.2 (by decide) ?_
      rw [p2.2.1]
      have hfs := fnd_spec N (fun i => (g i).1 = P)
      generalize hi : fnd N (fun i => (g i).1 = P) = i at *
      simp only [px_go, px_Q0_at, px_sx_0, px_sx_s, px_cl, px_step, ↓px_ll, px_lg, f4_, ↓px_r1, ↓px_r2, ↓px_r4, ↓px_r5, ↓px_p1, ↓px_p2, ↓px_p3, ↓px_pop, px_k_0, px_k_s, px_k3_0, px_stk_, px_cats, px_ent, px_st1, px_st2, px_mask, ↓px_tsw, ↓px_lsw, ct_, mls_0, mls_1, mls_2, mls_3, mls_4, mls_5, kd_0, kd_1, kd_2, kd_3, ln_0, ln_1, ln_2, ln_3, gf_0, gf_1, gf_2, gf_3, gf_4, gf_7, gf_21, gf_63, dy_0, dy_1, dy_2, dy_3, dy_7, dy_21, px_brT, px_brF, true_and, and_true, and_false, false_and, and_self, true_implies, false_implies, or_true, true_or, or_false, false_or, eq_self, ne_eq, not_false_eq_true, not_true_eq_false, if_true, if_false, List.mem_cons, List.not_mem_nil, List.length_cons, List.length_nil, Nat.reduceEqDiff, Nat.reduceAdd, Nat.reduceSub, Nat.reduceLeDiff, Nat.reduceLT, Int.reduceEq, Int.reduceLT, Int.reduceLE, Int.reduceNeg, Int.reduceAdd, Int.reduceSub, Int.reduceToNat, ↓reduceIte, one_ne_zero_, zero_ne_one_, px_in32L, cd_223]
      refine lp_rwrite (N := N) (g := g) (P := P) (i := i) hst2 p2 neP (fun zz => ?_) (fun hno => ?_) 0 hst.2.1 (Int.le_refl 0) (fun j j0 j1 => by omega)
      · obtain ⟨j, j0, j1, j2, j3⟩ := zz
        rcases hfs with ⟨y1, y2⟩ | ⟨y1, y2, y3, y4⟩
        · exact h3 M2 hq v y2 ⟨j, j0, j1, wi_nil (hst.2.2.2 j j0 j1).2.1, j3⟩ e128 o2
        · exact absurd (hs.2.1 j i j0 j1 y1 y2 (by rw [y3]; exact j3)) j2
      · have hF0 := hst2.1
        refine px_go_ok (inl := [214]) 60 ?_
        simp only [px_go, px_Q0_at, px_sx_0, px_sx_s, px_cl, px_step, ↓px_ll, px_lg, f4_, ↓px_r1, ↓px_r2, ↓px_r4, ↓px_r5, ↓px_p1, ↓px_p2, ↓px_p3, ↓px_pop, px_k_0, px_k_s, px_k3_0, px_stk_, px_cats, px_ent, px_st1, px_st2, px_mask, ↓px_tsw, ↓px_lsw, ct_, mls_0, mls_1, mls_2, mls_3, mls_4, mls_5, kd_0, kd_1, kd_2, kd_3, ln_0, ln_1, ln_2, ln_3, gf_0, gf_1, gf_2, gf_3, gf_4, gf_7, gf_21, gf_63, dy_0, dy_1, dy_2, dy_3, dy_7, dy_21, px_brT, px_brF, true_and, and_true, and_false, false_and, and_self, true_implies, false_implies, or_true, true_or, or_false, false_or, eq_self, ne_eq, not_false_eq_true, not_true_eq_false, if_true, if_false, List.mem_cons, List.not_mem_nil, List.length_cons, List.length_nil, Nat.reduceEqDiff, Nat.reduceAdd, Nat.reduceSub, Nat.reduceLeDiff, Nat.reduceLT, Int.reduceEq, Int.reduceLT, Int.reduceLE, Int.reduceNeg, Int.reduceAdd, Int.reduceSub, Int.reduceToNat, ↓reduceIte, one_ne_zero_, zero_ne_one_, px_in32L, cd_223, cd_214, hF0]
        refine px_br_intro (fun _ => ?_) (fun c => by omega)
        rcases hfs with ⟨y1, y2⟩ | ⟨y1, y2, y3, y4⟩
        · have hnm : ¬ mtg N g P [] := fun ⟨j, j0, j1, _, j3⟩ => hno j j0 j1 (by omega) j3
          refine px_br_intro (fun _ => ?_) (fun c => absurd y1 c)
          refine px_br_intro (fun c => ?_) (fun c => ?_)
          · exact h4 M2 hq v y2 hnm (by omega) e128 o2
          · have hN := hst.2.2.1
            refine px_br_intro (fun _ => ?_) (fun c => absurd y1 c)
            refine sp_opens hst2 hs.1 (by omega) rfl p2.2.2 (by decide) (Or.inl (by decide)) (by rw [p2.2.1]; exact okP) (fun M3 k k0 k1 k2 k3 k4 k5 => ?_)
            rw [p2.2.1] at k2 k3
            have e14 : M3 127 14 = n := by rw [k5 127 (by decide), b1]
            have e137 : M3 137 = M2 137 := k5 137 (by decide)
            simp only [px_go, px_Q0_at, px_sx_0, px_sx_s, px_cl, px_step, ↓px_ll, px_lg, f4_, ↓px_r1, ↓px_r2, ↓px_r4, ↓px_r5, ↓px_p1, ↓px_p2, ↓px_p3, ↓px_pop, px_k_0, px_k_s, px_k3_0, px_stk_, px_cats, px_ent, px_st1, px_st2, px_mask, ↓px_tsw, ↓px_lsw, ct_, mls_0, mls_1, mls_2, mls_3, mls_4, mls_5, kd_0, kd_1, kd_2, kd_3, ln_0, ln_1, ln_2, ln_3, gf_0, gf_1, gf_2, gf_3, gf_4, gf_7, gf_21, gf_63, dy_0, dy_1, dy_2, dy_3, dy_7, dy_21, px_brT, px_brF, true_and, and_true, and_false, false_and, and_self, true_implies, false_implies, or_true, true_or, or_false, false_or, eq_self, ne_eq, not_false_eq_true, not_true_eq_false, if_true, if_false, List.mem_cons, List.not_mem_nil, List.length_cons, List.length_nil, Nat.reduceEqDiff, Nat.reduceAdd, Nat.reduceSub, Nat.reduceLeDiff, Nat.reduceLT, Int.reduceEq, Int.reduceLT, Int.reduceLE, Int.reduceNeg, Int.reduceAdd, Int.reduceSub, Int.reduceToNat, ↓reduceIte, one_ne_zero_, zero_ne_one_, px_in32L, cd_223, e14]
            refine sp_fills ⟨k0, by omega⟩ rfl ⟨by rw [show px_ln LAY 137 = 40 from rfl]; omega, by decide⟩ (by decide) ⟨by omega, by omega⟩ (fun M4 m1 m2 => ?_)
            rw [e137, b2] at m1
            have hA := ins_all (x := (P, tw (M 130) p n)) hst2 hs.1 (by omega) k0 k1 k2 k3 y2 k4 m1 ⟨okP, neP, show (tw (M 130) p n).length ≤ 40 by omega, tw_rng⟩ (pok_congr (b := 0) (fun y y0 y1 => by simp only [Int.zero_add]) p2.2.2 ⟨Int.le_refl 0, by decide⟩) (by rw [← p2.2.1]; exact fp_congr (fun y y0 y1 => by simp only [Int.zero_add]) p2.2.2.2.2.1)
            have n0 := hA.1.1
            simp only [px_go, px_Q0_at, px_sx_0, px_sx_s, px_cl, px_step, ↓px_ll, px_lg, f4_, ↓px_r1, ↓px_r2, ↓px_r4, ↓px_r5, ↓px_p1, ↓px_p2, ↓px_p3, ↓px_pop, px_k_0, px_k_s, px_k3_0, px_stk_, px_cats, px_ent, px_st1, px_st2, px_mask, ↓px_tsw, ↓px_lsw, ct_, mls_0, mls_1, mls_2, mls_3, mls_4, mls_5, kd_0, kd_1, kd_2, kd_3, ln_0, ln_1, ln_2, ln_3, gf_0, gf_1, gf_2, gf_3, gf_4, gf_7, gf_21, gf_63, dy_0, dy_1, dy_2, dy_3, dy_7, dy_21, px_brT, px_brF, true_and, and_true, and_false, false_and, and_self, true_implies, false_implies, or_true, true_or, or_false, false_or, eq_self, ne_eq, not_false_eq_true, not_true_eq_false, if_true, if_false, List.mem_cons, List.not_mem_nil, List.length_cons, List.length_nil, Nat.reduceEqDiff, Nat.reduceAdd, Nat.reduceSub, Nat.reduceLeDiff, Nat.reduceLT, Int.reduceEq, Int.reduceLT, Int.reduceLE, Int.reduceNeg, Int.reduceAdd, Int.reduceSub, Int.reduceToNat, ↓reduceIte, one_ne_zero_, zero_ne_one_, px_in32L, cd_223, n0]
            refine h1 M4 (N + 1) _ hq v (Or.inr ⟨hnm, by omega⟩) hA.1 hA.2.1 (fun y => ?_) (by rw [← e128]; exact hA.2.2.2) (out0_trans (out_trans (out_128 m2) (out_128 k5)) o2)
            rw [hA.2.2.1 y]
            constructor
            · rintro (z | z)
              · refine Or.inr ⟨z, ?_⟩
                obtain ⟨j, j0, j1, j2⟩ := z
                rw [← j2]; exact y2 j j0 j1
              · exact Or.inl z
            · rintro (z | z)
              · exact Or.inr z
              · exact Or.inl z.1
        · have y5 : ¬ i = -1 := by omega
          refine px_br_intro (fun c => absurd c y5) (fun _ => ?_)
          refine px_br_intro (fun c => absurd c y5) (fun _ => ?_)
          have hN := hst.2.2.1
          have e137 : lst (M2 137) n = tw (M 130) p n := b2
          rw [b1]
          refine sp_fills ⟨y1, by omega⟩ rfl ⟨by rw [show px_ln LAY 137 = 40 from rfl]; omega, by decide⟩ (by decide) ⟨by omega, by omega⟩ (fun M4 m1 m2 => ?_)
          rw [e137] at m1
          have hA := fil_ok (x := (P, tw (M 130) p n)) hst2 hs.1 y1 y2 m1 ⟨show (tw (M 130) p n).length ≤ 40 by omega, tw_rng⟩ y3
          have n0 := hA.1.1
          simp only [px_go, px_Q0_at, px_sx_0, px_sx_s, px_cl, px_step, ↓px_ll, px_lg, f4_, ↓px_r1, ↓px_r2, ↓px_r4, ↓px_r5, ↓px_p1, ↓px_p2, ↓px_p3, ↓px_pop, px_k_0, px_k_s, px_k3_0, px_stk_, px_cats, px_ent, px_st1, px_st2, px_mask, ↓px_tsw, ↓px_lsw, ct_, mls_0, mls_1, mls_2, mls_3, mls_4, mls_5, kd_0, kd_1, kd_2, kd_3, ln_0, ln_1, ln_2, ln_3, gf_0, gf_1, gf_2, gf_3, gf_4, gf_7, gf_21, gf_63, dy_0, dy_1, dy_2, dy_3, dy_7, dy_21, px_brT, px_brF, true_and, and_true, and_false, false_and, and_self, true_implies, false_implies, or_true, true_or, or_false, false_or, eq_self, ne_eq, not_false_eq_true, not_true_eq_false, if_true, if_false, List.mem_cons, List.not_mem_nil, List.length_cons, List.length_nil, Nat.reduceEqDiff, Nat.reduceAdd, Nat.reduceSub, Nat.reduceLeDiff, Nat.reduceLT, Int.reduceEq, Int.reduceLT, Int.reduceLE, Int.reduceNeg, Int.reduceAdd, Int.reduceSub, Int.reduceToNat, ↓reduceIte, one_ne_zero_, zero_ne_one_, px_in32L, cd_223, n0]
          exact h1 M4 N _ hq v (Or.inl ⟨i, y1, y2, y3⟩) hA.1 hA.2.1 hA.2.2.1 (by rw [← e128]; exact hA.2.2.2) (out0_trans (out_128 m2) o2)
    · simp only [px_go, px_Q0_at, px_sx_0, px_sx_s, px_cl, px_step, ↓px_ll, px_lg, f4_, ↓px_r1, ↓px_r2, ↓px_r4, ↓px_r5, ↓px_p1, ↓px_p2, ↓px_p3, ↓px_pop, px_k_0, px_k_s, px_k3_0, px_stk_, px_cats, px_ent, px_st1, px_st2, px_mask, ↓px_tsw, ↓px_lsw, ct_, mls_0, mls_1, mls_2, mls_3, mls_4, mls_5, kd_0, kd_1, kd_2, kd_3, ln_0, ln_1, ln_2, ln_3, gf_0, gf_1, gf_2, gf_3, gf_4, gf_7, gf_21, gf_63, dy_0, dy_1, dy_2, dy_3, dy_7, dy_21, px_brT, px_brF, true_and, and_true, and_false, false_and, and_self, true_implies, false_implies, or_true, true_or, or_false, false_or, eq_self, ne_eq, not_false_eq_true, not_true_eq_false, if_true, if_false, List.mem_cons, List.not_mem_nil, List.length_cons, List.length_nil, Nat.reduceEqDiff, Nat.reduceAdd, Nat.reduceSub, Nat.reduceLeDiff, Nat.reduceLT, Int.reduceEq, Int.reduceLT, Int.reduceLE, Int.reduceNeg, Int.reduceAdd, Int.reduceSub, Int.reduceToNat, ↓reduceIte, one_ne_zero_, zero_ne_one_, px_in32L, cd_223]
      exact h2 M2 hq v e128 o2
  · simp only [px_go, px_Q0_at, px_sx_0, px_sx_s, px_cl, px_step, ↓px_ll, px_lg, f4_, ↓px_r1, ↓px_r2, ↓px_r4, ↓px_r5, ↓px_p1, ↓px_p2, ↓px_p3, ↓px_pop, px_k_0, px_k_s, px_k3_0, px_stk_, px_cats, px_ent, px_st1, px_st2, px_mask, ↓px_tsw, ↓px_lsw, ct_, mls_0, mls_1, mls_2, mls_3, mls_4, mls_5, kd_0, kd_1, kd_2, kd_3, ln_0, ln_1, ln_2, ln_3, gf_0, gf_1, gf_2, gf_3, gf_4, gf_7, gf_21, gf_63, dy_0, dy_1, dy_2, dy_3, dy_7, dy_21, px_brT, px_brF, true_and, and_true, and_false, false_and, and_self, true_implies, false_implies, or_true, true_or, or_false, false_or, eq_self, ne_eq, not_false_eq_true, not_true_eq_false, if_true, if_false, List.mem_cons, List.not_mem_nil, List.length_cons, List.length_nil, Nat.reduceEqDiff, Nat.reduceAdd, Nat.reduceSub, Nat.reduceLeDiff, Nat.reduceLT, Int.reduceEq, Int.reduceLT, Int.reduceLE, Int.reduceNeg, Int.reduceAdd, Int.reduceSub, Int.reduceToNat, ↓reduceIte, one_ne_zero_, zero_ne_one_, px_in32L, cd_223]
    exact h0 w
/-- one path alone is asked for -/
def wdq (M : px_mem) (p : Int) : Prop := 1 ≤ p ∧ p ≤ 12 ∧ p ≤ M 127 3
set_option maxHeartbeats 600000 in
set_option maxRecDepth 100000 in
theorem sp_rremove {p N : Int} {g : Int → fe} (ht : 0 ≤ M 127 3 ∧ M 127 3 ≤ 160) (hst : sR (M 128) N g) (hs : sgI N g) (h0 : ¬ wdq M p → Q (some (0, -1)) M) (h2 : ∀ M', wdq M p → ¬ isP (tw (M 130) 0 p) → M' 128 = M 128 → out0 M' M → Q (some (0, -2)) M') (h1 : ∀ M' N' g', wdq M p → isP (tw (M 130) 0 p) → sR (M' 128) N' g' → srt N' g' → (∀ y, isM N' g' y ↔ (isM N g y ∧ ¬ wi y.1 (tw (M 130) 0 p))) → N' ≤ N → frf (M' 128) (M 128) → out0 M' M → Q (some (0, if N - N' = 0 then -3 else N - N')) M') : px_Ok 226 [(2, 127), (0, p)] LAY M Q := by
  refine px_ok_go (inl := []) (ls0 := [(2, 127), (0, p), (9, 0)]) 60 (by decide) (Nat.le_of_ble_eq_true rfl) rfl ?_
  simp only [px_go, px_Q0_at, px_sx_0, px_sx_s, px_cl, px_step, ↓px_ll, px_lg, f4_, ↓px_r1, ↓px_r2, ↓px_r4, ↓px_r5, ↓px_p1, ↓px_p2, ↓px_p3, ↓px_pop, px_k_0, px_k_s, px_k3_0, px_stk_, px_cats, px_ent, px_st1, px_st2, px_mask, ↓px_tsw, ↓px_lsw, ct_, mls_0, mls_1, mls_2, mls_3, mls_4, mls_5, kd_0, kd_1, kd_2, kd_3, ln_0, ln_1, ln_2, ln_3, gf_0, gf_1, gf_2, gf_3, gf_4, gf_7, gf_21, gf_63, dy_0, dy_1, dy_2, dy_3, dy_7, dy_21, px_brT, px_brF, true_and, and_true, and_false, false_and, and_self, true_implies, false_implies, or_true, true_or, or_false, false_or, eq_self, ne_eq, not_false_eq_true, not_true_eq_false, if_true, if_false, List.mem_cons, List.not_mem_nil, List.length_cons, List.length_nil, Nat.reduceEqDiff, Nat.reduceAdd, Nat.reduceSub, Nat.reduceLeDiff, Nat.reduceLT, Int.reduceEq, Int.reduceLT, Int.reduceLE, Int.reduceNeg, Int.reduceAdd, Int.reduceSub, Int.reduceToNat, ↓reduceIte, one_ne_zero_, zero_ne_one_, px_in32L, cd_226]
  repeat' (first | (with_reducible apply And.intro) | (with_reducible refine px_br_intro (fun _ => ?_) (fun _ => ?_)))
  all_goals (try (first | (unfold px_in32; omega) | omega))
  refine sp_areLaid ht (fun w => ?_) (fun w => ?_)
  · have hq : wdq M p := ⟨w.1, w.2.1, by omega⟩
    simp only [px_go, px_Q0_at, px_sx_0, px_sx_s, px_cl, px_step, ↓px_ll, px_lg, f4_, ↓px_r1, ↓px_r2, ↓px_r4, ↓px_r5, ↓px_p1, ↓px_p2, ↓px_p3, ↓px_pop, px_k_0, px_k_s, px_k3_0, px_stk_, px_cats, px_ent, px_st1, px_st2, px_mask, ↓px_tsw, ↓px_lsw, ct_, mls_0, mls_1, mls_2, mls_3, mls_4, mls_5, kd_0, kd_1, kd_2, kd_3, ln_0, ln_1, ln_2, ln_3, gf_0, gf_1, gf_2, gf_3, gf_4, gf_7, gf_21, gf_63, dy_0, dy_1, dy_2, dy_3, dy_7, dy_21, px_brT, px_brF, true_and, and_true, and_false, false_and, and_self, true_implies, false_implies, or_true, true_or, or_false, false_or, eq_self, ne_eq, not_false_eq_true, not_true_eq_false, if_true, if_false, List.mem_cons, List.not_mem_nil, List.length_cons, List.length_nil, Nat.reduceEqDiff, Nat.reduceAdd, Nat.reduceSub, Nat.reduceLeDiff, Nat.reduceLT, Int.reduceEq, Int.reduceLT, Int.reduceLE, Int.reduceNeg, Int.reduceAdd, Int.reduceSub, Int.reduceToNat, ↓reduceIte, one_ne_zero_, zero_ne_one_, px_in32L, cd_226]
    refine sp_lay (Or.inl rfl) (by omega) (by omega) (fun M1 a1 a2 => ?_)
    have f130 : px_up M 127 3 0 130 = M 130 := row_ne (by decide)
    rw [f130] at a1
    have e128 : M1 128 = M 128 := by rw [a2 128 (by decide), row_ne (by decide)]
    have o2 : out0 M1 M := ⟨fun b b0 => by rw [a2 b (by omega), row_ne (by omega)], by rw [a2 130 (by decide), f130], by rw [a2 127 (by decide), px_up_at, if_pos ⟨rfl, rfl⟩]⟩
    simp only [px_go, px_Q0_at, px_sx_0, px_sx_s, px_cl, px_step, ↓px_ll, px_lg, f4_, ↓px_r1, ↓px_r2, ↓px_r4, ↓px_r5, ↓px_p1, ↓px_p2, ↓px_p3, ↓px_pop, px_k_0, px_k_s, px_k3_0, px_stk_, px_cats, px_ent, px_st1, px_st2, px_mask, ↓px_tsw, ↓px_lsw, ct_, mls_0, mls_1, mls_2, mls_3, mls_4, mls_5, kd_0, kd_1, kd_2, kd_3, ln_0, ln_1, ln_2, ln_3, gf_0, gf_1, gf_2, gf_3, gf_4, gf_7, gf_21, gf_63, dy_0, dy_1, dy_2, dy_3, dy_7, dy_21, px_brT, px_brF, true_and, and_true, and_false, false_and, and_self, true_implies, false_implies, or_true, true_or, or_false, false_or, eq_self, ne_eq, not_false_eq_true, not_true_eq_false, if_true, if_false, List.mem_cons, List.not_mem_nil, List.length_cons, List.length_nil, Nat.reduceEqDiff, Nat.reduceAdd, Nat.reduceSub, Nat.reduceLeDiff, Nat.reduceLT, Int.reduceEq, Int.reduceLT, Int.reduceLE, Int.reduceNeg, Int.reduceAdd, Int.reduceSub, Int.reduceToNat, ↓reduceIte, one_ne_zero_, zero_ne_one_, px_in32L, cd_226]
    refine sp_isP (Or.inl rfl) a1 (fun v => ?_) (fun v => ?_)
    · simp only [px_go, px_Q0_at, px_sx_0, px_sx_s, px_cl, px_step, ↓px_ll, px_lg, f4_, ↓px_r1, ↓px_r2, ↓px_r4, ↓px_r5, ↓px_p1, ↓px_p2, ↓px_p3, ↓px_pop, px_k_0, px_k_s, px_k3_0, px_stk_, px_cats, px_ent, px_st1, px_st2, px_mask, ↓px_tsw, ↓px_lsw, ct_, mls_0, mls_1, mls_2, mls_3, mls_4, mls_5, kd_0, kd_1, kd_2, kd_3, ln_0, ln_1, ln_2, ln_3, gf_0, gf_1, gf_2, gf_3, gf_4, gf_7, gf_21, gf_63, dy_0, dy_1, dy_2, dy_3, dy_7, dy_21, px_brT, px_brF, true_and, and_true, and_false, false_and, and_self, true_implies, false_implies, or_true, true_or, or_false, false_or, eq_self, ne_eq, not_false_eq_true, not_true_eq_false, if_true, if_false, List.mem_cons, List.not_mem_nil, List.length_cons, List.length_nil, Nat.reduceEqDiff, Nat.reduceAdd, Nat.reduceSub, Nat.reduceLeDiff, Nat.reduceLT, Int.reduceEq, Int.reduceLT, Int.reduceLE, Int.reduceNeg, Int.reduceAdd, Int.reduceSub, Int.reduceToNat, ↓reduceIte, one_ne_zero_, zero_ne_one_, px_in32L, cd_226]
      have hne : 0 < M1 131 0 := by rw [a1.1, tw_len (by omega)]; omega
      refine sp_takesAway (g := g) (by rw [e128]; exact hst) hs.1 rfl (by decide) a1.2.2 (by decide) hne (fun M2 N' g' q1 q2 q3 q4 q5 q6 _ => ?_)
      rw [a1.2.1] at q3
      rw [e128] at q5
      have := h1 M2 N' g' hq v q1 q2 q3 q4 q5 (out0_trans (out_128 q6) o2)
      simp only [px_go, px_Q0_at, px_sx_0, px_sx_s, px_cl, px_step, ↓px_ll, px_lg, f4_, ↓px_r1, ↓px_r2, ↓px_r4, ↓px_r5, ↓px_p1, ↓px_p2, ↓px_p3, ↓px_pop, px_k_0, px_k_s, px_k3_0, px_stk_, px_cats, px_ent, px_st1, px_st2, px_mask, ↓px_tsw, ↓px_lsw, ct_, mls_0, mls_1, mls_2, mls_3, mls_4, mls_5, kd_0, kd_1, kd_2, kd_3, ln_0, ln_1, ln_2, ln_3, gf_0, gf_1, gf_2, gf_3, gf_4, gf_7, gf_21, gf_63, dy_0, dy_1, dy_2, dy_3, dy_7, dy_21, px_brT, px_brF, true_and, and_true, and_false, false_and, and_self, true_implies, false_implies, or_true, true_or, or_false, false_or, eq_self, ne_eq, not_false_eq_true, not_true_eq_false, if_true, if_false, List.mem_cons, List.not_mem_nil, List.length_cons, List.length_nil, Nat.reduceEqDiff, Nat.reduceAdd, Nat.reduceSub, Nat.reduceLeDiff, Nat.reduceLT, Int.reduceEq, Int.reduceLT, Int.reduceLE, Int.reduceNeg, Int.reduceAdd, Int.reduceSub, Int.reduceToNat, ↓reduceIte, one_ne_zero_, zero_ne_one_, px_in32L, cd_226]
      repeat' (first | (with_reducible apply And.intro) | (with_reducible refine px_br_intro (fun _ => ?_) (fun _ => ?_)))
      · rename_i c
        rw [if_pos c] at this; exact this
      · rename_i c
        rw [if_neg c] at this; exact this
    · simp only [px_go, px_Q0_at, px_sx_0, px_sx_s, px_cl, px_step, ↓px_ll, px_lg, f4_, ↓px_r1, ↓px_r2, ↓px_r4, ↓px_r5, ↓px_p1, ↓px_p2, ↓px_p3, ↓px_pop, px_k_0, px_k_s, px_k3_0, px_stk_, px_cats, px_ent, px_st1, px_st2, px_mask, ↓px_tsw, ↓px_lsw, ct_, mls_0, mls_1, mls_2, mls_3, mls_4, mls_5, kd_0, kd_1, kd_2, kd_3, ln_0, ln_1, ln_2, ln_3, gf_0, gf_1, gf_2, gf_3, gf_4, gf_7, gf_21, gf_63, dy_0, dy_1, dy_2, dy_3, dy_7, dy_21, px_brT, px_brF, true_and, and_true, and_false, false_and, and_self, true_implies, false_implies, or_true, true_or, or_false, false_or, eq_self, ne_eq, not_false_eq_true, not_true_eq_false, if_true, if_false, List.mem_cons, List.not_mem_nil, List.length_cons, List.length_nil, Nat.reduceEqDiff, Nat.reduceAdd, Nat.reduceSub, Nat.reduceLeDiff, Nat.reduceLT, Int.reduceEq, Int.reduceLT, Int.reduceLE, Int.reduceNeg, Int.reduceAdd, Int.reduceSub, Int.reduceToNat, ↓reduceIte, one_ne_zero_, zero_ne_one_, px_in32L, cd_226]
      exact h2 M1 hq v e128 o2
  · simp only [px_go, px_Q0_at, px_sx_0, px_sx_s, px_cl, px_step, ↓px_ll, px_lg, f4_, ↓px_r1, ↓px_r2, ↓px_r4, ↓px_r5, ↓px_p1, ↓px_p2, ↓px_p3, ↓px_pop, px_k_0, px_k_s, px_k3_0, px_stk_, px_cats, px_ent, px_st1, px_st2, px_mask, ↓px_tsw, ↓px_lsw, ct_, mls_0, mls_1, mls_2, mls_3, mls_4, mls_5, kd_0, kd_1, kd_2, kd_3, ln_0, ln_1, ln_2, ln_3, gf_0, gf_1, gf_2, gf_3, gf_4, gf_7, gf_21, gf_63, dy_0, dy_1, dy_2, dy_3, dy_7, dy_21, px_brT, px_brF, true_and, and_true, and_false, false_and, and_self, true_implies, false_implies, or_true, true_or, or_false, false_or, eq_self, ne_eq, not_false_eq_true, not_true_eq_false, if_true, if_false, List.mem_cons, List.not_mem_nil, List.length_cons, List.length_nil, Nat.reduceEqDiff, Nat.reduceAdd, Nat.reduceSub, Nat.reduceLeDiff, Nat.reduceLT, Int.reduceEq, Int.reduceLT, Int.reduceLE, Int.reduceNeg, Int.reduceAdd, Int.reduceSub, Int.reduceToNat, ↓reduceIte, one_ne_zero_, zero_ne_one_, px_in32L, cd_226]
    exact h0 (fun z => w ⟨z.1, z.2.1, by decide, by decide, by have := z.2.2; omega⟩)
end PS
