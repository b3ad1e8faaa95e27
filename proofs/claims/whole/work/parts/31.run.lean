/-! EditionVault.Pieces: the longest run -/
set_option maxRecDepth 100000 in
/-- X6_make -/
theorem cd_71 : px_at 71 0 = some (1, [], .aload_n 0, []) ∧ px_at 71 1 = some (2, [], .iconst 0, []) ∧ px_at 71 2 = some (5, [], .putfield 15, [5, 1, 0, 0, 62]) ∧ px_at 71 5 = some (6, [], .iconst (-1), []) ∧ px_at 71 6 = some (8, [], .istore 5, []) ∧ px_at 71 8 = some (9, [], .iconst 0, []) ∧ px_at 71 9 = some (11, [], .istore 6, []) ∧ px_at 71 11 = some (13, [1, 1, 1, 1, 1, 1, 1], .iload 6, []) ∧ px_at 71 13 = some (14, [], .iload_n 2, []) ∧ px_at 71 14 = some (17, [], .if_icmp .ge 98, [112]) ∧ px_at 71 17 = some (18, [], .aload_n 0, []) ∧ px_at 71 18 = some (19, [], .aload_n 1, []) ∧ px_at 71 19 = some (21, [], .iload 6, []) ∧ px_at 71 21 = some (22, [], .iload_n 2, []) ∧ px_at 71 22 = some (23, [], .aload_n 3, []) ∧ px_at 71 23 = some (25, [], .iload 4, []) ∧ px_at 71 25 = some (28, [], .invokevirtual 19, [73, 5, 5, 76]) ∧ px_at 71 28 = some (29, [], .aload_n 0, []) ∧ px_at 71 29 = some (32, [], .getfield 23, [5, 3, 0, 0, 65]) ∧ px_at 71 32 = some (33, [], .iconst 3, []) ∧ px_at 71 33 = some (36, [], .if_icmp .lt 38, [71]) ∧ px_at 71 36 = some (37, [], .aload_n 0, []) ∧ px_at 71 37 = some (40, [], .sipush 128, []) ∧ px_at 71 40 = some (41, [], .aload_n 0, []) ∧ px_at 71 41 = some (44, [], .getfield 26, [5, 2, 0, 0, 64]) ∧ px_at 71 44 = some (45, [], .iadd, []) ∧ px_at 71 45 = some (48, [], .invokevirtual 29, [72, 1, 5, 77]) ∧ px_at 71 48 = some (49, [], .aload_n 0, []) ∧ px_at 71 49 = some (50, [], .aload_n 0, []) ∧ px_at 71 50 = some (53, [], .getfield 23, [5, 3, 0, 0, 65]) ∧ px_at 71 53 = some (56, [], .invokevirtual 29, [72, 1, 5, 77]) ∧ px_at 71 56 = some (57, [], .iconst (-1), []) ∧ px_at 71 57 = some (59, [], .istore 5, []) ∧ px_at 71 59 = some (61, [], .iload 6, []) ∧ px_at 71 61 = some (62, [], .aload_n 0, []) ∧ px_at 71 62 = some (65, [], .getfield 23, [5, 3, 0, 0, 65]) ∧ px_at 71 65 = some (66, [], .iadd, []) ∧ px_at 71 66 = some (68, [], .istore 6, []) ∧ px_at 71 68 = some (71, [], .goto (-57), [11]) ∧ px_at 71 71 = some (73, [], .iload 5, []) ∧ px_at 71 73 = some (76, [], .ifCond .ge 14, [87]) ∧ px_at 71 76 = some (77, [], .aload_n 0, []) ∧ px_at 71 77 = some (80, [], .getfield 15, [5, 1, 0, 0, 62]) ∧ px_at 71 80 = some (82, [], .istore 5, []) ∧ px_at 71 82 = some (83, [], .aload_n 0, []) ∧ px_at 71 83 = some (84, [], .iconst 0, []) ∧ px_at 71 84 = some (87, [], .invokevirtual 29, [72, 1, 5, 77]) ∧ px_at 71 87 = some (88, [], .aload_n 0, []) ∧ px_at 71 88 = some (89, [], .aload_n 1, []) ∧ px_at 71 89 = some (91, [], .iload 6, []) ∧ px_at 71 91 = some (92, [], .iaload, []) ∧ px_at 71 92 = some (95, [], .invokevirtual 29, [72, 1, 5, 77]) ∧ px_at 71 95 = some (96, [], .aload_n 0, []) ∧ px_at 71 96 = some (99, [], .getfield 9, [5, 0, 2, 1, 60]) ∧ px_at 71 99 = some (101, [], .iload 5, []) ∧ px_at 71 101 = some (102, [], .dup2, []) ∧ px_at 71 102 = some (103, [], .iaload, []) ∧ px_at 71 103 = some (104, [], .iconst 1, []) ∧ px_at 71 104 = some (105, [], .iadd, []) ∧ px_at 71 105 = some (106, [], .iastore, []) ∧ px_at 71 106 = some (109, [], .iinc 6 1, []) ∧ px_at 71 109 = some (112, [], .goto (-98), [11]) ∧ px_at 71 112 = some (113, [], .aload_n 0, []) ∧ px_at 71 113 = some (116, [], .getfield 15, [5, 1, 0, 0, 62]) ∧ px_at 71 116 = some (117, [], .ireturn, [0]) := ⟨rfl, rfl, rfl, rfl, rfl, rfl, rfl, rfl, rfl, rfl, rfl, rfl, rfl, rfl, rfl, rfl, rfl, rfl, rfl, rfl, rfl, rfl, rfl, rfl, rfl, rfl, rfl, rfl, rfl, rfl, rfl, rfl, rfl, rfl, rfl, rfl, rfl, rfl, rfl, rfl, rfl, rfl, rfl, rfl, rfl, rfl, rfl, rfl, rfl, rfl, rfl, rfl, rfl, rfl, rfl, rfl, rfl, rfl, rfl, rfl, rfl, rfl, rfl, rfl, rfl⟩
set_option maxRecDepth 100000 in
/-- X6_append -/
theorem cd_72 : px_at 72 0 = some (1, [], .aload_n 0, []) ∧ px_at 72 1 = some (4, [], .getfield 15, [5, 1, 0, 0, 62]) ∧ px_at 72 4 = some (5, [], .aload_n 0, []) ∧ px_at 72 5 = some (8, [], .getfield 9, [5, 0, 2, 1, 60]) ∧ px_at 72 8 = some (9, [], .arraylength, []) ∧ px_at 72 9 = some (12, [], .if_icmp .ge 23, [32]) ∧ px_at 72 12 = some (13, [], .aload_n 0, []) ∧ px_at 72 13 = some (16, [], .getfield 9, [5, 0, 2, 1, 60]) ∧ px_at 72 16 = some (17, [], .aload_n 0, []) ∧ px_at 72 17 = some (20, [], .getfield 15, [5, 1, 0, 0, 62]) ∧ px_at 72 20 = some (21, [], .iload_n 1, []) ∧ px_at 72 21 = some (22, [], .iastore, []) ∧ px_at 72 22 = some (23, [], .aload_n 0, []) ∧ px_at 72 23 = some (24, [], .dup, []) ∧ px_at 72 24 = some (27, [], .getfield 15, [5, 1, 0, 0, 62]) ∧ px_at 72 27 = some (28, [], .iconst 1, []) ∧ px_at 72 28 = some (29, [], .iadd, []) ∧ px_at 72 29 = some (32, [], .putfield 15, [5, 1, 0, 0, 62]) ∧ px_at 72 32 = some (33, [], .return_, []) := ⟨rfl, rfl, rfl, rfl, rfl, rfl, rfl, rfl, rfl, rfl, rfl, rfl, rfl, rfl, rfl, rfl, rfl, rfl, rfl⟩
set_option maxRecDepth 100000 in
/-- X6_findRun -/
theorem cd_73 : px_at 73 0 = some (1, [], .aload_n 0, []) ∧ px_at 73 1 = some (2, [], .iconst 0, []) ∧ px_at 73 2 = some (5, [], .putfield 26, [5, 2, 0, 0, 64]) ∧ px_at 73 5 = some (6, [], .aload_n 0, []) ∧ px_at 73 6 = some (7, [], .iconst 0, []) ∧ px_at 73 7 = some (10, [], .putfield 23, [5, 3, 0, 0, 65]) ∧ px_at 73 10 = some (11, [], .iconst 0, []) ∧ px_at 73 11 = some (13, [], .istore 6, []) ∧ px_at 73 13 = some (15, [1, 1, 1, 1, 1, 1, 1, 0], .iload 6, []) ∧ px_at 73 15 = some (16, [], .aload_n 0, []) ∧ px_at 73 16 = some (19, [], .getfield 23, [5, 3, 0, 0, 65]) ∧ px_at 73 19 = some (20, [], .iadd, []) ∧ px_at 73 20 = some (22, [], .iload 5, []) ∧ px_at 73 22 = some (25, [], .if_icmp .ge 84, [106]) ∧ px_at 73 25 = some (26, [], .iload_n 2, []) ∧ px_at 73 26 = some (27, [], .aload_n 0, []) ∧ px_at 73 27 = some (30, [], .getfield 23, [5, 3, 0, 0, 65]) ∧ px_at 73 30 = some (31, [], .iadd, []) ∧ px_at 73 31 = some (32, [], .iload_n 3, []) ∧ px_at 73 32 = some (35, [], .if_icmp .ge 74, [106]) ∧ px_at 73 35 = some (36, [], .iconst 0, []) ∧ px_at 73 36 = some (38, [], .istore 7, []) ∧ px_at 73 38 = some (39, [1, 1, 1, 1, 1, 1, 1, 1], .iload_n 2, []) ∧ px_at 73 39 = some (41, [], .iload 7, []) ∧ px_at 73 41 = some (42, [], .iadd, []) ∧ px_at 73 42 = some (43, [], .iload_n 3, []) ∧ px_at 73 43 = some (46, [], .if_icmp .ge 36, [79]) ∧ px_at 73 46 = some (48, [], .iload 6, []) ∧ px_at 73 48 = some (50, [], .iload 7, []) ∧ px_at 73 50 = some (51, [], .iadd, []) ∧ px_at 73 51 = some (53, [], .iload 5, []) ∧ px_at 73 53 = some (56, [], .if_icmp .ge 26, [79]) ∧ px_at 73 56 = some (57, [], .aload_n 1, []) ∧ px_at 73 57 = some (58, [], .iload_n 2, []) ∧ px_at 73 58 = some (60, [], .iload 7, []) ∧ px_at 73 60 = some (61, [], .iadd, []) ∧ px_at 73 61 = some (62, [], .iaload, []) ∧ px_at 73 62 = some (64, [], .aload 4, []) ∧ px_at 73 64 = some (66, [], .iload 6, []) ∧ px_at 73 66 = some (68, [], .iload 7, []) ∧ px_at 73 68 = some (69, [], .iadd, []) ∧ px_at 73 69 = some (70, [], .iaload, []) ∧ px_at 73 70 = some (73, [], .if_icmp .ne 9, [79]) ∧ px_at 73 73 = some (76, [], .iinc 7 1, []) ∧ px_at 73 76 = some (79, [], .goto (-38), [38]) ∧ px_at 73 79 = some (81, [], .iload 7, []) ∧ px_at 73 81 = some (82, [], .aload_n 0, []) ∧ px_at 73 82 = some (85, [], .getfield 23, [5, 3, 0, 0, 65]) ∧ px_at 73 85 = some (88, [], .if_icmp .le 15, [100]) ∧ px_at 73 88 = some (89, [], .aload_n 0, []) ∧ px_at 73 89 = some (91, [], .iload 6, []) ∧ px_at 73 91 = some (94, [], .putfield 26, [5, 2, 0, 0, 64]) ∧ px_at 73 94 = some (95, [], .aload_n 0, []) ∧ px_at 73 95 = some (97, [], .iload 7, []) ∧ px_at 73 97 = some (100, [], .putfield 23, [5, 3, 0, 0, 65]) ∧ px_at 73 100 = some (103, [], .iinc 6 1, []) ∧ px_at 73 103 = some (106, [], .goto (-90), [13]) ∧ px_at 73 106 = some (107, [], .return_, []) := ⟨rfl, rfl, rfl, rfl, rfl, rfl, rfl, rfl, rfl, rfl, rfl, rfl, rfl, rfl, rfl, rfl, rfl, rfl, rfl, rfl, rfl, rfl, rfl, rfl, rfl, rfl, rfl, rfl, rfl, rfl, rfl, rfl, rfl, rfl, rfl, rfl, rfl, rfl, rfl, rfl, rfl, rfl, rfl, rfl, rfl, rfl, rfl, rfl, rfl, rfl, rfl, rfl, rfl, rfl, rfl, rfl, rfl, rfl⟩
set_option maxRecDepth 100000 in
/-- X1_piecesBy -/
theorem cd_16 : px_at 16 0 = some (1, [], .aload_n 0, []) ∧ px_at 16 1 = some (4, [], .getfield 45, [1, 10, 2, 1, 86]) ∧ px_at 16 4 = some (5, [], .aload_n 2, []) ∧ px_at 16 5 = some (6, [], .iload_n 3, []) ∧ px_at 16 6 = some (7, [], .aload_n 0, []) ∧ px_at 16 7 = some (10, [], .getfield 32, [1, 6, 2, 1, 78]) ∧ px_at 16 10 = some (11, [], .iload_n 1, []) ∧ px_at 16 11 = some (12, [], .aaload, []) ∧ px_at 16 12 = some (13, [], .aload_n 0, []) ∧ px_at 16 13 = some (16, [], .getfield 9, [1, 0, 2, 1, 66]) ∧ px_at 16 16 = some (17, [], .iload_n 1, []) ∧ px_at 16 17 = some (18, [], .iaload, []) ∧ px_at 16 18 = some (21, [], .invokevirtual 87, [71, 4, 5, 75]) ∧ px_at 16 21 = some (22, [], .ireturn, [0]) := ⟨rfl, rfl, rfl, rfl, rfl, rfl, rfl, rfl, rfl, rfl, rfl, rfl, rfl, rfl⟩
noncomputable def rl (D B : Int → Int) (n m i f : Int) : Int := fnd 41 (fun t => n ≤ i + t ∨ m ≤ f + t ∨ D (i + t) ≠ B (f + t))
theorem rl_hit {D B : Int → Int} {n m i f t : Int} (h0 : 0 ≤ t) (h1 : t ≤ 40) (h : n ≤ i + t ∨ m ≤ f + t ∨ D (i + t) ≠ B (f + t)) (hl : ∀ j, 0 ≤ j → j < t → i + j < n ∧ f + j < m ∧ D (i + j) = B (f + j)) : rl D B n m i f = t := by
  unfold rl
  refine fnd_hit h0 (by omega) h (fun j a b c => ?_)
  have h2 := hl j a b
  rcases c with c | c | c
  · omega
  · omega
  · exact c h2.2.2
theorem rl_rng {D B : Int → Int} {n m i f : Int} (hi : 0 ≤ i) (hin : i ≤ n) (hn : n ≤ 40) (hfm : f ≤ m) : 0 ≤ rl D B n m i f ∧ i + rl D B n m i f ≤ n ∧ f + rl D B n m i f ≤ m ∧ ∀ j, 0 ≤ j → j < rl D B n m i f → D (i + j) = B (f + j) := by
  unfold rl
  rcases fnd_spec 41 (fun t => n ≤ i + t ∨ m ≤ f + t ∨ D (i + t) ≠ B (f + t)) with ⟨_, h⟩ | ⟨h0, h1, h2, h3⟩
  · exact absurd (Or.inl (show n ≤ i + 40 by omega)) (h 40 (by omega) (by omega))
  · refine ⟨h0, ?_, ?_, fun j a b => ?_⟩
    · by_cases e : fnd 41 (fun t => n ≤ i + t ∨ m ≤ f + t ∨ D (i + t) ≠ B (f + t)) = 0
      · omega
      · have := h3 (fnd 41 (fun t => n ≤ i + t ∨ m ≤ f + t ∨ D (i + t) ≠ B (f + t)) - 1) (by omega) (by omega)
        omega
    · by_cases e : fnd 41 (fun t => n ≤ i + t ∨ m ≤ f + t ∨ D (i + t) ≠ B (f + t)) = 0
      · omega
      · have := h3 (fnd 41 (fun t => n ≤ i + t ∨ m ≤ f + t ∨ D (i + t) ≠ B (f + t)) - 1) (by omega) (by omega)
        omega
    · have := h3 j a b
      by_cases e : D (i + j) = B (f + j)
      · exact e
      · exact absurd (Or.inr (Or.inr e)) this
/-- the best of the first so many places -/
def isB (D B : Int → Int) (n m i k pl len : Int) : Prop :=
  (∀ f, 0 ≤ f → f < k → rl D B n m i f ≤ len) ∧ ((len = 0 ∧ pl = 0) ∨ (0 < len ∧ 0 ≤ pl ∧ pl < k ∧ rl D B n m i pl = len ∧ ∀ f, 0 ≤ f → f < pl → rl D B n m i f < len))
theorem isB_uniq {D B : Int → Int} {n m i k p l p' l' : Int} (h : isB D B n m i k p l) (h' : isB D B n m i k p' l') : p = p' ∧ l = l' := by
  obtain ⟨a, b⟩ := h
  obtain ⟨a', b'⟩ := h'
  have hl : l = l' := by
    rcases b with b | b <;> rcases b' with b' | b'
    · omega
    · have := a p' b'.2.1 b'.2.2.1; omega
    · have := a' p b.2.1 b.2.2.1; omega
    · have h1 := a p' b'.2.1 b'.2.2.1
      have h2 := a' p b.2.1 b.2.2.1
      omega
  refine ⟨?_, hl⟩
  rcases b with b | b <;> rcases b' with b' | b'
  · omega
  · omega
  · omega
  · by_cases c : p < p'
    · have := b'.2.2.2.2 p b.2.1 c; omega
    · by_cases c2 : p' < p
      · have := b.2.2.2.2 p' b'.2.1 c2; omega
      · omega
theorem isB_ex (D B : Int → Int) (n m i : Int) : ∀ k : Nat, ∃ p l, isB D B n m i k p l := by
  intro k
  induction k with
  | zero => exact ⟨0, 0, fun f a b => by omega, Or.inl ⟨rfl, rfl⟩⟩
  | succ k ih =>
    obtain ⟨p, l, a, b⟩ := ih
    by_cases c : rl D B n m i k ≤ l
    · refine ⟨p, l, fun f f0 f1 => ?_, ?_⟩
      · by_cases e : f = k
        · rw [e]; exact c
        · exact a f f0 (by omega)
      · rcases b with b | b
        · exact Or.inl b
        · exact Or.inr ⟨b.1, b.2.1, by omega, b.2.2.2⟩
    · have hl : 0 ≤ l := by rcases b with b | b <;> omega
      refine ⟨k, rl D B n m i k, fun f f0 f1 => ?_, Or.inr ⟨by omega, by omega, by omega, rfl, fun f f0 f1 => ?_⟩⟩
      · by_cases e : f = k
        · rw [e]; exact Int.le_refl _
        · have := a f f0 (by omega); omega
      · have := a f f0 f1; omega
section PS
variable {M : px_mem} {Q : Option pv → px_mem → Prop}
set_option maxHeartbeats 600000 in
set_option maxRecDepth 100000 in
theorem lp_run2 {v w i n m f : Int} (hkv : px_kd LAY v = 0) (hkw : px_kd LAY w = 0) (hlv : n ≤ px_ln LAY v) (hlw : m ≤ px_ln LAY w) (hi : 0 ≤ i) (hn : n ≤ 40) (hf : 0 ≤ f) (hm : m ≤ 40) (h3 : 0 ≤ M 106 3 ∧ M 106 3 ≤ 40) (hin : i ≤ n) (hx1 : rl (M v) (M w) n m i f ≤ M 106 3 → px_WP 73 0 0 (px_Q0 LAY Q) 13 [(2, 106), (2, v), (0, i), (0, n), (2, w), (0, m), (0, f + 1), (9, 0)] [] LAY M 0 0) (hx2 : ∀ t, rl (M v) (M w) n m i f = t → M 106 3 < t → px_WP 73 0 0 (px_Q0 LAY Q) 13 [(2, 106), (2, v), (0, i), (0, n), (2, w), (0, m), (0, f + 1), (9, 0)] [] LAY (px_up (px_up M 106 2 f) 106 3 t) 0 0) (hfm : f ≤ m) (t : Int) (hk_t : t ≤ 40) : 0 ≤ t → (∀ j, 0 ≤ j → j < t → i + j < n ∧ f + j < m ∧ M v (i + j) = M w (f + j)) → px_WP 73 0 0 (px_Q0 LAY Q) 38 [(2, 106), (2, v), (0, i), (0, n), (2, w), (0, m), (0, f), (0, t)] [] LAY M 0 0 := by
  refine up_ind (P := fun t => 0 ≤ t → (∀ j, 0 ≤ j → j < t → i + j < n ∧ f + j < m ∧ M v (i + j) = M w (f + j)) → px_WP 73 0 0 (px_Q0 LAY Q) 38 [(2, 106), (2, v), (0, i), (0, n), (2, w), (0, m), (0, f), (0, t)] [] LAY M 0 0) (40) (fun t hk_t ih => ?_) t hk_t
  intro ht hj
  have hr := @rl_hit (M v) (M w) n m i f t ht hk_t
  refine px_go_ok (inl := []) 60 ?_
  simp only [px_go, px_Q0_at, px_sx_0, px_sx_s, px_cl, px_step, ↓px_ll, px_lg, f4_, ↓px_r1, ↓px_r2, ↓px_r4, ↓px_r5, ↓px_p1, ↓px_p2, ↓px_p3, ↓px_pop, px_k_0, px_k_s, px_k3_0, px_stk_, px_cats, px_ent, px_st1, px_st2, px_mask, ↓px_tsw, ↓px_lsw, ct_, mls_0, mls_1, mls_2, mls_3, mls_4, mls_5, kd_0, kd_1, kd_2, kd_3, ln_0, ln_1, ln_2, ln_3, gf_0, gf_1, gf_2, gf_3, gf_4, gf_7, gf_21, gf_63, dy_0, dy_1, dy_2, dy_3, dy_7, dy_21, px_brT, px_brF, true_and, and_true, and_false, false_and, and_self, true_implies, false_implies, or_true, true_or, or_false, false_or, eq_self, ne_eq, not_false_eq_true, not_true_eq_false, if_true, if_false, List.mem_cons, List.not_mem_nil, List.length_cons, List.length_nil, Nat.reduceEqDiff, Nat.reduceAdd, Nat.reduceSub, Nat.reduceLeDiff, Nat.reduceLT, Int.reduceEq, Int.reduceLT, Int.reduceLE, Int.reduceNeg, Int.reduceAdd, Int.reduceSub, Int.reduceToNat, ↓reduceIte, one_ne_zero_, zero_ne_one_, px_in32L, cd_73, hkv, hkw]
  repeat' (first | (with_reducible apply And.intro) | (with_reducible refine px_br_intro (fun _ => ?_) (fun _ => ?_)))
  all_goals (try (unfold px_in32))
  all_goals grind -mbtc  (splits := 20) []
theorem isB_stop {D B : Int → Int} {n m i k p l : Int} (hi : 0 ≤ i) (hin : i ≤ n) (hn : n ≤ 40) (hk : k ≤ m) (h : isB D B n m i k p l) (hs : m ≤ k + l ∨ n ≤ i + l) : isB D B n m i m p l := by
  obtain ⟨a, b⟩ := h
  refine ⟨fun f f0 f1 => ?_, ?_⟩
  · by_cases e : f < k
    · exact a f f0 e
    · have := rl_rng (D := D) (B := B) hi hin hn (show f ≤ m by omega)
      omega
  · rcases b with b | b
    · exact Or.inl b
    · exact Or.inr ⟨b.1, b.2.1, by omega, b.2.2.2⟩
theorem isB_nx1 {D B : Int → Int} {n m i k p l : Int} (h : isB D B n m i k p l) (hs : rl D B n m i k ≤ l) : isB D B n m i (k + 1) p l := by
  obtain ⟨a, b⟩ := h
  refine ⟨fun f f0 f1 => ?_, ?_⟩
  · by_cases e : f = k
    · rw [e]; exact hs
    · exact a f f0 (by omega)
  · rcases b with b | b
    · exact Or.inl b
    · exact Or.inr ⟨b.1, b.2.1, by omega, b.2.2.2⟩
theorem isB_nx2 {D B : Int → Int} {n m i k p l t : Int} (hk : 0 ≤ k) (h : isB D B n m i k p l) (ht : rl D B n m i k = t) (hs : l < t) : isB D B n m i (k + 1) k t := by
  obtain ⟨a, b⟩ := h
  have hl : 0 ≤ l := by rcases b with b | b <;> omega
  refine ⟨fun f f0 f1 => ?_, Or.inr ⟨by omega, hk, by omega, ht, fun f f0 f1 => ?_⟩⟩
  · by_cases e : f = k
    · rw [e]; omega
    · have := a f f0 (by omega); omega
  · have := a f f0 (by omega); omega
set_option maxHeartbeats 600000 in
set_option maxRecDepth 100000 in
theorem lp_run1 {M0 : px_mem} {v w i n m : Int} (hkv : px_kd LAY v = 0) (hkw : px_kd LAY w = 0) (hlv : n ≤ px_ln LAY v) (hlw : m ≤ px_ln LAY w) (hv : v ≠ 106) (hw : w ≠ 106) (hi : 0 ≤ i) (hn : n ≤ 40) (hm : m ≤ 40) (hin : i ≤ n) (h : ∀ M', isB (M0 v) (M0 w) n m i m (M' 106 2) (M' 106 3) → (∀ b, b ≠ 106 → M' b = M0 b) → (∀ x, x ≠ 2 → x ≠ 3 → M' 106 x = M0 106 x) → Q none M') (f : Int) (hk_f : f ≤ m) : ∀ M, 0 ≤ f → isB (M0 v) (M0 w) n m i f (M 106 2) (M 106 3) → (∀ b, b ≠ 106 → M b = M0 b) → (∀ x, x ≠ 2 → x ≠ 3 → M 106 x = M0 106 x) → px_WP 73 0 0 (px_Q0 LAY Q) 13 [(2, 106), (2, v), (0, i), (0, n), (2, w), (0, m), (0, f), (9, 0)] [] LAY M 0 0 := by
  refine up_ind (P := fun f => ∀ M, 0 ≤ f → isB (M0 v) (M0 w) n m i f (M 106 2) (M 106 3) → (∀ b, b ≠ 106 → M b = M0 b) → (∀ x, x ≠ 2 → x ≠ 3 → M 106 x = M0 106 x) → px_WP 73 0 0 (px_Q0 LAY Q) 13 [(2, 106), (2, v), (0, i), (0, n), (2, w), (0, m), (0, f), (9, 0)] [] LAY M 0 0) (m) (fun f hk_f ih => ?_) f hk_f
  intro M hf0 hb hf hf3
  have hl0 : 0 ≤ M 106 3 ∧ M 106 3 ≤ 40 := by
    obtain ⟨a, b⟩ := hb
    rcases b with b | b
    · omega
    · have := rl_rng (D := M0 v) (B := M0 w) hi hin hn (show M 106 2 ≤ m by omega); omega
  refine px_go_ok (inl := []) 60 ?_
  simp only [px_go, px_Q0_at, px_sx_0, px_sx_s, px_cl, px_step, ↓px_ll, px_lg, f4_, ↓px_r1, ↓px_r2, ↓px_r4, ↓px_r5, ↓px_p1, ↓px_p2, ↓px_p3, ↓px_pop, px_k_0, px_k_s, px_k3_0, px_stk_, px_cats, px_ent, px_st1, px_st2, px_mask, ↓px_tsw, ↓px_lsw, ct_, mls_0, mls_1, mls_2, mls_3, mls_4, mls_5, kd_0, kd_1, kd_2, kd_3, ln_0, ln_1, ln_2, ln_3, gf_0, gf_1, gf_2, gf_3, gf_4, gf_7, gf_21, gf_63, dy_0, dy_1, dy_2, dy_3, dy_7, dy_21, px_brT, px_brF, true_and, and_true, and_false, false_and, and_self, true_implies, false_implies, or_true, true_or, or_false, false_or, eq_self, ne_eq, not_false_eq_true, not_true_eq_false, if_true, if_false, List.mem_cons, List.not_mem_nil, List.length_cons, List.length_nil, Nat.reduceEqDiff, Nat.reduceAdd, Nat.reduceSub, Nat.reduceLeDiff, Nat.reduceLT, Int.reduceEq, Int.reduceLT, Int.reduceLE, Int.reduceNeg, Int.reduceAdd, Int.reduceSub, Int.reduceToNat, ↓reduceIte, one_ne_zero_, zero_ne_one_, px_in32L, cd_73]
  repeat' (first | (with_reducible apply And.intro) | (with_reducible refine px_br_intro (fun _ => ?_) (fun _ => ?_)))
  all_goals (try (first | (unfold px_in32; omega) | omega))
  · rename_i c1
    exact h M (isB_stop hi hin hn hk_f hb (Or.inl (by omega))) hf hf3
  · rename_i c1 c2
    exact h M (isB_stop hi hin hn hk_f hb (Or.inr (by omega))) hf hf3
  · rename_i c1 c2
    refine lp_run2 hkv hkw hlv hlw hi hn hf0 hm hl0 hin ?_ ?_ hk_f 0 (by decide) (Int.le_refl 0) (fun j a b => by omega)
    · rw [hf v hv, hf w hw]
      intro e
      exact ih (by omega) M (by omega) (isB_nx1 hb e) hf hf3
    · rw [hf v hv, hf w hw]
      intro t e1 e2
      refine ih (by omega) _ (by omega) ?_ (fun b hb => by rw [row_ne hb, row_ne hb]; exact hf b hb) (fun x x2 x3 => by rw [px_up_at, if_neg (by omega), px_up_at, if_neg (by omega)]; exact hf3 x x2 x3)
      have g2 : px_up (px_up M 106 2 f) 106 3 t 106 2 = f := by rw [px_up_at, if_neg (by decide), px_up_at, if_pos ⟨rfl, rfl⟩]
      have g3 : px_up (px_up M 106 2 f) 106 3 t 106 3 = t := by rw [px_up_at, if_pos ⟨rfl, rfl⟩]
      rw [g2, g3]
      exact isB_nx2 hf0 hb e1 e2
set_option maxHeartbeats 600000 in
set_option maxRecDepth 100000 in
theorem sp_findRun {v w i n m : Int} (hkv : px_kd LAY v = 0) (hkw : px_kd LAY w = 0) (hlv : n ≤ px_ln LAY v) (hlw : m ≤ px_ln LAY w) (hv : v ≠ 106) (hw : w ≠ 106) (hi : 0 ≤ i) (hn : n ≤ 40) (hm0 : 0 ≤ m) (hm : m ≤ 40) (hin : i ≤ n) (h : ∀ M', isB (M v) (M w) n m i m (M' 106 2) (M' 106 3) → (∀ b, b ≠ 106 → M' b = M b) → (∀ x, x ≠ 2 → x ≠ 3 → M' 106 x = M 106 x) → Q none M') : px_Ok 73 [(2, 106), (2, v), (0, i), (0, n), (2, w), (0, m)] LAY M Q := by
  refine px_ok_go (inl := []) (ls0 := [(2, 106), (2, v), (0, i), (0, n), (2, w), (0, m), (9, 0), (9, 0)]) 60 (by decide) (Nat.le_of_ble_eq_true rfl) rfl ?_
  simp only [px_go, px_Q0_at, px_sx_0, px_sx_s, px_cl, px_step, ↓px_ll, px_lg, f4_, ↓px_r1, ↓px_r2, ↓px_r4, ↓px_r5, ↓px_p1, ↓px_p2, ↓px_p3, ↓px_pop, px_k_0, px_k_s, px_k3_0, px_stk_, px_cats, px_ent, px_st1, px_st2, px_mask, ↓px_tsw, ↓px_lsw, ct_, mls_0, mls_1, mls_2, mls_3, mls_4, mls_5, kd_0, kd_1, kd_2, kd_3, ln_0, ln_1, ln_2, ln_3, gf_0, gf_1, gf_2, gf_3, gf_4, gf_7, gf_21, gf_63, dy_0, dy_1, dy_2, dy_3, dy_7, dy_21, px_brT, px_brF, true_and, and_true, and_false, false_and, and_self, true_implies, false_implies, or_true, true_or, or_false, false_or, eq_self, ne_eq, not_false_eq_true, not_true_eq_false, if_true, if_false, List.mem_cons, List.not_mem_nil, List.length_cons, List.length_nil, Nat.reduceEqDiff, Nat.reduceAdd, Nat.reduceSub, Nat.reduceLeDiff, Nat.reduceLT, Int.reduceEq, Int.reduceLT, Int.reduceLE, Int.reduceNeg, Int.reduceAdd, Int.reduceSub, Int.reduceToNat, ↓reduceIte, one_ne_zero_, zero_ne_one_, px_in32L, cd_73]
  repeat' (first | (with_reducible apply And.intro) | (with_reducible refine px_br_intro (fun _ => ?_) (fun _ => ?_)))
  all_goals (try (first | (unfold px_in32; omega) | omega))
  refine lp_run1 (M0 := M) hkv hkw hlv hlw hv hw hi hn hm hin h 0 hm0 _ (Int.le_refl 0) ?_ (fun b hb => by rw [row_ne hb, row_ne hb]) (fun x x2 x3 => by rw [px_up_at, if_neg (by omega), px_up_at, if_neg (by omega)])
  have g2 : px_up (px_up M 106 2 0) 106 3 0 106 2 = 0 := by rw [px_up_at, if_neg (by decide), px_up_at, if_pos ⟨rfl, rfl⟩]
  have g3 : px_up (px_up M 106 2 0) 106 3 0 106 3 = 0 := by rw [px_up_at, if_pos ⟨rfl, rfl⟩]
  rw [g2, g3]
  exact ⟨fun f a b => by omega, Or.inl ⟨rfl, rfl⟩⟩
end PS
