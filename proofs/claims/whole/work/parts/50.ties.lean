/-! EditionVault.Ties -/
set_option maxRecDepth 100000 in
/-- X10_tally -/
theorem cd_109 : px_at 109 0 = some (1, [], .iconst 0, []) ∧ px_at 109 1 = some (2, [], .istore_n 3, []) ∧ px_at 109 2 = some (3, [1, 1, 1, 1, 0, 0], .iload_n 3, []) ∧ px_at 109 3 = some (5, [], .bipush 40, []) ∧ px_at 109 5 = some (8, [], .if_icmp .ge 23, [28]) ∧ px_at 109 8 = some (9, [], .aload_n 0, []) ∧ px_at 109 9 = some (12, [], .getfield 9, [9, 0, 2, 1, 89]) ∧ px_at 109 12 = some (13, [], .iload_n 3, []) ∧ px_at 109 13 = some (14, [], .iconst 0, []) ∧ px_at 109 14 = some (15, [], .iastore, []) ∧ px_at 109 15 = some (16, [], .aload_n 0, []) ∧ px_at 109 16 = some (19, [], .getfield 21, [9, 3, 2, 1, 95]) ∧ px_at 109 19 = some (20, [], .iload_n 3, []) ∧ px_at 109 20 = some (21, [], .iconst 0, []) ∧ px_at 109 21 = some (22, [], .iastore, []) ∧ px_at 109 22 = some (25, [], .iinc 3 1, []) ∧ px_at 109 25 = some (28, [], .goto (-23), [2]) ∧ px_at 109 28 = some (29, [], .iconst 0, []) ∧ px_at 109 29 = some (30, [], .istore_n 3, []) ∧ px_at 109 30 = some (31, [1, 1, 1, 1, 0, 0], .iload_n 3, []) ∧ px_at 109 31 = some (32, [], .aload_n 1, []) ∧ px_at 109 32 = some (35, [], .getfield 24, [3, 1, 0, 0, 49]) ∧ px_at 109 35 = some (38, [], .if_icmp .ge 76, [111]) ∧ px_at 109 38 = some (39, [], .aload_n 1, []) ∧ px_at 109 39 = some (40, [], .iload_n 3, []) ∧ px_at 109 40 = some (43, [], .invokevirtual 30, [45, 1, 3, 111]) ∧ px_at 109 43 = some (45, [], .astore 4, []) ∧ px_at 109 45 = some (46, [], .iconst 0, []) ∧ px_at 109 46 = some (48, [], .istore 5, []) ∧ px_at 109 48 = some (50, [1, 1, 1, 1, 1, 1], .aload 4, []) ∧ px_at 109 50 = some (53, [], .ifnull 55, [105]) ∧ px_at 109 53 = some (55, [], .iload 5, []) ∧ px_at 109 55 = some (57, [], .aload 4, []) ∧ px_at 109 57 = some (60, [], .getfield 34, [2, 2, 0, 0, 30]) ∧ px_at 109 60 = some (63, [], .if_icmp .ge 45, [105]) ∧ px_at 109 63 = some (64, [], .aload_n 0, []) ∧ px_at 109 64 = some (67, [], .getfield 9, [9, 0, 2, 1, 89]) ∧ px_at 109 67 = some (69, [], .aload 4, []) ∧ px_at 109 69 = some (72, [], .getfield 39, [2, 1, 2, 1, 25]) ∧ px_at 109 72 = some (74, [], .iload 5, []) ∧ px_at 109 74 = some (75, [], .iaload, []) ∧ px_at 109 75 = some (76, [], .dup2, []) ∧ px_at 109 76 = some (77, [], .iaload, []) ∧ px_at 109 77 = some (78, [], .iconst 1, []) ∧ px_at 109 78 = some (79, [], .iadd, []) ∧ px_at 109 79 = some (80, [], .iastore, []) ∧ px_at 109 80 = some (81, [], .aload_n 0, []) ∧ px_at 109 81 = some (84, [], .getfield 21, [9, 3, 2, 1, 95]) ∧ px_at 109 84 = some (86, [], .aload 4, []) ∧ px_at 109 86 = some (89, [], .getfield 39, [2, 1, 2, 1, 25]) ∧ px_at 109 89 = some (91, [], .iload 5, []) ∧ px_at 109 91 = some (92, [], .iaload, []) ∧ px_at 109 92 = some (93, [], .dup2, []) ∧ px_at 109 93 = some (94, [], .iaload, []) ∧ px_at 109 94 = some (95, [], .iconst 1, []) ∧ px_at 109 95 = some (96, [], .iload_n 3, []) ∧ px_at 109 96 = some (97, [], .ishl, []) ∧ px_at 109 97 = some (98, [], .ior, []) ∧ px_at 109 98 = some (99, [], .iastore, []) ∧ px_at 109 99 = some (102, [], .iinc 5 1, []) ∧ px_at 109 102 = some (105, [], .goto (-54), [48]) ∧ px_at 109 105 = some (108, [], .iinc 3 1, []) ∧ px_at 109 108 = some (111, [], .goto (-78), [30]) ∧ px_at 109 111 = some (112, [], .iconst 0, []) ∧ px_at 109 112 = some (113, [], .istore_n 3, []) ∧ px_at 109 113 = some (114, [1, 0, 1, 1, 0, 0], .iload_n 3, []) ∧ px_at 109 114 = some (116, [], .bipush 40, []) ∧ px_at 109 116 = some (119, [], .if_icmp .ge 28, [144]) ∧ px_at 109 119 = some (120, [], .aload_n 0, []) ∧ px_at 109 120 = some (123, [], .getfield 15, [9, 1, 2, 1, 91]) ∧ px_at 109 123 = some (124, [], .iload_n 3, []) ∧ px_at 109 124 = some (125, [], .aload_n 0, []) ∧ px_at 109 125 = some (128, [], .getfield 9, [9, 0, 2, 1, 89]) ∧ px_at 109 128 = some (129, [], .iload_n 3, []) ∧ px_at 109 129 = some (130, [], .iaload, []) ∧ px_at 109 130 = some (131, [], .iastore, []) ∧ px_at 109 131 = some (132, [], .aload_n 0, []) ∧ px_at 109 132 = some (135, [], .getfield 18, [9, 2, 2, 1, 93]) ∧ px_at 109 135 = some (136, [], .iload_n 3, []) ∧ px_at 109 136 = some (137, [], .iconst 1, []) ∧ px_at 109 137 = some (138, [], .iastore, []) ∧ px_at 109 138 = some (141, [], .iinc 3 1, []) ∧ px_at 109 141 = some (144, [], .goto (-28), [113]) ∧ px_at 109 144 = some (145, [], .aload_n 0, []) ∧ px_at 109 145 = some (146, [], .aload_n 2, []) ∧ px_at 109 146 = some (149, [], .invokevirtual 40, [110, 1, 9, 112]) ∧ px_at 109 149 = some (150, [], .return_, []) := ⟨rfl, rfl, rfl, rfl, rfl, rfl, rfl, rfl, rfl, rfl, rfl, rfl, rfl, rfl, rfl, rfl, rfl, rfl, rfl, rfl, rfl, rfl, rfl, rfl, rfl, rfl, rfl, rfl, rfl, rfl, rfl, rfl, rfl, rfl, rfl, rfl, rfl, rfl, rfl, rfl, rfl, rfl, rfl, rfl, rfl, rfl, rfl, rfl, rfl, rfl, rfl, rfl, rfl, rfl, rfl, rfl, rfl, rfl, rfl, rfl, rfl, rfl, rfl, rfl, rfl, rfl, rfl, rfl, rfl, rfl, rfl, rfl, rfl, rfl, rfl, rfl, rfl, rfl, rfl, rfl, rfl, rfl, rfl, rfl, rfl, rfl, rfl⟩
set_option maxRecDepth 100000 in
/-- X10_handDown -/
theorem cd_110 : px_at 110 0 = some (1, [], .iconst 3, []) ∧ px_at 110 1 = some (2, [], .istore_n 2, []) ∧ px_at 110 2 = some (3, [1, 1, 1, 0, 0], .iload_n 2, []) ∧ px_at 110 3 = some (6, [], .ifCond .le 89, [92]) ∧ px_at 110 6 = some (7, [], .iconst 0, []) ∧ px_at 110 7 = some (8, [], .istore_n 3, []) ∧ px_at 110 8 = some (9, [1, 1, 1, 1, 0], .iload_n 3, []) ∧ px_at 110 9 = some (11, [], .bipush 40, []) ∧ px_at 110 11 = some (14, [], .if_icmp .ge 75, [86]) ∧ px_at 110 14 = some (15, [], .aload_n 1, []) ∧ px_at 110 15 = some (18, [], .getfield 44, [1, 5, 2, 1, 77]) ∧ px_at 110 18 = some (19, [], .iload_n 3, []) ∧ px_at 110 19 = some (20, [], .iaload, []) ∧ px_at 110 20 = some (21, [], .iload_n 2, []) ∧ px_at 110 21 = some (24, [], .if_icmp .ne 59, [80]) ∧ px_at 110 24 = some (25, [], .aload_n 1, []) ∧ px_at 110 25 = some (28, [], .getfield 49, [1, 4, 2, 1, 75]) ∧ px_at 110 28 = some (29, [], .iload_n 3, []) ∧ px_at 110 29 = some (30, [], .iaload, []) ∧ px_at 110 30 = some (32, [], .istore 4, []) ∧ px_at 110 32 = some (33, [], .aload_n 0, []) ∧ px_at 110 33 = some (36, [], .getfield 15, [9, 1, 2, 1, 91]) ∧ px_at 110 36 = some (38, [], .iload 4, []) ∧ px_at 110 38 = some (39, [], .dup2, []) ∧ px_at 110 39 = some (40, [], .iaload, []) ∧ px_at 110 40 = some (41, [], .aload_n 0, []) ∧ px_at 110 41 = some (44, [], .getfield 15, [9, 1, 2, 1, 91]) ∧ px_at 110 44 = some (45, [], .iload_n 3, []) ∧ px_at 110 45 = some (46, [], .iaload, []) ∧ px_at 110 46 = some (47, [], .iadd, []) ∧ px_at 110 47 = some (48, [], .iastore, []) ∧ px_at 110 48 = some (49, [], .aload_n 0, []) ∧ px_at 110 49 = some (52, [], .getfield 18, [9, 2, 2, 1, 93]) ∧ px_at 110 52 = some (54, [], .iload 4, []) ∧ px_at 110 54 = some (55, [], .dup2, []) ∧ px_at 110 55 = some (56, [], .iaload, []) ∧ px_at 110 56 = some (57, [], .aload_n 0, []) ∧ px_at 110 57 = some (60, [], .getfield 18, [9, 2, 2, 1, 93]) ∧ px_at 110 60 = some (61, [], .iload_n 3, []) ∧ px_at 110 61 = some (62, [], .iaload, []) ∧ px_at 110 62 = some (63, [], .iadd, []) ∧ px_at 110 63 = some (64, [], .iastore, []) ∧ px_at 110 64 = some (65, [], .aload_n 0, []) ∧ px_at 110 65 = some (68, [], .getfield 21, [9, 3, 2, 1, 95]) ∧ px_at 110 68 = some (70, [], .iload 4, []) ∧ px_at 110 70 = some (71, [], .dup2, []) ∧ px_at 110 71 = some (72, [], .iaload, []) ∧ px_at 110 72 = some (73, [], .aload_n 0, []) ∧ px_at 110 73 = some (76, [], .getfield 21, [9, 3, 2, 1, 95]) ∧ px_at 110 76 = some (77, [], .iload_n 3, []) ∧ px_at 110 77 = some (78, [], .iaload, []) ∧ px_at 110 78 = some (79, [], .ior, []) ∧ px_at 110 79 = some (80, [], .iastore, []) ∧ px_at 110 80 = some (83, [], .iinc 3 1, []) ∧ px_at 110 83 = some (86, [], .goto (-75), [8]) ∧ px_at 110 86 = some (89, [], .iinc 2 (-1), []) ∧ px_at 110 89 = some (92, [], .goto (-87), [2]) ∧ px_at 110 92 = some (93, [], .return_, []) := ⟨rfl, rfl, rfl, rfl, rfl, rfl, rfl, rfl, rfl, rfl, rfl, rfl, rfl, rfl, rfl, rfl, rfl, rfl, rfl, rfl, rfl, rfl, rfl, rfl, rfl, rfl, rfl, rfl, rfl, rfl, rfl, rfl, rfl, rfl, rfl, rfl, rfl, rfl, rfl, rfl, rfl, rfl, rfl, rfl, rfl, rfl, rfl, rfl, rfl, rfl, rfl, rfl, rfl, rfl, rfl, rfl, rfl, rfl⟩
set_option maxRecDepth 100000 in
/-- X10_bytesOnlyIn -/
theorem cd_111 : px_at 111 0 = some (1, [], .iconst 0, []) ∧ px_at 111 1 = some (2, [], .istore_n 3, []) ∧ px_at 111 2 = some (3, [], .iconst 0, []) ∧ px_at 111 3 = some (5, [], .istore 4, []) ∧ px_at 111 5 = some (7, [1, 1, 1, 1, 1], .iload 4, []) ∧ px_at 111 7 = some (9, [], .bipush 40, []) ∧ px_at 111 9 = some (12, [], .if_icmp .ge 42, [51]) ∧ px_at 111 12 = some (13, [], .aload_n 2, []) ∧ px_at 111 13 = some (15, [], .iload 4, []) ∧ px_at 111 15 = some (18, [], .invokevirtual 52, [7, 1, 1, 146]) ∧ px_at 111 18 = some (21, [], .ifCond .eq 27, [45]) ∧ px_at 111 21 = some (22, [], .aload_n 0, []) ∧ px_at 111 22 = some (25, [], .getfield 21, [9, 3, 2, 1, 95]) ∧ px_at 111 25 = some (27, [], .iload 4, []) ∧ px_at 111 27 = some (28, [], .iaload, []) ∧ px_at 111 28 = some (29, [], .iload_n 1, []) ∧ px_at 111 29 = some (30, [], .iconst (-1), []) ∧ px_at 111 30 = some (31, [], .ixor, []) ∧ px_at 111 31 = some (32, [], .iand, []) ∧ px_at 111 32 = some (35, [], .ifCond .ne 13, [45]) ∧ px_at 111 35 = some (36, [], .iload_n 3, []) ∧ px_at 111 36 = some (37, [], .aload_n 2, []) ∧ px_at 111 37 = some (40, [], .getfield 56, [1, 3, 2, 1, 73]) ∧ px_at 111 40 = some (42, [], .iload 4, []) ∧ px_at 111 42 = some (43, [], .iaload, []) ∧ px_at 111 43 = some (44, [], .iadd, []) ∧ px_at 111 44 = some (45, [], .istore_n 3, []) ∧ px_at 111 45 = some (48, [], .iinc 4 1, []) ∧ px_at 111 48 = some (51, [], .goto (-43), [5]) ∧ px_at 111 51 = some (52, [], .iload_n 3, []) ∧ px_at 111 52 = some (53, [], .ireturn, [0]) := ⟨rfl, rfl, rfl, rfl, rfl, rfl, rfl, rfl, rfl, rfl, rfl, rfl, rfl, rfl, rfl, rfl, rfl, rfl, rfl, rfl, rfl, rfl, rfl, rfl, rfl, rfl, rfl, rfl, rfl, rfl, rfl⟩
noncomputable def ifP (p : Prop) (v : Int) : Int := by
  classical
  exact if p then v else 0
theorem ifP_t {p : Prop} {v : Int} (h : p) : ifP p v = v := by unfold ifP; rw [if_pos h]
theorem ifP_f {p : Prop} {v : Int} (h : ¬ p) : ifP p v = 0 := by unfold ifP; rw [if_neg h]
theorem ifP_congr {p q : Prop} {v w : Int} (h : p ↔ q) (e : p → v = w) : ifP p v = ifP q w := by
  by_cases c : p
  · rw [ifP_t c, ifP_t (h.mp c), e c]
  · rw [ifP_f c, ifP_f (fun d => c (h.mpr d))]
theorem ifP_rng {p : Prop} {v c : Int} (h : p → 0 ≤ v ∧ v ≤ c) (hc : 0 ≤ c) : 0 ≤ ifP p v ∧ ifP p v ≤ c := by
  by_cases q : p
  · rw [ifP_t q]; exact h q
  · rw [ifP_f q]; omega
theorem sm_add1 {f g : Int → Int} {n k : Int} (k0 : 0 ≤ k) (k1 : k < n) (h : ∀ d, 0 ≤ d → d < n → d ≠ k → g d = f d) : sm n g = sm n f + (g k - f k) := by
  have key : ∀ m : Nat, (m : Int) ≤ n → sm m g = sm m f + (if k < (m : Int) then g k - f k else 0) := by
    intro m
    induction m with
    | zero => intro _; rw [show ((0 : Nat) : Int) = 0 from rfl, sm_0, sm_0, if_neg (by omega)]; rfl
    | succ m ih =>
      intro hm
      rw [Int.natCast_succ] at *
      rw [sm_s (by omega), sm_s (by omega), ih (by omega)]
      by_cases e : (m : Int) = k
      · rw [if_neg (by omega), if_pos (by omega), e]; omega
      · rw [h m (by omega) (by omega) e]
        by_cases e2 : k < (m : Int)
        · rw [if_pos e2, if_pos (by omega)]; omega
        · rw [if_neg e2, if_neg (by omega)]; omega
  have := key n.toNat (by omega)
  rw [Int.toNat_of_nonneg (by omega), if_pos k1] at this
  exact this
/-- how often a content is listed -/
noncomputable def lsN (N : Int) (nf : Int → Int) (cf : Int → Int → Int) (c : Int) : Int := sm N (fun i => sm (nf i) (fun j => b1 (cf i j = c)))
def lsE (nf : Int → Int) (cf : Int → Int → Int) (i c : Int) : Prop := ∃ j, 0 ≤ j ∧ j < nf i ∧ cf i j = c
/-- with what is by it, and so on: sums and sets; depths dd, bases bs -/
noncomputable def full (dd bs f : Int → Int) : Nat → Int → Int
  | 0, c => f c
  | k + 1, c => f c + sm 40 (fun d => ifP (0 ≤ dd d ∧ bs d = c) (full dd bs f k d))
def fullS (dd bs : Int → Int) (P : Int → Prop) : Nat → Int → Prop
  | 0, c => P c
  | k + 1, c => P c ∨ ∃ d, 0 ≤ d ∧ d < 40 ∧ 0 ≤ dd d ∧ bs d = c ∧ fullS dd bs P k d
/-- depths count bases -/
def dpt (dd bs : Int → Int) : Prop := ∀ c, 0 ≤ c → c < 40 → 0 ≤ dd c → dd c ≤ 3 ∧ ((bs c < 0 ∧ dd c = 0) ∨ (0 ≤ bs c ∧ bs c < 40 ∧ 0 ≤ dd (bs c) ∧ dd c = dd (bs c) + 1))
theorem full_st {dd bs f : Int → Int} (h : dpt dd bs) : ∀ (m : Nat) (c : Int), 0 ≤ c → c < 40 → 0 ≤ dd c → 3 ≤ m + dd c → full dd bs f (m + 1) c = full dd bs f m c := by
  intro m
  induction m with
  | zero =>
    intro c c0 c1 c2 c3
    show f c + sm 40 _ = f c
    have e : sm 40 (fun d => ifP (0 ≤ dd d ∧ bs d = c) (full dd bs f 0 d)) = sm 40 (fun _ => 0) := sm_congr (fun d d0 d1 => ifP_f (fun q => by
      have := h d d0 d1 q.1
      have := q.2
      have e : dd (bs d) = dd c := by rw [q.2]
      omega))
    rw [e, sm_const 40 0 (by decide)]; omega
  | succ m ih =>
    intro c c0 c1 c2 c3
    refine congrArg (fun z => f c + z) (sm_congr (fun d d0 d1 => ifP_congr Iff.rfl (fun q => ?_)))
    have := h d d0 d1 q.1
    have e : dd (bs d) = dd c := by rw [q.2]
    exact ih d d0 d1 q.1 (by omega)
theorem full_eq {dd bs f : Int → Int} (h : dpt dd bs) {c : Int} (c0 : 0 ≤ c) : full dd bs f 3 c = f c + sm 40 (fun d => ifP (0 ≤ dd d ∧ bs d = c) (full dd bs f 3 d)) := by
  refine congrArg (fun z => f c + z) (sm_congr (fun d d0 d1 => ifP_congr Iff.rfl (fun q => ?_)))
  have := h d d0 d1 q.1
  exact (full_st h 2 d d0 d1 q.1 (by omega)).symm
theorem fullS_st {dd bs : Int → Int} {P : Int → Prop} (h : dpt dd bs) : ∀ (m : Nat) (c : Int), 0 ≤ c → c < 40 → 0 ≤ dd c → 3 ≤ m + dd c → (fullS dd bs P (m + 1) c ↔ fullS dd bs P m c) := by
  intro m
  induction m with
  | zero =>
    intro c c0 c1 c2 c3
    show (P c ∨ _) ↔ P c
    refine ⟨fun q => ?_, Or.inl⟩
    rcases q with q | ⟨d, d0, d1, d2, d3, _⟩
    · exact q
    · have := h d d0 d1 d2
      have e : dd (bs d) = dd c := by rw [d3]
      omega
  | succ m ih =>
    intro c c0 c1 c2 c3
    show (P c ∨ _) ↔ (P c ∨ _)
    refine or_congr Iff.rfl (exists_congr (fun d => ?_))
    constructor
    · rintro ⟨d0, d1, d2, d3, d4⟩
      have := h d d0 d1 d2
      have e : dd (bs d) = dd c := by rw [d3]
      exact ⟨d0, d1, d2, d3, (ih d d0 d1 d2 (by omega)).mp d4⟩
    · rintro ⟨d0, d1, d2, d3, d4⟩
      have := h d d0 d1 d2
      have e : dd (bs d) = dd c := by rw [d3]
      exact ⟨d0, d1, d2, d3, (ih d d0 d1 d2 (by omega)).mpr d4⟩
theorem fullS_eq {dd bs : Int → Int} {P : Int → Prop} (h : dpt dd bs) {c : Int} (c0 : 0 ≤ c) : fullS dd bs P 3 c ↔ (P c ∨ ∃ d, 0 ≤ d ∧ d < 40 ∧ 0 ≤ dd d ∧ bs d = c ∧ fullS dd bs P 3 d) := by
  show (P c ∨ _) ↔ _
  refine or_congr Iff.rfl (exists_congr (fun d => ?_))
  constructor
  · rintro ⟨d0, d1, d2, d3, d4⟩
    have := h d d0 d1 d2
    exact ⟨d0, d1, d2, d3, (fullS_st h 2 d d0 d1 d2 (by omega)).mpr d4⟩
  · rintro ⟨d0, d1, d2, d3, d4⟩
    have := h d d0 d1 d2
    exact ⟨d0, d1, d2, d3, (fullS_st h 2 d d0 d1 d2 (by omega)).mp d4⟩
theorem full_rng {dd bs f : Int → Int} {B : Int} (hB : 0 ≤ B) (hf : ∀ c, 0 ≤ c → c < 40 → 0 ≤ f c ∧ f c ≤ B) : ∀ (m : Nat) (c : Int), 0 ≤ c → c < 40 → 0 ≤ full dd bs f m c ∧ full dd bs f m c ≤ B * 41 ^ m := by
  intro m
  induction m with
  | zero => intro c c0 c1; rw [show (41 : Int) ^ 0 = 1 from rfl, Int.mul_one]; exact hf c c0 c1
  | succ m ih =>
    intro c c0 c1
    have hs := sm_bnd (c := B * 41 ^ m) (n := 40) (by decide) (f := fun d => ifP (0 ≤ dd d ∧ bs d = c) (full dd bs f m d)) (fun d d0 d1 => ifP_rng (fun _ => ih d d0 d1) (by
      have := ih d d0 d1; omega))
    have h1 := hf c c0 c1
    show 0 ≤ f c + sm 40 _ ∧ f c + sm 40 _ ≤ _
    rw [Int.pow_succ, ← Int.mul_assoc]
    have hp : B ≤ B * 41 ^ m := by
      have h41 : ∀ m : Nat, (1 : Int) ≤ 41 ^ m := by
        intro m
        induction m with
        | zero => decide
        | succ m ih => rw [Int.pow_succ]; omega
      have := Int.mul_le_mul_of_nonneg_left (h41 m) hB
      omega
    generalize B * 41 ^ m = X at *
    omega
/-- half handed down: depths above D, and of D those before k -/
def hdC (dd bs f : Int → Int) (V : Int → Int) (D k : Int) : Prop := ∀ c, 0 ≤ c → c < 40 → V c = f c + sm 40 (fun d => ifP (0 ≤ dd d ∧ bs d = c ∧ (D < dd d ∨ (dd d = D ∧ d < k))) (full dd bs f 3 d))
def hdS (dd bs : Int → Int) (P : Int → Int → Prop) (W : Int → Int) (D k : Int) : Prop := ∀ c, 0 ≤ c → c < 40 → (0 ≤ W c ∧ W c < 2 ^ 10) ∧ ∀ i, 0 ≤ i → (inS (W c) i ↔ (P i c ∨ ∃ d, 0 ≤ d ∧ d < 40 ∧ 0 ≤ dd d ∧ bs d = c ∧ (D < dd d ∨ (dd d = D ∧ d < k)) ∧ fullS dd bs (P i) 3 d))
theorem hdC_self {dd bs f V : Int → Int} {D k : Int} (h : dpt dd bs) (hV : hdC dd bs f V D k) (hD : 1 ≤ D) (k0 : 0 ≤ k) (k1 : k < 40) (hk : dd k = D) : V k = full dd bs f 3 k := by
  rw [hV k k0 k1, full_eq h k0]
  congr 1
  refine sm_congr (fun d d0 d1 => ifP_congr ⟨fun q => ⟨q.1, q.2.1⟩, fun q => ⟨q.1, q.2, ?_⟩⟩ (fun _ => rfl))
  have := h d d0 d1 q.1
  have e : dd (bs d) = dd k := by rw [q.2]
  omega
theorem hdC_step {dd bs f V V' : Int → Int} {D k : Int} (h : dpt dd bs) (hV : hdC dd bs f V D k) (hD : 1 ≤ D) (k0 : 0 ≤ k) (k1 : k < 40) (hk : dd k = D) (hV' : ∀ c, V' c = if c = bs k then V c + V k else V c) : hdC dd bs f V' D (k + 1) := by
  intro c c0 c1
  have hs := hdC_self h hV hD k0 k1 hk
  have hb := h k k0 k1 (by omega)
  rw [hV' c, hV c c0 c1]
  by_cases e : c = bs k
  · rw [if_pos e, hs, sm_add1 (k := k) k0 k1 (f := fun d => ifP (0 ≤ dd d ∧ bs d = c ∧ (D < dd d ∨ (dd d = D ∧ d < k))) (full dd bs f 3 d)) (g := fun d => ifP (0 ≤ dd d ∧ bs d = c ∧ (D < dd d ∨ (dd d = D ∧ d < k + 1))) (full dd bs f 3 d)) (fun d d0 d1 d2 => ifP_congr (by constructor <;> (intro q; exact ⟨q.1, q.2.1, by omega⟩)) (fun _ => rfl))]
    rw [ifP_t (show 0 ≤ dd k ∧ bs k = c ∧ (D < dd k ∨ (dd k = D ∧ k < k + 1)) from ⟨by omega, e.symm, by omega⟩), ifP_f (show ¬ (0 ≤ dd k ∧ bs k = c ∧ (D < dd k ∨ (dd k = D ∧ k < k))) from fun q => by omega)]
    omega
  · rw [if_neg e]
    congr 1
    refine sm_congr (fun d d0 d1 => ifP_congr ⟨fun q => ⟨q.1, q.2.1, by omega⟩, fun q => ⟨q.1, q.2.1, ?_⟩⟩ (fun _ => rfl))
    by_cases e2 : d = k
    · rw [e2] at q; exact absurd q.2.1.symm e
    · have := q.2.2; omega
theorem hdC_skip {dd bs f V : Int → Int} {D k : Int} (hV : hdC dd bs f V D k) (hk : dd k ≠ D) : hdC dd bs f V D (k + 1) := by
  intro c c0 c1
  rw [hV c c0 c1]
  congr 1
  refine sm_congr (fun d d0 d1 => ifP_congr ⟨fun q => ⟨q.1, q.2.1, by omega⟩, fun q => ⟨q.1, q.2.1, ?_⟩⟩ (fun _ => rfl))
  by_cases e2 : d = k
  · rw [e2] at q ⊢; have := q.2.2; omega
  · have := q.2.2; omega
theorem hdC_down {dd bs f V : Int → Int} {D : Int} (hV : hdC dd bs f V D 40) : hdC dd bs f V (D - 1) 0 := by
  intro c c0 c1
  rw [hV c c0 c1]
  congr 1
  exact sm_congr (fun d d0 d1 => ifP_congr ⟨fun q => ⟨q.1, q.2.1, by omega⟩, fun q => ⟨q.1, q.2.1, by omega⟩⟩ (fun _ => rfl))
theorem hdC_0 {dd bs f : Int → Int} (h : dpt dd bs) : hdC dd bs f f 3 0 := by
  intro c c0 c1
  have e : sm 40 (fun d => ifP (0 ≤ dd d ∧ bs d = c ∧ (3 < dd d ∨ (dd d = 3 ∧ d < 0))) (full dd bs f 3 d)) = sm 40 (fun _ => 0) := sm_congr (fun d d0 d1 => ifP_f (fun q => by have := h d d0 d1 q.1; omega))
  rw [e, sm_const 40 0 (by decide)]; omega
theorem hdC_end {dd bs f V : Int → Int} (h : dpt dd bs) (hV : hdC dd bs f V 0 0) {c : Int} (c0 : 0 ≤ c) (c1 : c < 40) : V c = full dd bs f 3 c := by
  rw [hV c c0 c1, full_eq h c0]
  congr 1
  refine sm_congr (fun d d0 d1 => ifP_congr ⟨fun q => ⟨q.1, q.2.1⟩, fun q => ⟨q.1, q.2, ?_⟩⟩ (fun _ => rfl))
  have := h d d0 d1 q.1
  have := q.2
  omega
theorem hdC_rng {dd bs f V : Int → Int} {D k B : Int} (hB : 0 ≤ B ∧ B ≤ 200) (hf : ∀ c, 0 ≤ c → c < 40 → 0 ≤ f c ∧ f c ≤ B) (hV : hdC dd bs f V D k) {c : Int} (c0 : 0 ≤ c) (c1 : c < 40) : 0 ≤ V c ∧ V c ≤ 600000000 := by
  rw [hV c c0 c1]
  have hs := sm_bnd (c := B * 41 ^ 3) (n := 40) (by decide) (f := fun d => ifP (0 ≤ dd d ∧ bs d = c ∧ (D < dd d ∨ (dd d = D ∧ d < k))) (full dd bs f 3 d)) (fun d d0 d1 => ifP_rng (fun _ => full_rng hB.1 hf 3 d d0 d1) (by have := full_rng (dd := dd) (bs := bs) hB.1 hf 3 d d0 d1; omega))
  have h1 := hf c c0 c1
  have e : (41 : Int) ^ 3 = 68921 := rfl
  rw [e] at hs
  omega
theorem hdS_self {dd bs W : Int → Int} {P : Int → Int → Prop} {D k : Int} (h : dpt dd bs) (hV : hdS dd bs P W D k) (hD : 1 ≤ D) (k0 : 0 ≤ k) (k1 : k < 40) (hk : dd k = D) {i : Int} (i0 : 0 ≤ i) : inS (W k) i ↔ fullS dd bs (P i) 3 k := by
  rw [(hV k k0 k1).2 i i0, fullS_eq h k0]
  refine or_congr Iff.rfl (exists_congr (fun d => ?_))
  constructor
  · rintro ⟨d0, d1, d2, d3, d4, d5⟩; exact ⟨d0, d1, d2, d3, d5⟩
  · rintro ⟨d0, d1, d2, d3, d5⟩
    have := h d d0 d1 d2
    have e : dd (bs d) = dd k := by rw [d3]
    exact ⟨d0, d1, d2, d3, by omega, d5⟩
theorem hdS_step {dd bs W W' : Int → Int} {P : Int → Int → Prop} {D k : Int} (h : dpt dd bs) (hV : hdS dd bs P W D k) (hD : 1 ≤ D) (k0 : 0 ≤ k) (k1 : k < 40) (hk : dd k = D) (hW' : ∀ c, W' c = if c = bs k then px_ior (W c) (W k) else W c) : hdS dd bs P W' D (k + 1) := by
  intro c c0 c1
  have hb := h k k0 k1 (by omega)
  have e10 : (2 : Int) ^ 10 = 1024 := rfl
  have hc := hV c c0 c1
  have hkk := hV k k0 k1
  rw [hW' c]
  by_cases e : c = bs k
  · rw [if_pos e]
    refine ⟨ior_lt (by decide) hc.1 hkk.1, fun i i0 => ?_⟩
    rw [ior_in ⟨by omega, by omega⟩ ⟨by omega, by omega⟩, hc.2 i i0, hdS_self h hV hD k0 k1 hk i0]
    constructor
    · rintro ((q | ⟨d, d0, d1, d2, d3, d4, d5⟩) | q)
      · exact Or.inl q
      · exact Or.inr ⟨d, d0, d1, d2, d3, by omega, d5⟩
      · exact Or.inr ⟨k, k0, k1, by omega, e.symm, by omega, q⟩
    · rintro (q | ⟨d, d0, d1, d2, d3, d4, d5⟩)
      · exact Or.inl (Or.inl q)
      · by_cases e2 : d = k
        · rw [e2] at d5; exact Or.inr d5
        · exact Or.inl (Or.inr ⟨d, d0, d1, d2, d3, by omega, d5⟩)
  · rw [if_neg e]
    refine ⟨hc.1, fun i i0 => ?_⟩
    rw [hc.2 i i0]
    refine or_congr Iff.rfl (exists_congr (fun d => ?_))
    constructor
    · rintro ⟨d0, d1, d2, d3, d4, d5⟩; exact ⟨d0, d1, d2, d3, by omega, d5⟩
    · rintro ⟨d0, d1, d2, d3, d4, d5⟩
      have : d ≠ k := fun z => by rw [z] at d3; exact e d3.symm
      exact ⟨d0, d1, d2, d3, by omega, d5⟩
theorem hdS_skip {dd bs W : Int → Int} {P : Int → Int → Prop} {D k : Int} (hV : hdS dd bs P W D k) (hk : dd k ≠ D) : hdS dd bs P W D (k + 1) := by
  intro c c0 c1
  have hc := hV c c0 c1
  refine ⟨hc.1, fun i i0 => ?_⟩
  rw [hc.2 i i0]
  refine or_congr Iff.rfl (exists_congr (fun d => ?_))
  constructor
  · rintro ⟨d0, d1, d2, d3, d4, d5⟩; exact ⟨d0, d1, d2, d3, by omega, d5⟩
  · rintro ⟨d0, d1, d2, d3, d4, d5⟩
    refine ⟨d0, d1, d2, d3, ?_, d5⟩
    by_cases e : d = k
    · rw [e] at d4 ⊢; omega
    · omega
theorem hdS_down {dd bs W : Int → Int} {P : Int → Int → Prop} {D : Int} (hV : hdS dd bs P W D 40) : hdS dd bs P W (D - 1) 0 := by
  intro c c0 c1
  have hc := hV c c0 c1
  refine ⟨hc.1, fun i i0 => ?_⟩
  rw [hc.2 i i0]
  refine or_congr Iff.rfl (exists_congr (fun d => ?_))
  constructor
  · rintro ⟨d0, d1, d2, d3, d4, d5⟩; exact ⟨d0, d1, d2, d3, by omega, d5⟩
  · rintro ⟨d0, d1, d2, d3, d4, d5⟩; exact ⟨d0, d1, d2, d3, by omega, d5⟩
theorem hdS_0 {dd bs W : Int → Int} {P : Int → Int → Prop} (h : dpt dd bs) (hW : ∀ c, 0 ≤ c → c < 40 → (0 ≤ W c ∧ W c < 2 ^ 10) ∧ ∀ i, 0 ≤ i → (inS (W c) i ↔ P i c)) : hdS dd bs P W 3 0 := by
  intro c c0 c1
  have hc := hW c c0 c1
  refine ⟨hc.1, fun i i0 => ?_⟩
  rw [hc.2 i i0]
  refine ⟨Or.inl, fun q => ?_⟩
  rcases q with q | ⟨d, d0, d1, d2, d3, d4, d5⟩
  · exact q
  · have := h d d0 d1 d2; omega
theorem hdS_end {dd bs W : Int → Int} {P : Int → Int → Prop} (h : dpt dd bs) (hV : hdS dd bs P W 0 0) {c : Int} (c0 : 0 ≤ c) (c1 : c < 40) : (0 ≤ W c ∧ W c < 2 ^ 10) ∧ ∀ i, 0 ≤ i → (inS (W c) i ↔ fullS dd bs (P i) 3 c) := by
  have hc := hV c c0 c1
  refine ⟨hc.1, fun i i0 => ?_⟩
  rw [hc.2 i i0, fullS_eq h c0]
  refine or_congr Iff.rfl (exists_congr (fun d => ?_))
  constructor
  · rintro ⟨d0, d1, d2, d3, d4, d5⟩; exact ⟨d0, d1, d2, d3, d5⟩
  · rintro ⟨d0, d1, d2, d3, d5⟩
    have := h d d0 d1 d2
    exact ⟨d0, d1, d2, d3, by omega, d5⟩
theorem not_in {a s : Int} (ha : 0 ≤ a ∧ a < 2147483648) (hs : 0 ≤ s ∧ s < 2147483648) : px_iand a (px_ixor s (-1)) = 0 ↔ ∀ i, 0 ≤ i → inS a i → inS s i := by
  have e : px_iand a (px_ixor s (-1)) = ((a.toNat &&& (s.toNat ^^^ (2 ^ 32 - 1)) : Nat) : Int) := by
    unfold px_iand px_ixor
    rw [Int32.ofInt_toInt, ← Int32.toInt_toBitVec, Int32.toBitVec_and, Int32.toBitVec_xor, Int32.toBitVec_ofInt, Int32.toBitVec_ofInt, Int32.toBitVec_ofInt, BitVec.toInt_eq_toNat_bmod, BitVec.toNat_and, BitVec.toNat_xor, ofInt32_nat, ofInt32_nat, ofInt32_nat, Int.emod_eq_of_lt ha.1 (by omega), Int.emod_eq_of_lt hs.1 (by omega)]
    have h1 : a.toNat &&& (s.toNat ^^^ ((-1 : Int) % 4294967296).toNat) < 2147483648 := Nat.lt_of_le_of_lt Nat.and_le_left (by omega)
    exact bv_nn h1
  rw [e]
  constructor
  · intro h i i0 hi
    have h2 : a.toNat &&& (s.toNat ^^^ (2 ^ 32 - 1)) = 0 := by exact_mod_cast h
    have h3 := congrArg (fun z => Nat.testBit z i.toNat) h2
    simp only [Nat.testBit_and, Nat.testBit_xor, Nat.testBit_two_pow_sub_one, Nat.zero_testBit] at h3
    have hlt := inS_lt (n := 31) ⟨ha.1, by omega⟩ i0 hi
    unfold inS at hi ⊢
    rw [hi] at h3
    simpa [show i.toNat < 32 by omega] using h3
  · intro h
    have : a.toNat &&& (s.toNat ^^^ (2 ^ 32 - 1)) = 0 := Nat.eq_of_testBit_eq (fun i => by
      rw [Nat.testBit_and, Nat.testBit_xor, Nat.testBit_two_pow_sub_one, Nat.zero_testBit]
      by_cases q : a.toNat.testBit i = true
      · have h9 := h (i : Int) (by omega) (by unfold inS; rw [Int.toNat_natCast]; exact q)
        have hlt := inS_lt (n := 31) (a := a) (i := (i : Int)) ⟨ha.1, by omega⟩ (by omega) (by unfold inS; rw [Int.toNat_natCast]; exact q)
        unfold inS at h9
        rw [Int.toNat_natCast] at h9
        rw [q, h9]
        simp
        omega
      · simp [q])
    rw [this]; rfl
section PS
variable {M : px_mem} {Q : Option pv → px_mem → Prop}
/-- the class's contents by depths and bases -/
theorem ci_dpt {M : px_mem} (h : ci M) : dpt (M 62) (M 61) := fun c c0 c1 c2 => by
  have := cokC (h.1 c c0 c1 c2)
  omega
set_option maxHeartbeats 600000 in
set_option maxRecDepth 100000 in
theorem lp_hand2 {M0 : px_mem} {f1 f2 : Int → Int} {P : Int → Int → Prop} {D : Int} (hdp : dpt (M0 62) (M0 61)) (hD : 1 ≤ D ∧ D ≤ 3) (hf1 : ∀ c, 0 ≤ c → c < 40 → 0 ≤ f1 c ∧ f1 c ≤ 200) (hf2 : ∀ c, 0 ≤ c → c < 40 → 0 ≤ f2 c ∧ f2 c ≤ 200) (hx : ∀ M', hdC (M0 62) (M0 61) f1 (M' 112) (D - 1) 0 → hdC (M0 62) (M0 61) f2 (M' 113) (D - 1) 0 → hdS (M0 62) (M0 61) P (M' 114) (D - 1) 0 → (∀ b, b ≠ 112 → b ≠ 113 → b ≠ 114 → M' b = M0 b) → px_WP 110 0 0 (px_Q0 LAY Q) 2 [(2, 110), (2, 56), (0, D - 1), (9, 0), (9, 0)] [] LAY M' 0 0) (k : Int) (hk_k : k ≤ 40) : ∀ (M : px_mem), 0 ≤ k → hdC (M0 62) (M0 61) f1 (M 112) D k → hdC (M0 62) (M0 61) f2 (M 113) D k → hdS (M0 62) (M0 61) P (M 114) D k → (∀ b, b ≠ 112 → b ≠ 113 → b ≠ 114 → M b = M0 b) → px_WP 110 0 0 (px_Q0 LAY Q) 8 [(2, 110), (2, 56), (0, D), (0, k), (9, 0)] [] LAY M 0 0 := by
  refine up_ind (P := fun k => ∀ (M : px_mem), 0 ≤ k → hdC (M0 62) (M0 61) f1 (M 112) D k → hdC (M0 62) (M0 61) f2 (M 113) D k → hdS (M0 62) (M0 61) P (M 114) D k → (∀ b, b ≠ 112 → b ≠ 113 → b ≠ 114 → M b = M0 b) → px_WP 110 0 0 (px_Q0 LAY Q) 8 [(2, 110), (2, 56), (0, D), (0, k), (9, 0)] [] LAY M 0 0) (40) (fun k hk_k ih => ?_) k hk_k
  intro M k0 h2 h3 h4 hf
  have f62 : M 62 k = M0 62 k := by rw [hf 62 (by decide) (by decide) (by decide)]
  have f61 : M 61 k = M0 61 k := by rw [hf 61 (by decide) (by decide) (by decide)]
  have hdk := fun q => hdp k k0 q
  have r1 := fun c c0 c1 => hdC_rng (c := c) ⟨by decide, by decide⟩ hf1 h2 c0 c1
  have r2 := fun c c0 c1 => hdC_rng (c := c) ⟨by decide, by decide⟩ hf2 h3 c0 c1
  have r1k := r1 k k0
  have r2k := r2 k k0
  have r1b := r1 (M0 61 k)
  have r2b := r2 (M0 61 k)
  refine px_go_ok (inl := []) 60 ?_
  simp only [px_go, px_Q0_at, px_sx_0, px_sx_s, px_cl, px_step, ↓px_ll, px_lg, f4_, ↓px_r1, ↓px_r2, ↓px_r4, ↓px_r5, ↓px_p1, ↓px_p2, ↓px_p3, ↓px_pop, px_k_0, px_k_s, px_k3_0, px_stk_, px_cats, px_ent, px_st1, px_st2, px_mask, ↓px_tsw, ↓px_lsw, ct_, mls_0, mls_1, mls_2, mls_3, mls_4, mls_5, kd_0, kd_1, kd_2, kd_3, ln_0, ln_1, ln_2, ln_3, gf_0, gf_1, gf_2, gf_3, gf_4, gf_7, gf_21, gf_63, dy_0, dy_1, dy_2, dy_3, dy_7, dy_21, px_brT, px_brF, true_and, and_true, and_false, false_and, and_self, true_implies, false_implies, or_true, true_or, or_false, false_or, eq_self, ne_eq, not_false_eq_true, not_true_eq_false, if_true, if_false, List.mem_cons, List.not_mem_nil, List.length_cons, List.length_nil, Nat.reduceEqDiff, Nat.reduceAdd, Nat.reduceSub, Nat.reduceLeDiff, Nat.reduceLT, Int.reduceEq, Int.reduceLT, Int.reduceLE, Int.reduceNeg, Int.reduceAdd, Int.reduceSub, Int.reduceToNat, ↓reduceIte, one_ne_zero_, zero_ne_one_, px_in32L, cd_110, f61, px_up_at]
  repeat' (first | (with_reducible apply And.intro) | (with_reducible refine px_br_intro (fun _ => ?_) (fun _ => ?_)))
  all_goals (try (first | (unfold px_in32; omega) | omega))
  · rename_i c1
    have hk : k = 40 := by omega
    subst hk
    rw [show D + -1 = D - 1 by omega]
    exact hx M (hdC_down h2) (hdC_down h3) (hdS_down h4) hf
  · rename_i c1 c2
    have hd := hdk (by omega) (by omega)
    refine ih (by omega) _ (by omega) (hdC_step hdp h2 (by omega) k0 (by omega) (by omega) (fun c => ?_)) (hdC_step hdp h3 (by omega) k0 (by omega) (by omega) (fun c => ?_)) (hdS_step hdp h4 (by omega) k0 (by omega) (by omega) (fun c => ?_)) (fun b b0 b1 b2 => by rw [row_ne b2, row_ne b1, row_ne b0]; exact hf b b0 b1 b2)
    · rw [row_ne (by decide), row_ne (by decide), px_up_at]
      by_cases e : c = M0 61 k
      · rw [if_pos ⟨rfl, e⟩, if_pos e, e]
      · rw [if_neg (fun q => e q.2), if_neg e]
    · rw [row_ne (by decide), px_up_at, row_ne (by decide)]
      by_cases e : c = M0 61 k
      · rw [if_pos ⟨rfl, e⟩, if_pos e, e]
      · rw [if_neg (fun q => e q.2), if_neg e]
    · rw [px_up_at, row_ne (by decide), row_ne (by decide)]
      by_cases e : c = M0 61 k
      · rw [if_pos ⟨rfl, e⟩, if_pos e, e]
      · rw [if_neg (fun q => e q.2), if_neg e]
  · rename_i c1 c2
    exact ih (by omega) M (by omega) (hdC_skip h2 (by omega)) (hdC_skip h3 (by omega)) (hdS_skip h4 (by omega)) hf
set_option maxHeartbeats 600000 in
set_option maxRecDepth 100000 in
theorem lp_hand1 {M0 : px_mem} {f1 f2 : Int → Int} {P : Int → Int → Prop} (hdp : dpt (M0 62) (M0 61)) (hf1 : ∀ c, 0 ≤ c → c < 40 → 0 ≤ f1 c ∧ f1 c ≤ 200) (hf2 : ∀ c, 0 ≤ c → c < 40 → 0 ≤ f2 c ∧ f2 c ≤ 200) (h : ∀ M', (∀ c, 0 ≤ c → c < 40 → M' 112 c = full (M0 62) (M0 61) f1 3 c) → (∀ c, 0 ≤ c → c < 40 → M' 113 c = full (M0 62) (M0 61) f2 3 c) → (∀ c, 0 ≤ c → c < 40 → (0 ≤ M' 114 c ∧ M' 114 c < 2 ^ 10) ∧ ∀ i, 0 ≤ i → (inS (M' 114 c) i ↔ fullS (M0 62) (M0 61) (P i) 3 c)) → (∀ b, b ≠ 112 → b ≠ 113 → b ≠ 114 → M' b = M0 b) → Q none M') (D : Int) (hk_D : 0 ≤ D) : ∀ (M : px_mem), D ≤ 3 → hdC (M0 62) (M0 61) f1 (M 112) D 0 → hdC (M0 62) (M0 61) f2 (M 113) D 0 → hdS (M0 62) (M0 61) P (M 114) D 0 → (∀ b, b ≠ 112 → b ≠ 113 → b ≠ 114 → M b = M0 b) → px_WP 110 0 0 (px_Q0 LAY Q) 2 [(2, 110), (2, 56), (0, D), (9, 0), (9, 0)] [] LAY M 0 0 := by
  refine dn_ind (P := fun D => ∀ (M : px_mem), D ≤ 3 → hdC (M0 62) (M0 61) f1 (M 112) D 0 → hdC (M0 62) (M0 61) f2 (M 113) D 0 → hdS (M0 62) (M0 61) P (M 114) D 0 → (∀ b, b ≠ 112 → b ≠ 113 → b ≠ 114 → M b = M0 b) → px_WP 110 0 0 (px_Q0 LAY Q) 2 [(2, 110), (2, 56), (0, D), (9, 0), (9, 0)] [] LAY M 0 0) (0) (fun D hk_D ih => ?_) D hk_D
  intro M D3 h2 h3 h4 hf
  refine px_go_ok (inl := []) 60 ?_
  simp only [px_go, px_Q0_at, px_sx_0, px_sx_s, px_cl, px_step, ↓px_ll, px_lg, f4_, ↓px_r1, ↓px_r2, ↓px_r4, ↓px_r5, ↓px_p1, ↓px_p2, ↓px_p3, ↓px_pop, px_k_0, px_k_s, px_k3_0, px_stk_, px_cats, px_ent, px_st1, px_st2, px_mask, ↓px_tsw, ↓px_lsw, ct_, mls_0, mls_1, mls_2, mls_3, mls_4, mls_5, kd_0, kd_1, kd_2, kd_3, ln_0, ln_1, ln_2, ln_3, gf_0, gf_1, gf_2, gf_3, gf_4, gf_7, gf_21, gf_63, dy_0, dy_1, dy_2, dy_3, dy_7, dy_21, px_brT, px_brF, true_and, and_true, and_false, false_and, and_self, true_implies, false_implies, or_true, true_or, or_false, false_or, eq_self, ne_eq, not_false_eq_true, not_true_eq_false, if_true, if_false, List.mem_cons, List.not_mem_nil, List.length_cons, List.length_nil, Nat.reduceEqDiff, Nat.reduceAdd, Nat.reduceSub, Nat.reduceLeDiff, Nat.reduceLT, Int.reduceEq, Int.reduceLT, Int.reduceLE, Int.reduceNeg, Int.reduceAdd, Int.reduceSub, Int.reduceToNat, ↓reduceIte, one_ne_zero_, zero_ne_one_, px_in32L, cd_110]
  repeat' (first | (with_reducible apply And.intro) | (with_reducible refine px_br_intro (fun _ => ?_) (fun _ => ?_)))
  all_goals (try (first | (unfold px_in32; omega) | omega))
  · rename_i c1
    have hk : D = 0 := by omega
    subst hk
    exact h M (fun c c0 c1 => hdC_end hdp h2 c0 c1) (fun c c0 c1 => hdC_end hdp h3 c0 c1) (fun c c0 c1 => hdS_end hdp h4 c0 c1) hf
  · rename_i c1
    exact lp_hand2 hdp ⟨by omega, by omega⟩ hf1 hf2 (fun M' a1 a2 a3 a4 => ih (by omega) M' (by omega) a1 a2 a3 a4) 0 (by decide) M (Int.le_refl 0) h2 h3 h4 hf
set_option maxHeartbeats 600000 in
set_option maxRecDepth 100000 in
theorem sp_handDown {f1 f2 : Int → Int} {P : Int → Int → Prop} (hdp : dpt (M 62) (M 61)) (hf1 : ∀ c, 0 ≤ c → c < 40 → 0 ≤ f1 c ∧ f1 c ≤ 200) (hf2 : ∀ c, 0 ≤ c → c < 40 → 0 ≤ f2 c ∧ f2 c ≤ 200) (e1 : ∀ c, 0 ≤ c → c < 40 → M 112 c = f1 c) (e2 : ∀ c, 0 ≤ c → c < 40 → M 113 c = f2 c) (e3 : ∀ c, 0 ≤ c → c < 40 → (0 ≤ M 114 c ∧ M 114 c < 2 ^ 10) ∧ ∀ i, 0 ≤ i → (inS (M 114 c) i ↔ P i c)) (h : ∀ M', (∀ c, 0 ≤ c → c < 40 → M' 112 c = full (M 62) (M 61) f1 3 c) → (∀ c, 0 ≤ c → c < 40 → M' 113 c = full (M 62) (M 61) f2 3 c) → (∀ c, 0 ≤ c → c < 40 → (0 ≤ M' 114 c ∧ M' 114 c < 2 ^ 10) ∧ ∀ i, 0 ≤ i → (inS (M' 114 c) i ↔ fullS (M 62) (M 61) (P i) 3 c)) → (∀ b, b ≠ 112 → b ≠ 113 → b ≠ 114 → M' b = M b) → Q none M') : px_Ok 110 [(2, 110), (2, 56)] LAY M Q := by
  refine px_ok_go (inl := []) (ls0 := [(2, 110), (2, 56), (9, 0), (9, 0), (9, 0)]) 60 (by decide) (Nat.le_of_ble_eq_true rfl) rfl ?_
  simp only [px_go, px_Q0_at, px_sx_0, px_sx_s, px_cl, px_step, ↓px_ll, px_lg, f4_, ↓px_r1, ↓px_r2, ↓px_r4, ↓px_r5, ↓px_p1, ↓px_p2, ↓px_p3, ↓px_pop, px_k_0, px_k_s, px_k3_0, px_stk_, px_cats, px_ent, px_st1, px_st2, px_mask, ↓px_tsw, ↓px_lsw, ct_, mls_0, mls_1, mls_2, mls_3, mls_4, mls_5, kd_0, kd_1, kd_2, kd_3, ln_0, ln_1, ln_2, ln_3, gf_0, gf_1, gf_2, gf_3, gf_4, gf_7, gf_21, gf_63, dy_0, dy_1, dy_2, dy_3, dy_7, dy_21, px_brT, px_brF, true_and, and_true, and_false, false_and, and_self, true_implies, false_implies, or_true, true_or, or_false, false_or, eq_self, ne_eq, not_false_eq_true, not_true_eq_false, if_true, if_false, List.mem_cons, List.not_mem_nil, List.length_cons, List.length_nil, Nat.reduceEqDiff, Nat.reduceAdd, Nat.reduceSub, Nat.reduceLeDiff, Nat.reduceLT, Int.reduceEq, Int.reduceLT, Int.reduceLE, Int.reduceNeg, Int.reduceAdd, Int.reduceSub, Int.reduceToNat, ↓reduceIte, one_ne_zero_, zero_ne_one_, px_in32L, cd_110]
  repeat' (first | (with_reducible apply And.intro) | (with_reducible refine px_br_intro (fun _ => ?_) (fun _ => ?_)))
  all_goals (try (first | (unfold px_in32; omega) | omega))
  exact lp_hand1 (M0 := M) hdp hf1 hf2 h 3 (by decide) M (Int.le_refl 3) (fun c c0 c1 => by rw [e1 c c0 c1]; exact hdC_0 hdp c c0 c1) (fun c c0 c1 => by rw [e2 c c0 c1]; exact hdC_0 hdp c c0 c1) (hdS_0 hdp e3) (fun _ _ _ _ => rfl)
end PS
