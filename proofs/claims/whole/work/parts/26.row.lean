/-! EditionVault.Row -/
set_option maxRecDepth 100000 in
/-- X7_remember -/
theorem cd_76 : px_at 76 0 = some (1, [], .iconst 0, []) ∧ px_at 76 1 = some (2, [], .istore_n 1, []) ∧ px_at 76 2 = some (3, [1, 1], .iload_n 1, []) ∧ px_at 76 3 = some (6, [], .sipush 400, []) ∧ px_at 76 6 = some (9, [], .if_icmp .ge 21, [27]) ∧ px_at 76 9 = some (10, [], .aload_n 0, []) ∧ px_at 76 10 = some (13, [], .getfield 18, [6, 2, 2, 1, 59]) ∧ px_at 76 13 = some (14, [], .iload_n 1, []) ∧ px_at 76 14 = some (15, [], .aload_n 0, []) ∧ px_at 76 15 = some (18, [], .getfield 9, [6, 0, 2, 1, 53]) ∧ px_at 76 18 = some (19, [], .iload_n 1, []) ∧ px_at 76 19 = some (20, [], .iaload, []) ∧ px_at 76 20 = some (21, [], .iastore, []) ∧ px_at 76 21 = some (24, [], .iinc 1 1, []) ∧ px_at 76 24 = some (27, [], .goto (-22), [2]) ∧ px_at 76 27 = some (28, [], .return_, []) := ⟨rfl, rfl, rfl, rfl, rfl, rfl, rfl, rfl, rfl, rfl, rfl, rfl, rfl, rfl, rfl, rfl⟩
set_option maxRecDepth 100000 in
/-- X7_restore -/
theorem cd_77 : px_at 77 0 = some (1, [], .iconst 0, []) ∧ px_at 77 1 = some (2, [], .istore_n 1, []) ∧ px_at 77 2 = some (3, [1, 1], .iload_n 1, []) ∧ px_at 77 3 = some (6, [], .sipush 400, []) ∧ px_at 77 6 = some (9, [], .if_icmp .ge 21, [27]) ∧ px_at 77 9 = some (10, [], .aload_n 0, []) ∧ px_at 77 10 = some (13, [], .getfield 9, [6, 0, 2, 1, 53]) ∧ px_at 77 13 = some (14, [], .iload_n 1, []) ∧ px_at 77 14 = some (15, [], .aload_n 0, []) ∧ px_at 77 15 = some (18, [], .getfield 18, [6, 2, 2, 1, 59]) ∧ px_at 77 18 = some (19, [], .iload_n 1, []) ∧ px_at 77 19 = some (20, [], .iaload, []) ∧ px_at 77 20 = some (21, [], .iastore, []) ∧ px_at 77 21 = some (24, [], .iinc 1 1, []) ∧ px_at 77 24 = some (27, [], .goto (-22), [2]) ∧ px_at 77 27 = some (28, [], .return_, []) := ⟨rfl, rfl, rfl, rfl, rfl, rfl, rfl, rfl, rfl, rfl, rfl, rfl, rfl, rfl, rfl, rfl⟩
set_option maxRecDepth 100000 in
/-- X7_roomFor -/
theorem cd_78 : px_at 78 0 = some (1, [], .iconst 0, []) ∧ px_at 78 1 = some (2, [], .istore_n 2, []) ∧ px_at 78 2 = some (3, [], .iconst 0, []) ∧ px_at 78 3 = some (4, [], .istore_n 3, []) ∧ px_at 78 4 = some (5, [1, 1, 1, 1], .iload_n 3, []) ∧ px_at 78 5 = some (8, [], .sipush 400, []) ∧ px_at 78 8 = some (11, [], .if_icmp .ge 42, [50]) ∧ px_at 78 11 = some (12, [], .iload_n 2, []) ∧ px_at 78 12 = some (13, [], .iload_n 1, []) ∧ px_at 78 13 = some (16, [], .if_icmp .ge 37, [50]) ∧ px_at 78 16 = some (17, [], .aload_n 0, []) ∧ px_at 78 17 = some (20, [], .getfield 15, [6, 1, 2, 1, 56]) ∧ px_at 78 20 = some (21, [], .iload_n 3, []) ∧ px_at 78 21 = some (22, [], .iaload, []) ∧ px_at 78 22 = some (25, [], .ifCond .ge 9, [31]) ∧ px_at 78 25 = some (26, [], .iload_n 2, []) ∧ px_at 78 26 = some (27, [], .iconst 1, []) ∧ px_at 78 27 = some (28, [], .iadd, []) ∧ px_at 78 28 = some (31, [], .goto 4, [32]) ∧ px_at 78 31 = some (32, [], .iconst 0, []) ∧ px_at 78 32 = some (33, [], .istore_n 2, []) ∧ px_at 78 33 = some (34, [], .iload_n 2, []) ∧ px_at 78 34 = some (35, [], .iload_n 1, []) ∧ px_at 78 35 = some (38, [], .if_icmp .ne 9, [44]) ∧ px_at 78 38 = some (39, [], .iload_n 3, []) ∧ px_at 78 39 = some (40, [], .iload_n 1, []) ∧ px_at 78 40 = some (41, [], .isub, []) ∧ px_at 78 41 = some (42, [], .iconst 1, []) ∧ px_at 78 42 = some (43, [], .iadd, []) ∧ px_at 78 43 = some (44, [], .ireturn, [0]) ∧ px_at 78 44 = some (47, [], .iinc 3 1, []) ∧ px_at 78 47 = some (50, [], .goto (-43), [4]) ∧ px_at 78 50 = some (51, [], .iload_n 1, []) ∧ px_at 78 51 = some (54, [], .ifCond .ne 7, [58]) ∧ px_at 78 54 = some (55, [], .iconst 0, []) ∧ px_at 78 55 = some (58, [], .goto 4, [59]) ∧ px_at 78 58 = some (59, [], .iconst (-1), []) ∧ px_at 78 59 = some (60, [], .ireturn, [0]) := ⟨rfl, rfl, rfl, rfl, rfl, rfl, rfl, rfl, rfl, rfl, rfl, rfl, rfl, rfl, rfl, rfl, rfl, rfl, rfl, rfl, rfl, rfl, rfl, rfl, rfl, rfl, rfl, rfl, rfl, rfl, rfl, rfl, rfl, rfl, rfl, rfl, rfl, rfl⟩
set_option maxRecDepth 100000 in
/-- X7_longestFree -/
theorem cd_79 : px_at 79 0 = some (1, [], .iconst 0, []) ∧ px_at 79 1 = some (2, [], .istore_n 1, []) ∧ px_at 79 2 = some (3, [], .iconst 0, []) ∧ px_at 79 3 = some (4, [], .istore_n 2, []) ∧ px_at 79 4 = some (5, [], .iconst 0, []) ∧ px_at 79 5 = some (6, [], .istore_n 3, []) ∧ px_at 79 6 = some (7, [1, 1, 1, 1], .iload_n 3, []) ∧ px_at 79 7 = some (10, [], .sipush 400, []) ∧ px_at 79 10 = some (13, [], .if_icmp .ge 32, [42]) ∧ px_at 79 13 = some (14, [], .aload_n 0, []) ∧ px_at 79 14 = some (17, [], .getfield 15, [6, 1, 2, 1, 56]) ∧ px_at 79 17 = some (18, [], .iload_n 3, []) ∧ px_at 79 18 = some (19, [], .iaload, []) ∧ px_at 79 19 = some (22, [], .ifCond .ge 9, [28]) ∧ px_at 79 22 = some (23, [], .iload_n 2, []) ∧ px_at 79 23 = some (24, [], .iconst 1, []) ∧ px_at 79 24 = some (25, [], .iadd, []) ∧ px_at 79 25 = some (28, [], .goto 4, [29]) ∧ px_at 79 28 = some (29, [], .iconst 0, []) ∧ px_at 79 29 = some (30, [], .istore_n 2, []) ∧ px_at 79 30 = some (31, [], .iload_n 1, []) ∧ px_at 79 31 = some (32, [], .iload_n 2, []) ∧ px_at 79 32 = some (35, [], .invokestatic 21, [307, 2, 0, 179]) ∧ px_at 79 35 = some (36, [], .istore_n 1, []) ∧ px_at 79 36 = some (39, [], .iinc 3 1, []) ∧ px_at 79 39 = some (42, [], .goto (-33), [6]) ∧ px_at 79 42 = some (43, [], .iload_n 1, []) ∧ px_at 79 43 = some (44, [], .ireturn, [0]) := ⟨rfl, rfl, rfl, rfl, rfl, rfl, rfl, rfl, rfl, rfl, rfl, rfl, rfl, rfl, rfl, rfl, rfl, rfl, rfl, rfl, rfl, rfl, rfl, rfl, rfl, rfl, rfl, rfl⟩
set_option maxRecDepth 100000 in
/-- X7_put -/
theorem cd_80 : px_at 80 0 = some (1, [], .iconst 0, []) ∧ px_at 80 1 = some (3, [], .istore 4, []) ∧ px_at 80 3 = some (5, [1, 1, 1, 1, 1], .iload 4, []) ∧ px_at 80 5 = some (6, [], .iload_n 3, []) ∧ px_at 80 6 = some (9, [], .if_icmp .ge 40, [46]) ∧ px_at 80 9 = some (11, [], .iload 4, []) ∧ px_at 80 11 = some (12, [], .aload_n 2, []) ∧ px_at 80 12 = some (13, [], .arraylength, []) ∧ px_at 80 13 = some (16, [], .if_icmp .ge 33, [46]) ∧ px_at 80 16 = some (17, [], .aload_n 0, []) ∧ px_at 80 17 = some (18, [], .iload_n 1, []) ∧ px_at 80 18 = some (20, [], .iload 4, []) ∧ px_at 80 20 = some (21, [], .iadd, []) ∧ px_at 80 21 = some (24, [], .invokevirtual 27, [75, 1, 6, 80]) ∧ px_at 80 24 = some (27, [], .ifCond .eq 22, [46]) ∧ px_at 80 27 = some (28, [], .aload_n 0, []) ∧ px_at 80 28 = some (31, [], .getfield 9, [6, 0, 2, 1, 53]) ∧ px_at 80 31 = some (32, [], .iload_n 1, []) ∧ px_at 80 32 = some (34, [], .iload 4, []) ∧ px_at 80 34 = some (35, [], .iadd, []) ∧ px_at 80 35 = some (36, [], .aload_n 2, []) ∧ px_at 80 36 = some (38, [], .iload 4, []) ∧ px_at 80 38 = some (39, [], .iaload, []) ∧ px_at 80 39 = some (40, [], .iastore, []) ∧ px_at 80 40 = some (43, [], .iinc 4 1, []) ∧ px_at 80 43 = some (46, [], .goto (-40), [3]) ∧ px_at 80 46 = some (47, [], .return_, []) := ⟨rfl, rfl, rfl, rfl, rfl, rfl, rfl, rfl, rfl, rfl, rfl, rfl, rfl, rfl, rfl, rfl, rfl, rfl, rfl, rfl, rfl, rfl, rfl, rfl, rfl, rfl, rfl⟩
set_option maxRecDepth 100000 in
/-- X7_own -/
theorem cd_81 : px_at 81 0 = some (1, [], .iconst 0, []) ∧ px_at 81 1 = some (3, [], .istore 4, []) ∧ px_at 81 3 = some (5, [1, 1, 1, 1, 1], .iload 4, []) ∧ px_at 81 5 = some (6, [], .iload_n 2, []) ∧ px_at 81 6 = some (9, [], .if_icmp .ge 30, [36]) ∧ px_at 81 9 = some (10, [], .aload_n 0, []) ∧ px_at 81 10 = some (11, [], .iload_n 1, []) ∧ px_at 81 11 = some (13, [], .iload 4, []) ∧ px_at 81 13 = some (14, [], .iadd, []) ∧ px_at 81 14 = some (17, [], .invokevirtual 27, [75, 1, 6, 80]) ∧ px_at 81 17 = some (20, [], .ifCond .eq 19, [36]) ∧ px_at 81 20 = some (21, [], .aload_n 0, []) ∧ px_at 81 21 = some (24, [], .getfield 15, [6, 1, 2, 1, 56]) ∧ px_at 81 24 = some (25, [], .iload_n 1, []) ∧ px_at 81 25 = some (27, [], .iload 4, []) ∧ px_at 81 27 = some (28, [], .iadd, []) ∧ px_at 81 28 = some (29, [], .iload_n 3, []) ∧ px_at 81 29 = some (30, [], .iastore, []) ∧ px_at 81 30 = some (33, [], .iinc 4 1, []) ∧ px_at 81 33 = some (36, [], .goto (-30), [3]) ∧ px_at 81 36 = some (37, [], .return_, []) := ⟨rfl, rfl, rfl, rfl, rfl, rfl, rfl, rfl, rfl, rfl, rfl, rfl, rfl, rfl, rfl, rfl, rfl, rfl, rfl, rfl, rfl⟩
set_option maxRecDepth 100000 in
/-- X7_clearFree -/
theorem cd_82 : px_at 82 0 = some (1, [], .iconst 0, []) ∧ px_at 82 1 = some (2, [], .istore_n 1, []) ∧ px_at 82 2 = some (3, [1, 1], .iload_n 1, []) ∧ px_at 82 3 = some (6, [], .sipush 400, []) ∧ px_at 82 6 = some (9, [], .if_icmp .ge 25, [31]) ∧ px_at 82 9 = some (10, [], .aload_n 0, []) ∧ px_at 82 10 = some (13, [], .getfield 15, [6, 1, 2, 1, 56]) ∧ px_at 82 13 = some (14, [], .iload_n 1, []) ∧ px_at 82 14 = some (15, [], .iaload, []) ∧ px_at 82 15 = some (18, [], .ifCond .ge 10, [25]) ∧ px_at 82 18 = some (19, [], .aload_n 0, []) ∧ px_at 82 19 = some (22, [], .getfield 9, [6, 0, 2, 1, 53]) ∧ px_at 82 22 = some (23, [], .iload_n 1, []) ∧ px_at 82 23 = some (24, [], .iconst 0, []) ∧ px_at 82 24 = some (25, [], .iastore, []) ∧ px_at 82 25 = some (28, [], .iinc 1 1, []) ∧ px_at 82 28 = some (31, [], .goto (-26), [2]) ∧ px_at 82 31 = some (32, [], .return_, []) := ⟨rfl, rfl, rfl, rfl, rfl, rfl, rfl, rfl, rfl, rfl, rfl, rfl, rfl, rfl, rfl, rfl, rfl, rfl⟩
set_option maxRecDepth 100000 in
/-- X7_isPlace -/
theorem cd_75 : px_at 75 0 = some (1, [], .iload_n 1, []) ∧ px_at 75 1 = some (4, [], .ifCond .lt 14, [15]) ∧ px_at 75 4 = some (5, [], .iload_n 1, []) ∧ px_at 75 5 = some (8, [], .sipush 400, []) ∧ px_at 75 8 = some (11, [], .if_icmp .ge 7, [15]) ∧ px_at 75 11 = some (12, [], .iconst 1, []) ∧ px_at 75 12 = some (15, [], .goto 4, [16]) ∧ px_at 75 15 = some (16, [], .iconst 0, []) ∧ px_at 75 16 = some (17, [], .ireturn, [4]) := ⟨rfl, rfl, rfl, rfl, rfl, rfl, rfl, rfl, rfl⟩
set_option maxRecDepth 100000 in
/-- J9_max_7cf53 -/
theorem cd_307 : px_at 307 0 = some (1, [], .iload_n 0, []) ∧ px_at 307 1 = some (2, [], .iload_n 1, []) ∧ px_at 307 2 = some (5, [], .if_icmp .lt 7, [9]) ∧ px_at 307 5 = some (6, [], .iload_n 0, []) ∧ px_at 307 6 = some (9, [], .goto 4, [10]) ∧ px_at 307 9 = some (10, [], .iload_n 1, []) ∧ px_at 307 10 = some (11, [], .ireturn, [0]) := ⟨rfl, rfl, rfl, rfl, rfl, rfl, rfl⟩
/-- how many behind one another, up to here, are so -/
noncomputable def frN (p : Int → Prop) : Nat → Int
  | 0 => 0
  | k + 1 => by
    classical
    exact if p (k : Int) then frN p k + 1 else 0
noncomputable def fr (p : Int → Prop) (k : Int) : Int := frN p k.toNat
theorem fr_0 (p : Int → Prop) : fr p 0 = 0 := rfl
theorem fr_t {p : Int → Prop} {k : Int} (h0 : 0 ≤ k) (h : p k) : fr p (k + 1) = fr p k + 1 := by
  unfold fr
  rw [show (k + 1).toNat = k.toNat + 1 by omega]
  have h2 : p ((k.toNat : Nat) : Int) := by rw [Int.toNat_of_nonneg h0]; exact h
  unfold frN
  rw [if_pos h2]
  cases k.toNat <;> rfl
theorem fr_f {p : Int → Prop} {k : Int} (h0 : 0 ≤ k) (h : ¬ p k) : fr p (k + 1) = 0 := by
  unfold fr
  rw [show (k + 1).toNat = k.toNat + 1 by omega]
  have h2 : ¬ p ((k.toNat : Nat) : Int) := by rw [Int.toNat_of_nonneg h0]; exact h
  unfold frN
  rw [if_neg h2]
theorem fr_rng (p : Int → Prop) {k : Int} (h0 : 0 ≤ k) : 0 ≤ fr p k ∧ fr p k ≤ k := by
  have key : ∀ n : Nat, 0 ≤ fr p n ∧ fr p n ≤ n := by
    intro n
    induction n with
    | zero => exact ⟨Int.le_refl _, Int.le_refl _⟩
    | succ n ih =>
      rw [Int.natCast_succ]
      by_cases h : p (n : Int)
      · rw [fr_t (by omega) h]; omega
      · rw [fr_f (by omega) h]; omega
  have := key k.toNat
  rw [Int.toNat_of_nonneg h0] at this
  exact this
theorem fr_congr {p q : Int → Prop} {k : Int} (h0 : 0 ≤ k) (h : ∀ j, 0 ≤ j → j < k → (p j ↔ q j)) : fr p k = fr q k := by
  have key : ∀ n : Nat, (n : Int) ≤ k → fr p n = fr q n := by
    intro n
    induction n with
    | zero => intro _; rfl
    | succ n ih =>
      intro hn
      rw [Int.natCast_succ]
      by_cases h1 : p (n : Int)
      · rw [fr_t (by omega) h1, fr_t (by omega) ((h n (by omega) (by omega)).mp h1), ih (by omega)]
      · rw [fr_f (by omega) h1, fr_f (by omega) (fun c => h1 ((h n (by omega) (by omega)).mpr c))]
  have := key k.toNat (by omega)
  rw [Int.toNat_of_nonneg h0] at this
  exact this
/-- the place of the first so many -/
noncomputable def rmF (p : Int → Prop) (n : Int) : Int := if n = 0 then 0 else if fnd 400 (fun k => fr p (k + 1) = n) = -1 then -1 else fnd 400 (fun k => fr p (k + 1) = n) - n + 1
/-- the longest -/
noncomputable def lgN (p : Int → Prop) : Nat → Int
  | 0 => 0
  | k + 1 => max (lgN p k) (fr p ((k : Int) + 1))
noncomputable def lg (p : Int → Prop) (k : Int) : Int := lgN p k.toNat
theorem lg_s {p : Int → Prop} {k : Int} (h0 : 0 ≤ k) : lg p (k + 1) = max (lg p k) (fr p (k + 1)) := by
  unfold lg
  rw [show (k + 1).toNat = k.toNat + 1 by omega]
  show max _ (fr p (((k.toNat : Nat) : Int) + 1)) = _
  rw [Int.toNat_of_nonneg h0]
theorem lg_rng (p : Int → Prop) {k : Int} (h0 : 0 ≤ k) : 0 ≤ lg p k ∧ lg p k ≤ k := by
  have key : ∀ n : Nat, 0 ≤ lg p n ∧ lg p n ≤ n := by
    intro n
    induction n with
    | zero => exact ⟨Int.le_refl _, Int.le_refl _⟩
    | succ n ih =>
      rw [Int.natCast_succ, lg_s (by omega)]
      have := fr_rng p (k := (n : Int) + 1) (by omega)
      omega
  have := key k.toNat
  rw [Int.toNat_of_nonneg h0] at this
  exact this
theorem lg_congr {p q : Int → Prop} {k : Int} (h0 : 0 ≤ k) (h : ∀ j, 0 ≤ j → j < k → (p j ↔ q j)) : lg p k = lg q k := by
  have key : ∀ n : Nat, (n : Int) ≤ k → lg p n = lg q n := by
    intro n
    induction n with
    | zero => intro _; rfl
    | succ n ih =>
      intro hn
      rw [Int.natCast_succ, lg_s (by omega), lg_s (by omega), ih (by omega), fr_congr (by omega) (fun j a b => h j a (by omega))]
  have := key k.toNat (by omega)
  rw [Int.toNat_of_nonneg h0] at this
  exact this
theorem rmF_congr {p q : Int → Prop} (n : Int) (h : ∀ j, 0 ≤ j → j < 400 → (p j ↔ q j)) : rmF p n = rmF q n := by
  unfold rmF
  have e : fnd 400 (fun k => fr p (k + 1) = n) = fnd 400 (fun k => fr q (k + 1) = n) := fnd_congr (fun j a b => by
    rw [fr_congr (by omega) (fun i a b => h i a (by omega))])
  rw [e]
section PS
variable {M : px_mem} {Q : Option pv → px_mem → Prop}
set_option maxHeartbeats 4000000 in
set_option maxRecDepth 100000 in
theorem lp_roomFor {n : Int} (hn : 0 ≤ n) (hn2 : n ≤ 400) (h : Q (some (0, rmF (fun k => M 54 k < 0) n)) M) (k : Int) (hk : k ≤ 400) : 0 ≤ k → fr (fun k => M 54 k < 0) k < n ∨ n = 0 → (∀ j, 0 ≤ j → j < k → fr (fun k => M 54 k < 0) (j + 1) ≠ n) → px_WP 78 0 0 (px_Q0 LAY Q) 4 [(2, 52), (0, n), (0, fr (fun k => M 54 k < 0) k), (0, k)] [] LAY M 0 0 := by
  refine up_ind (P := fun k => 0 ≤ k → fr (fun k => M 54 k < 0) k < n ∨ n = 0 → (∀ j, 0 ≤ j → j < k → fr (fun k => M 54 k < 0) (j + 1) ≠ n) → px_WP 78 0 0 (px_Q0 LAY Q) 4 [(2, 52), (0, n), (0, fr (fun k => M 54 k < 0) k), (0, k)] [] LAY M 0 0) 400 (fun k hk ih hk0 hf hj => ?_) k hk
  generalize hp : (fun k => M 54 k < 0) = p at *
  have hpk : p k ↔ M 54 k < 0 := by rw [← hp]
  have hr := fr_rng p hk0
  have hmiss : k = 400 → ¬ n = 0 → Q (some (0, -1)) M := fun e hne => by
    unfold rmF at h
    rw [if_neg hne, fnd_miss (fun j a b => hj j a (by omega)), if_pos rfl] at h
    exact h
  have hz : n = 0 → Q (some (0, 0)) M := fun e => by unfold rmF at h; rw [if_pos e] at h; exact h
  refine px_go_ok (inl := []) 60 ?_
  simp only [px_go, px_Q0_at, px_sx_0, px_sx_s, px_cl, px_step, ↓px_ll, px_lg, f4_, ↓px_r1, ↓px_r2, ↓px_r4, ↓px_r5, ↓px_p1, ↓px_p2, ↓px_p3, ↓px_pop, px_k_0, px_k_s, px_k3_0, px_stk_, px_cats, px_ent, px_st1, px_st2, px_mask, ↓px_tsw, ↓px_lsw, ct_, mls_0, mls_1, mls_2, mls_3, mls_4, mls_5, kd_0, kd_1, kd_2, kd_3, ln_0, ln_1, ln_2, ln_3, gf_0, gf_1, gf_2, gf_3, gf_4, gf_7, gf_21, gf_63, dy_0, dy_1, dy_2, dy_3, dy_7, dy_21, px_brT, px_brF, true_and, and_true, and_false, false_and, and_self, true_implies, false_implies, or_true, true_or, or_false, false_or, eq_self, ne_eq, not_false_eq_true, not_true_eq_false, if_true, if_false, List.mem_cons, List.not_mem_nil, List.length_cons, List.length_nil, Nat.reduceEqDiff, Nat.reduceAdd, Nat.reduceSub, Nat.reduceLeDiff, Nat.reduceLT, Int.reduceEq, Int.reduceLT, Int.reduceLE, Int.reduceNeg, Int.reduceAdd, Int.reduceSub, Int.reduceToNat, ↓reduceIte, one_ne_zero_, zero_ne_one_, px_in32L, cd_78]
  repeat' (first | (with_reducible apply And.intro) | (with_reducible refine px_br_intro (fun _ => ?_) (fun _ => ?_)))
  all_goals (try (first | (unfold px_in32; omega) | omega))
  · rename_i c1 c2; exact hz c2
  · rename_i c1 c2; exact hmiss (by omega) c2
  · rename_i c1 c2 c3; exact hz c3
  · rename_i c1 c2 c3 c4
    have e := fr_f hk0 (fun c => absurd (hpk.mp c) (by omega))
    have := ih (by omega) (by omega) (by omega) (fun j a b => by
      by_cases e2 : j = k
      · rw [e2, e]; omega
      · exact hj j a (by omega))
    rw [e] at this
    exact this
  · rename_i c1 c2 c3 c4
    have e := fr_t hk0 (hpk.mpr (by omega))
    unfold rmF at h
    have hf2 : fnd 400 (fun k => fr p (k + 1) = n) = k := fnd_hit hk0 (by omega) (e.trans c4) hj
    rw [if_neg (by omega), hf2, if_neg (by omega)] at h
    exact h
  · rename_i c1 c2 c3 c4
    have e := fr_t hk0 (hpk.mpr (by omega))
    have := ih (by omega) (by omega) (by omega) (fun j a b => by
      by_cases e2 : j = k
      · rw [e2, e]; exact c4
      · exact hj j a (by omega))
    rw [e] at this
    exact this
set_option maxHeartbeats 4000000 in
set_option maxRecDepth 100000 in
theorem sp_roomFor {n : Int} (hn : 0 ≤ n) (hn2 : n ≤ 400) (h : Q (some (0, rmF (fun k => M 54 k < 0) n)) M) : px_Ok 78 [(2, 52), (0, n)] LAY M Q := by
  refine px_ok_go (inl := []) (ls0 := [(2, 52), (0, n), (9, 0), (9, 0)]) 40 (by decide) (Nat.le_of_ble_eq_true rfl) rfl ?_
  simp only [px_go, px_Q0_at, px_sx_0, px_sx_s, px_cl, px_step, ↓px_ll, px_lg, f4_, ↓px_r1, ↓px_r2, ↓px_r4, ↓px_r5, ↓px_p1, ↓px_p2, ↓px_p3, ↓px_pop, px_k_0, px_k_s, px_k3_0, px_stk_, px_cats, px_ent, px_st1, px_st2, px_mask, ↓px_tsw, ↓px_lsw, ct_, mls_0, mls_1, mls_2, mls_3, mls_4, mls_5, kd_0, kd_1, kd_2, kd_3, ln_0, ln_1, ln_2, ln_3, gf_0, gf_1, gf_2, gf_3, gf_4, gf_7, gf_21, gf_63, dy_0, dy_1, dy_2, dy_3, dy_7, dy_21, px_brT, px_brF, true_and, and_true, and_false, false_and, and_self, true_implies, false_implies, or_true, true_or, or_false, false_or, eq_self, ne_eq, not_false_eq_true, not_true_eq_false, if_true, if_false, List.mem_cons, List.not_mem_nil, List.length_cons, List.length_nil, Nat.reduceEqDiff, Nat.reduceAdd, Nat.reduceSub, Nat.reduceLeDiff, Nat.reduceLT, Int.reduceEq, Int.reduceLT, Int.reduceLE, Int.reduceNeg, Int.reduceAdd, Int.reduceSub, Int.reduceToNat, ↓reduceIte, one_ne_zero_, zero_ne_one_, px_in32L, cd_78]
  exact lp_roomFor hn hn2 h 0 (by decide) (Int.le_refl 0) (by rw [fr_0]; omega) (fun j a b => by omega)
set_option maxHeartbeats 4000000 in
set_option maxRecDepth 100000 in
theorem lp_lf (h : Q (some (0, lg (fun k => M 54 k < 0) 400)) M) (k : Int) (hk : k ≤ 400) : 0 ≤ k → px_WP 79 0 0 (px_Q0 LAY Q) 6 [(2, 52), (0, lg (fun k => M 54 k < 0) k), (0, fr (fun k => M 54 k < 0) k), (0, k)] [] LAY M 0 0 := by
  refine up_ind (P := fun k => 0 ≤ k → px_WP 79 0 0 (px_Q0 LAY Q) 6 [(2, 52), (0, lg (fun k => M 54 k < 0) k), (0, fr (fun k => M 54 k < 0) k), (0, k)] [] LAY M 0 0) 400 (fun k hk ih hk0 => ?_) k hk
  generalize hp : (fun k => M 54 k < 0) = p at *
  have hpk : p k ↔ M 54 k < 0 := by rw [← hp]
  have hr := fr_rng p hk0
  refine px_go_ok (inl := []) 60 ?_
  simp only [px_go, px_Q0_at, px_sx_0, px_sx_s, px_cl, px_step, ↓px_ll, px_lg, f4_, ↓px_r1, ↓px_r2, ↓px_r4, ↓px_r5, ↓px_p1, ↓px_p2, ↓px_p3, ↓px_pop, px_k_0, px_k_s, px_k3_0, px_stk_, px_cats, px_ent, px_st1, px_st2, px_mask, ↓px_tsw, ↓px_lsw, ct_, mls_0, mls_1, mls_2, mls_3, mls_4, mls_5, kd_0, kd_1, kd_2, kd_3, ln_0, ln_1, ln_2, ln_3, gf_0, gf_1, gf_2, gf_3, gf_4, gf_7, gf_21, gf_63, dy_0, dy_1, dy_2, dy_3, dy_7, dy_21, px_brT, px_brF, true_and, and_true, and_false, false_and, and_self, true_implies, false_implies, or_true, true_or, or_false, false_or, eq_self, ne_eq, not_false_eq_true, not_true_eq_false, if_true, if_false, List.mem_cons, List.not_mem_nil, List.length_cons, List.length_nil, Nat.reduceEqDiff, Nat.reduceAdd, Nat.reduceSub, Nat.reduceLeDiff, Nat.reduceLT, Int.reduceEq, Int.reduceLT, Int.reduceLE, Int.reduceNeg, Int.reduceAdd, Int.reduceSub, Int.reduceToNat, ↓reduceIte, one_ne_zero_, zero_ne_one_, px_in32L, cd_79]
  repeat' (first | (with_reducible apply And.intro) | (with_reducible refine px_br_intro (fun _ => ?_) (fun _ => ?_)))
  all_goals (try (first | (unfold px_in32; omega) | omega))
  · rw [show k = 400 by omega]; exact h
  · rename_i c1 c2
    have e := fr_f hk0 (fun c => absurd (hpk.mp c) (by omega))
    have := ih (by omega) (by omega)
    rw [lg_s hk0, e] at this
    exact this
  · rename_i c1 c2
    have e := fr_t hk0 (hpk.mpr (by omega))
    have := ih (by omega) (by omega)
    rw [lg_s hk0, e] at this
    exact this
set_option maxHeartbeats 4000000 in
set_option maxRecDepth 100000 in
theorem sp_lf (h : Q (some (0, lg (fun k => M 54 k < 0) 400)) M) : px_Ok 79 [(2, 52)] LAY M Q := by
  refine px_ok_go (inl := []) (ls0 := [(2, 52), (9, 0), (9, 0), (9, 0)]) 40 (by decide) (Nat.le_of_ble_eq_true rfl) rfl ?_
  simp only [px_go, px_Q0_at, px_sx_0, px_sx_s, px_cl, px_step, ↓px_ll, px_lg, f4_, ↓px_r1, ↓px_r2, ↓px_r4, ↓px_r5, ↓px_p1, ↓px_p2, ↓px_p3, ↓px_pop, px_k_0, px_k_s, px_k3_0, px_stk_, px_cats, px_ent, px_st1, px_st2, px_mask, ↓px_tsw, ↓px_lsw, ct_, mls_0, mls_1, mls_2, mls_3, mls_4, mls_5, kd_0, kd_1, kd_2, kd_3, ln_0, ln_1, ln_2, ln_3, gf_0, gf_1, gf_2, gf_3, gf_4, gf_7, gf_21, gf_63, dy_0, dy_1, dy_2, dy_3, dy_7, dy_21, px_brT, px_brF, true_and, and_true, and_false, false_and, and_self, true_implies, false_implies, or_true, true_or, or_false, false_or, eq_self, ne_eq, not_false_eq_true, not_true_eq_false, if_true, if_false, List.mem_cons, List.not_mem_nil, List.length_cons, List.length_nil, Nat.reduceEqDiff, Nat.reduceAdd, Nat.reduceSub, Nat.reduceLeDiff, Nat.reduceLT, Int.reduceEq, Int.reduceLT, Int.reduceLE, Int.reduceNeg, Int.reduceAdd, Int.reduceSub, Int.reduceToNat, ↓reduceIte, one_ne_zero_, zero_ne_one_, px_in32L, cd_79]
  exact lp_lf h 0 (by decide) (Int.le_refl 0)
set_option maxHeartbeats 4000000 in
set_option maxRecDepth 100000 in
theorem lp_put {M0 : px_mem} {s v n : Int} (hs : 0 ≤ s) (hn : 0 ≤ n) (hsn : s + n ≤ 400) (hk : px_kd LAY v = 0) (hv : v ≠ 53) (hl : n ≤ px_ln LAY v) (hl2 : px_ln LAY v < 1000) (h : ∀ M', (∀ x, M' 53 x = if s ≤ x ∧ x < s + n then M0 v (x - s) else M0 53 x) → (∀ b, b ≠ 53 → M' b = M0 b) → Q none M') (k : Int) (hkn : k ≤ n) : ∀ M, 0 ≤ k → (∀ x, M 53 x = if s ≤ x ∧ x < s + k then M0 v (x - s) else M0 53 x) → (∀ b, b ≠ 53 → M b = M0 b) → px_WP 80 0 0 (px_Q0 LAY Q) 3 [(2, 52), (0, s), (2, v), (0, n), (0, k)] [] LAY M 0 0 := by
  refine up_ind (P := fun k => ∀ M, 0 ≤ k → (∀ x, M 53 x = if s ≤ x ∧ x < s + k then M0 v (x - s) else M0 53 x) → (∀ b, b ≠ 53 → M b = M0 b) → px_WP 80 0 0 (px_Q0 LAY Q) 3 [(2, 52), (0, s), (2, v), (0, n), (0, k)] [] LAY M 0 0) n (fun k hkn ih M h0 h1 h2 => ?_) k hkn
  refine px_go_ok (inl := [75]) 60 ?_
  simp only [px_go, px_Q0_at, px_sx_0, px_sx_s, px_cl, px_step, ↓px_ll, px_lg, f4_, ↓px_r1, ↓px_r2, ↓px_r4, ↓px_r5, ↓px_p1, ↓px_p2, ↓px_p3, ↓px_pop, px_k_0, px_k_s, px_k3_0, px_stk_, px_cats, px_ent, px_st1, px_st2, px_mask, ↓px_tsw, ↓px_lsw, ct_, mls_0, mls_1, mls_2, mls_3, mls_4, mls_5, kd_0, kd_1, kd_2, kd_3, ln_0, ln_1, ln_2, ln_3, gf_0, gf_1, gf_2, gf_3, gf_4, gf_7, gf_21, gf_63, dy_0, dy_1, dy_2, dy_3, dy_7, dy_21, px_brT, px_brF, true_and, and_true, and_false, false_and, and_self, true_implies, false_implies, or_true, true_or, or_false, false_or, eq_self, ne_eq, not_false_eq_true, not_true_eq_false, if_true, if_false, List.mem_cons, List.not_mem_nil, List.length_cons, List.length_nil, Nat.reduceEqDiff, Nat.reduceAdd, Nat.reduceSub, Nat.reduceLeDiff, Nat.reduceLT, Int.reduceEq, Int.reduceLT, Int.reduceLE, Int.reduceNeg, Int.reduceAdd, Int.reduceSub, Int.reduceToNat, ↓reduceIte, one_ne_zero_, zero_ne_one_, px_in32L, cd_80, cd_75, hk]
  repeat' (first | (with_reducible apply And.intro) | (with_reducible refine px_br_intro (fun _ => ?_) (fun _ => ?_)))
  all_goals (try (first | (unfold px_in32; omega) | omega))
  · refine h M ?_ h2
    rw [show k = n by omega] at h1
    exact h1
  · rename_i c1 c2 c3 c4
    refine ih (by omega) _ (by omega) (fun x => ?_) (fun b hb => by rw [row_ne hb]; exact h2 b hb)
    rw [px_up_at, h1 x, h2 v hv]
    by_cases e : x = s + k
    · rw [if_pos ⟨rfl, e⟩, if_pos (by omega), show x - s = k by omega]
    · rw [if_neg (fun c => e c.2)]
      by_cases e2 : s ≤ x ∧ x < s + k
      · rw [if_pos e2, if_pos (by omega)]
      · rw [if_neg e2, if_neg (by omega)]
set_option maxHeartbeats 4000000 in
set_option maxRecDepth 100000 in
theorem sp_put {s v n : Int} (hs : 0 ≤ s) (hn : 0 ≤ n) (hsn : s + n ≤ 400) (hk : px_kd LAY v = 0) (hv : v ≠ 53) (hl : n ≤ px_ln LAY v) (hl2 : px_ln LAY v < 1000) (h : ∀ M', (∀ x, M' 53 x = if s ≤ x ∧ x < s + n then M v (x - s) else M 53 x) → (∀ b, b ≠ 53 → M' b = M b) → Q none M') : px_Ok 80 [(2, 52), (0, s), (2, v), (0, n)] LAY M Q := by
  refine px_ok_go (inl := []) (ls0 := [(2, 52), (0, s), (2, v), (0, n), (9, 0)]) 40 (by decide) (Nat.le_of_ble_eq_true rfl) rfl ?_
  simp only [px_go, px_Q0_at, px_sx_0, px_sx_s, px_cl, px_step, ↓px_ll, px_lg, f4_, ↓px_r1, ↓px_r2, ↓px_r4, ↓px_r5, ↓px_p1, ↓px_p2, ↓px_p3, ↓px_pop, px_k_0, px_k_s, px_k3_0, px_stk_, px_cats, px_ent, px_st1, px_st2, px_mask, ↓px_tsw, ↓px_lsw, ct_, mls_0, mls_1, mls_2, mls_3, mls_4, mls_5, kd_0, kd_1, kd_2, kd_3, ln_0, ln_1, ln_2, ln_3, gf_0, gf_1, gf_2, gf_3, gf_4, gf_7, gf_21, gf_63, dy_0, dy_1, dy_2, dy_3, dy_7, dy_21, px_brT, px_brF, true_and, and_true, and_false, false_and, and_self, true_implies, false_implies, or_true, true_or, or_false, false_or, eq_self, ne_eq, not_false_eq_true, not_true_eq_false, if_true, if_false, List.mem_cons, List.not_mem_nil, List.length_cons, List.length_nil, Nat.reduceEqDiff, Nat.reduceAdd, Nat.reduceSub, Nat.reduceLeDiff, Nat.reduceLT, Int.reduceEq, Int.reduceLT, Int.reduceLE, Int.reduceNeg, Int.reduceAdd, Int.reduceSub, Int.reduceToNat, ↓reduceIte, one_ne_zero_, zero_ne_one_, px_in32L, cd_80]
  exact lp_put hs hn hsn hk hv hl hl2 h 0 hn M (Int.le_refl 0) (fun x => by rw [if_neg (by omega)]) (fun b _ => rfl)
set_option maxHeartbeats 4000000 in
set_option maxRecDepth 100000 in
theorem lp_own {M0 : px_mem} {s w n : Int} (hs : 0 ≤ s) (hn : 0 ≤ n) (hsn : s + n ≤ 400) (h : ∀ M', (∀ x, M' 54 x = if s ≤ x ∧ x < s + n then w else M0 54 x) → (∀ b, b ≠ 54 → M' b = M0 b) → Q none M') (k : Int) (hkn : k ≤ n) : ∀ M, 0 ≤ k → (∀ x, M 54 x = if s ≤ x ∧ x < s + k then w else M0 54 x) → (∀ b, b ≠ 54 → M b = M0 b) → px_WP 81 0 0 (px_Q0 LAY Q) 3 [(2, 52), (0, s), (0, n), (0, w), (0, k)] [] LAY M 0 0 := by
  refine up_ind (P := fun k => ∀ M, 0 ≤ k → (∀ x, M 54 x = if s ≤ x ∧ x < s + k then w else M0 54 x) → (∀ b, b ≠ 54 → M b = M0 b) → px_WP 81 0 0 (px_Q0 LAY Q) 3 [(2, 52), (0, s), (0, n), (0, w), (0, k)] [] LAY M 0 0) n (fun k hkn ih M h0 h1 h2 => ?_) k hkn
  refine px_go_ok (inl := [75]) 60 ?_
  simp only [px_go, px_Q0_at, px_sx_0, px_sx_s, px_cl, px_step, ↓px_ll, px_lg, f4_, ↓px_r1, ↓px_r2, ↓px_r4, ↓px_r5, ↓px_p1, ↓px_p2, ↓px_p3, ↓px_pop, px_k_0, px_k_s, px_k3_0, px_stk_, px_cats, px_ent, px_st1, px_st2, px_mask, ↓px_tsw, ↓px_lsw, ct_, mls_0, mls_1, mls_2, mls_3, mls_4, mls_5, kd_0, kd_1, kd_2, kd_3, ln_0, ln_1, ln_2, ln_3, gf_0, gf_1, gf_2, gf_3, gf_4, gf_7, gf_21, gf_63, dy_0, dy_1, dy_2, dy_3, dy_7, dy_21, px_brT, px_brF, true_and, and_true, and_false, false_and, and_self, true_implies, false_implies, or_true, true_or, or_false, false_or, eq_self, ne_eq, not_false_eq_true, not_true_eq_false, if_true, if_false, List.mem_cons, List.not_mem_nil, List.length_cons, List.length_nil, Nat.reduceEqDiff, Nat.reduceAdd, Nat.reduceSub, Nat.reduceLeDiff, Nat.reduceLT, Int.reduceEq, Int.reduceLT, Int.reduceLE, Int.reduceNeg, Int.reduceAdd, Int.reduceSub, Int.reduceToNat, ↓reduceIte, one_ne_zero_, zero_ne_one_, px_in32L, cd_81, cd_75]
  repeat' (first | (with_reducible apply And.intro) | (with_reducible refine px_br_intro (fun _ => ?_) (fun _ => ?_)))
  all_goals (try (first | (unfold px_in32; omega) | omega))
  · refine h M ?_ h2
    rw [show k = n by omega] at h1
    exact h1
  · refine ih (by omega) _ (by omega) (fun x => ?_) (fun b hb => by rw [row_ne hb]; exact h2 b hb)
    rw [px_up_at, h1 x]
    by_cases e : x = s + k
    · rw [if_pos ⟨rfl, e⟩, if_pos (by omega)]
    · rw [if_neg (fun c => e c.2)]
      by_cases e2 : s ≤ x ∧ x < s + k
      · rw [if_pos e2, if_pos (by omega)]
      · rw [if_neg e2, if_neg (by omega)]
set_option maxHeartbeats 4000000 in
set_option maxRecDepth 100000 in
theorem sp_own {s w n : Int} (hs : 0 ≤ s) (hn : 0 ≤ n) (hsn : s + n ≤ 400) (h : ∀ M', (∀ x, M' 54 x = if s ≤ x ∧ x < s + n then w else M 54 x) → (∀ b, b ≠ 54 → M' b = M b) → Q none M') : px_Ok 81 [(2, 52), (0, s), (0, n), (0, w)] LAY M Q := by
  refine px_ok_go (inl := []) (ls0 := [(2, 52), (0, s), (0, n), (0, w), (9, 0)]) 40 (by decide) (Nat.le_of_ble_eq_true rfl) rfl ?_
  simp only [px_go, px_Q0_at, px_sx_0, px_sx_s, px_cl, px_step, ↓px_ll, px_lg, f4_, ↓px_r1, ↓px_r2, ↓px_r4, ↓px_r5, ↓px_p1, ↓px_p2, ↓px_p3, ↓px_pop, px_k_0, px_k_s, px_k3_0, px_stk_, px_cats, px_ent, px_st1, px_st2, px_mask, ↓px_tsw, ↓px_lsw, ct_, mls_0, mls_1, mls_2, mls_3, mls_4, mls_5, kd_0, kd_1, kd_2, kd_3, ln_0, ln_1, ln_2, ln_3, gf_0, gf_1, gf_2, gf_3, gf_4, gf_7, gf_21, gf_63, dy_0, dy_1, dy_2, dy_3, dy_7, dy_21, px_brT, px_brF, true_and, and_true, and_false, false_and, and_self, true_implies, false_implies, or_true, true_or, or_false, false_or, eq_self, ne_eq, not_false_eq_true, not_true_eq_false, if_true, if_false, List.mem_cons, List.not_mem_nil, List.length_cons, List.length_nil, Nat.reduceEqDiff, Nat.reduceAdd, Nat.reduceSub, Nat.reduceLeDiff, Nat.reduceLT, Int.reduceEq, Int.reduceLT, Int.reduceLE, Int.reduceNeg, Int.reduceAdd, Int.reduceSub, Int.reduceToNat, ↓reduceIte, one_ne_zero_, zero_ne_one_, px_in32L, cd_81]
  exact lp_own hs hn hsn h 0 hn M (Int.le_refl 0) (fun x => by rw [if_neg (by omega)]) (fun b _ => rfl)
set_option maxHeartbeats 4000000 in
set_option maxRecDepth 100000 in
theorem lp_clf {M0 : px_mem} (h : ∀ M', (∀ x, M' 53 x = if 0 ≤ x ∧ x < 400 ∧ M0 54 x < 0 then 0 else M0 53 x) → (∀ b, b ≠ 53 → M' b = M0 b) → Q none M') (k : Int) (hkn : k ≤ 400) : ∀ M, 0 ≤ k → (∀ x, M 53 x = if 0 ≤ x ∧ x < k ∧ M0 54 x < 0 then 0 else M0 53 x) → (∀ b, b ≠ 53 → M b = M0 b) → px_WP 82 0 0 (px_Q0 LAY Q) 2 [(2, 52), (0, k)] [] LAY M 0 0 := by
  refine up_ind (P := fun k => ∀ M, 0 ≤ k → (∀ x, M 53 x = if 0 ≤ x ∧ x < k ∧ M0 54 x < 0 then 0 else M0 53 x) → (∀ b, b ≠ 53 → M b = M0 b) → px_WP 82 0 0 (px_Q0 LAY Q) 2 [(2, 52), (0, k)] [] LAY M 0 0) 400 (fun k hkn ih M h0 h1 h2 => ?_) k hkn
  refine px_go_ok (inl := []) 60 ?_
  simp only [px_go, px_Q0_at, px_sx_0, px_sx_s, px_cl, px_step, ↓px_ll, px_lg, f4_, ↓px_r1, ↓px_r2, ↓px_r4, ↓px_r5, ↓px_p1, ↓px_p2, ↓px_p3, ↓px_pop, px_k_0, px_k_s, px_k3_0, px_stk_, px_cats, px_ent, px_st1, px_st2, px_mask, ↓px_tsw, ↓px_lsw, ct_, mls_0, mls_1, mls_2, mls_3, mls_4, mls_5, kd_0, kd_1, kd_2, kd_3, ln_0, ln_1, ln_2, ln_3, gf_0, gf_1, gf_2, gf_3, gf_4, gf_7, gf_21, gf_63, dy_0, dy_1, dy_2, dy_3, dy_7, dy_21, px_brT, px_brF, true_and, and_true, and_false, false_and, and_self, true_implies, false_implies, or_true, true_or, or_false, false_or, eq_self, ne_eq, not_false_eq_true, not_true_eq_false, if_true, if_false, List.mem_cons, List.not_mem_nil, List.length_cons, List.length_nil, Nat.reduceEqDiff, Nat.reduceAdd, Nat.reduceSub, Nat.reduceLeDiff, Nat.reduceLT, Int.reduceEq, Int.reduceLT, Int.reduceLE, Int.reduceNeg, Int.reduceAdd, Int.reduceSub, Int.reduceToNat, ↓reduceIte, one_ne_zero_, zero_ne_one_, px_in32L, cd_82]
  repeat' (first | (with_reducible apply And.intro) | (with_reducible refine px_br_intro (fun _ => ?_) (fun _ => ?_)))
  all_goals (try (first | (unfold px_in32; omega) | omega))
  · refine h M ?_ h2
    rw [show k = 400 by omega] at h1
    exact h1
  · rename_i c1 c2
    rw [h2 54 (by decide)] at c2
    refine ih (by omega) _ (by omega) (fun x => ?_) h2
    rw [h1 x]
    by_cases e2 : 0 ≤ x ∧ x < k ∧ M0 54 x < 0
    · rw [if_pos e2, if_pos (by omega)]
    · rw [if_neg e2, if_neg (fun c => e2 ⟨c.1, by
        by_cases e : x = k
        · subst e; omega
        · omega, c.2.2⟩)]
  · rename_i c1 c2
    rw [h2 54 (by decide)] at c2
    refine ih (by omega) _ (by omega) (fun x => ?_) (fun b hb => by rw [row_ne hb]; exact h2 b hb)
    rw [px_up_at, h1 x]
    by_cases e : x = k
    · subst e; rw [if_pos ⟨rfl, rfl⟩, if_pos (by omega)]
    · rw [if_neg (fun c => e c.2)]
      by_cases e2 : 0 ≤ x ∧ x < k ∧ M0 54 x < 0
      · rw [if_pos e2, if_pos (by omega)]
      · rw [if_neg e2, if_neg (by omega)]
set_option maxHeartbeats 4000000 in
set_option maxRecDepth 100000 in
theorem sp_clf (h : ∀ M', (∀ x, M' 53 x = if 0 ≤ x ∧ x < 400 ∧ M 54 x < 0 then 0 else M 53 x) → (∀ b, b ≠ 53 → M' b = M b) → Q none M') : px_Ok 82 [(2, 52)] LAY M Q := by
  refine px_ok_go (inl := []) (ls0 := [(2, 52), (9, 0)]) 40 (by decide) (Nat.le_of_ble_eq_true rfl) rfl ?_
  simp only [px_go, px_Q0_at, px_sx_0, px_sx_s, px_cl, px_step, ↓px_ll, px_lg, f4_, ↓px_r1, ↓px_r2, ↓px_r4, ↓px_r5, ↓px_p1, ↓px_p2, ↓px_p3, ↓px_pop, px_k_0, px_k_s, px_k3_0, px_stk_, px_cats, px_ent, px_st1, px_st2, px_mask, ↓px_tsw, ↓px_lsw, ct_, mls_0, mls_1, mls_2, mls_3, mls_4, mls_5, kd_0, kd_1, kd_2, kd_3, ln_0, ln_1, ln_2, ln_3, gf_0, gf_1, gf_2, gf_3, gf_4, gf_7, gf_21, gf_63, dy_0, dy_1, dy_2, dy_3, dy_7, dy_21, px_brT, px_brF, true_and, and_true, and_false, false_and, and_self, true_implies, false_implies, or_true, true_or, or_false, false_or, eq_self, ne_eq, not_false_eq_true, not_true_eq_false, if_true, if_false, List.mem_cons, List.not_mem_nil, List.length_cons, List.length_nil, Nat.reduceEqDiff, Nat.reduceAdd, Nat.reduceSub, Nat.reduceLeDiff, Nat.reduceLT, Int.reduceEq, Int.reduceLT, Int.reduceLE, Int.reduceNeg, Int.reduceAdd, Int.reduceSub, Int.reduceToNat, ↓reduceIte, one_ne_zero_, zero_ne_one_, px_in32L, cd_82]
  exact lp_clf h 0 (by decide) M (Int.le_refl 0) (fun x => by rw [if_neg (by omega)]) (fun b _ => rfl)
set_option maxHeartbeats 4000000 in
set_option maxRecDepth 100000 in
theorem lp_rem {M0 : px_mem} (h : ∀ M', (∀ x, M' 55 x = if 0 ≤ x ∧ x < 400 then M0 53 x else M0 55 x) → (∀ b, b ≠ 55 → M' b = M0 b) → Q none M') (k : Int) (hkn : k ≤ 400) : ∀ M, 0 ≤ k → (∀ x, M 55 x = if 0 ≤ x ∧ x < k then M0 53 x else M0 55 x) → (∀ b, b ≠ 55 → M b = M0 b) → px_WP 76 0 0 (px_Q0 LAY Q) 2 [(2, 52), (0, k)] [] LAY M 0 0 := by
  refine up_ind (P := fun k => ∀ M, 0 ≤ k → (∀ x, M 55 x = if 0 ≤ x ∧ x < k then M0 53 x else M0 55 x) → (∀ b, b ≠ 55 → M b = M0 b) → px_WP 76 0 0 (px_Q0 LAY Q) 2 [(2, 52), (0, k)] [] LAY M 0 0) 400 (fun k hkn ih M h0 h1 h2 => ?_) k hkn
  refine px_go_ok (inl := []) 60 ?_
  simp only [px_go, px_Q0_at, px_sx_0, px_sx_s, px_cl, px_step, ↓px_ll, px_lg, f4_, ↓px_r1, ↓px_r2, ↓px_r4, ↓px_r5, ↓px_p1, ↓px_p2, ↓px_p3, ↓px_pop, px_k_0, px_k_s, px_k3_0, px_stk_, px_cats, px_ent, px_st1, px_st2, px_mask, ↓px_tsw, ↓px_lsw, ct_, mls_0, mls_1, mls_2, mls_3, mls_4, mls_5, kd_0, kd_1, kd_2, kd_3, ln_0, ln_1, ln_2, ln_3, gf_0, gf_1, gf_2, gf_3, gf_4, gf_7, gf_21, gf_63, dy_0, dy_1, dy_2, dy_3, dy_7, dy_21, px_brT, px_brF, true_and, and_true, and_false, false_and, and_self, true_implies, false_implies, or_true, true_or, or_false, false_or, eq_self, ne_eq, not_false_eq_true, not_true_eq_false, if_true, if_false, List.mem_cons, List.not_mem_nil, List.length_cons, List.length_nil, Nat.reduceEqDiff, Nat.reduceAdd, Nat.reduceSub, Nat.reduceLeDiff, Nat.reduceLT, Int.reduceEq, Int.reduceLT, Int.reduceLE, Int.reduceNeg, Int.reduceAdd, Int.reduceSub, Int.reduceToNat, ↓reduceIte, one_ne_zero_, zero_ne_one_, px_in32L, cd_76]
  repeat' (first | (with_reducible apply And.intro) | (with_reducible refine px_br_intro (fun _ => ?_) (fun _ => ?_)))
  all_goals (try (first | (unfold px_in32; omega) | omega))
  · refine h M ?_ h2
    rw [show k = 400 by omega] at h1
    exact h1
  · refine ih (by omega) _ (by omega) (fun x => ?_) (fun b hb => by rw [row_ne hb]; exact h2 b hb)
    rw [px_up_at, h1 x, h2 53 (by decide)]
    by_cases e : x = k
    · subst e; rw [if_pos ⟨rfl, rfl⟩, if_pos (by omega)]
    · rw [if_neg (fun c => e c.2)]
      by_cases e2 : 0 ≤ x ∧ x < k
      · rw [if_pos e2, if_pos (by omega)]
      · rw [if_neg e2, if_neg (by omega)]
set_option maxHeartbeats 4000000 in
set_option maxRecDepth 100000 in
theorem sp_rem (h : ∀ M', (∀ x, M' 55 x = if 0 ≤ x ∧ x < 400 then M 53 x else M 55 x) → (∀ b, b ≠ 55 → M' b = M b) → Q none M') : px_Ok 76 [(2, 52)] LAY M Q := by
  refine px_ok_go (inl := []) (ls0 := [(2, 52), (9, 0)]) 40 (by decide) (Nat.le_of_ble_eq_true rfl) rfl ?_
  simp only [px_go, px_Q0_at, px_sx_0, px_sx_s, px_cl, px_step, ↓px_ll, px_lg, f4_, ↓px_r1, ↓px_r2, ↓px_r4, ↓px_r5, ↓px_p1, ↓px_p2, ↓px_p3, ↓px_pop, px_k_0, px_k_s, px_k3_0, px_stk_, px_cats, px_ent, px_st1, px_st2, px_mask, ↓px_tsw, ↓px_lsw, ct_, mls_0, mls_1, mls_2, mls_3, mls_4, mls_5, kd_0, kd_1, kd_2, kd_3, ln_0, ln_1, ln_2, ln_3, gf_0, gf_1, gf_2, gf_3, gf_4, gf_7, gf_21, gf_63, dy_0, dy_1, dy_2, dy_3, dy_7, dy_21, px_brT, px_brF, true_and, and_true, and_false, false_and, and_self, true_implies, false_implies, or_true, true_or, or_false, false_or, eq_self, ne_eq, not_false_eq_true, not_true_eq_false, if_true, if_false, List.mem_cons, List.not_mem_nil, List.length_cons, List.length_nil, Nat.reduceEqDiff, Nat.reduceAdd, Nat.reduceSub, Nat.reduceLeDiff, Nat.reduceLT, Int.reduceEq, Int.reduceLT, Int.reduceLE, Int.reduceNeg, Int.reduceAdd, Int.reduceSub, Int.reduceToNat, ↓reduceIte, one_ne_zero_, zero_ne_one_, px_in32L, cd_76]
  exact lp_rem h 0 (by decide) M (Int.le_refl 0) (fun x => by rw [if_neg (by omega)]) (fun b _ => rfl)
set_option maxHeartbeats 4000000 in
set_option maxRecDepth 100000 in
theorem lp_rst {M0 : px_mem} (h : ∀ M', (∀ x, M' 53 x = if 0 ≤ x ∧ x < 400 then M0 55 x else M0 53 x) → (∀ b, b ≠ 53 → M' b = M0 b) → Q none M') (k : Int) (hkn : k ≤ 400) : ∀ M, 0 ≤ k → (∀ x, M 53 x = if 0 ≤ x ∧ x < k then M0 55 x else M0 53 x) → (∀ b, b ≠ 53 → M b = M0 b) → px_WP 77 0 0 (px_Q0 LAY Q) 2 [(2, 52), (0, k)] [] LAY M 0 0 := by
  refine up_ind (P := fun k => ∀ M, 0 ≤ k → (∀ x, M 53 x = if 0 ≤ x ∧ x < k then M0 55 x else M0 53 x) → (∀ b, b ≠ 53 → M b = M0 b) → px_WP 77 0 0 (px_Q0 LAY Q) 2 [(2, 52), (0, k)] [] LAY M 0 0) 400 (fun k hkn ih M h0 h1 h2 => ?_) k hkn
  refine px_go_ok (inl := []) 60 ?_
  simp only [px_go, px_Q0_at, px_sx_0, px_sx_s, px_cl, px_step, ↓px_ll, px_lg, f4_, ↓px_r1, ↓px_r2, ↓px_r4, ↓px_r5, ↓px_p1, ↓px_p2, ↓px_p3, ↓px_pop, px_k_0, px_k_s, px_k3_0, px_stk_, px_cats, px_ent, px_st1, px_st2, px_mask, ↓px_tsw, ↓px_lsw, ct_, mls_0, mls_1, mls_2, mls_3, mls_4, mls_5, kd_0, kd_1, kd_2, kd_3, ln_0, ln_1, ln_2, ln_3, gf_0, gf_1, gf_2, gf_3, gf_4, gf_7, gf_21, gf_63, dy_0, dy_1, dy_2, dy_3, dy_7, dy_21, px_brT, px_brF, true_and, and_true, and_false, false_and, and_self, true_implies, false_implies, or_true, true_or, or_false, false_or, eq_self, ne_eq, not_false_eq_true, not_true_eq_false, if_true, if_false, List.mem_cons, List.not_mem_nil, List.length_cons, List.length_nil, Nat.reduceEqDiff, Nat.reduceAdd, Nat.reduceSub, Nat.reduceLeDiff, Nat.reduceLT, Int.reduceEq, Int.reduceLT, Int.reduceLE, Int.reduceNeg, Int.reduceAdd, Int.reduceSub, Int.reduceToNat, ↓reduceIte, one_ne_zero_, zero_ne_one_, px_in32L, cd_77]
  repeat' (first | (with_reducible apply And.intro) | (with_reducible refine px_br_intro (fun _ => ?_) (fun _ => ?_)))
  all_goals (try (first | (unfold px_in32; omega) | omega))
  · refine h M ?_ h2
    rw [show k = 400 by omega] at h1
    exact h1
  · refine ih (by omega) _ (by omega) (fun x => ?_) (fun b hb => by rw [row_ne hb]; exact h2 b hb)
    rw [px_up_at, h1 x, h2 55 (by decide)]
    by_cases e : x = k
    · subst e; rw [if_pos ⟨rfl, rfl⟩, if_pos (by omega)]
    · rw [if_neg (fun c => e c.2)]
      by_cases e2 : 0 ≤ x ∧ x < k
      · rw [if_pos e2, if_pos (by omega)]
      · rw [if_neg e2, if_neg (by omega)]
set_option maxHeartbeats 4000000 in
set_option maxRecDepth 100000 in
theorem sp_rst (h : ∀ M', (∀ x, M' 53 x = if 0 ≤ x ∧ x < 400 then M 55 x else M 53 x) → (∀ b, b ≠ 53 → M' b = M b) → Q none M') : px_Ok 77 [(2, 52)] LAY M Q := by
  refine px_ok_go (inl := []) (ls0 := [(2, 52), (9, 0)]) 40 (by decide) (Nat.le_of_ble_eq_true rfl) rfl ?_
  simp only [px_go, px_Q0_at, px_sx_0, px_sx_s, px_cl, px_step, ↓px_ll, px_lg, f4_, ↓px_r1, ↓px_r2, ↓px_r4, ↓px_r5, ↓px_p1, ↓px_p2, ↓px_p3, ↓px_pop, px_k_0, px_k_s, px_k3_0, px_stk_, px_cats, px_ent, px_st1, px_st2, px_mask, ↓px_tsw, ↓px_lsw, ct_, mls_0, mls_1, mls_2, mls_3, mls_4, mls_5, kd_0, kd_1, kd_2, kd_3, ln_0, ln_1, ln_2, ln_3, gf_0, gf_1, gf_2, gf_3, gf_4, gf_7, gf_21, gf_63, dy_0, dy_1, dy_2, dy_3, dy_7, dy_21, px_brT, px_brF, true_and, and_true, and_false, false_and, and_self, true_implies, false_implies, or_true, true_or, or_false, false_or, eq_self, ne_eq, not_false_eq_true, not_true_eq_false, if_true, if_false, List.mem_cons, List.not_mem_nil, List.length_cons, List.length_nil, Nat.reduceEqDiff, Nat.reduceAdd, Nat.reduceSub, Nat.reduceLeDiff, Nat.reduceLT, Int.reduceEq, Int.reduceLT, Int.reduceLE, Int.reduceNeg, Int.reduceAdd, Int.reduceSub, Int.reduceToNat, ↓reduceIte, one_ne_zero_, zero_ne_one_, px_in32L, cd_77]
  exact lp_rst h 0 (by decide) M (Int.le_refl 0) (fun x => by rw [if_neg (by omega)]) (fun b _ => rfl)
end PS
