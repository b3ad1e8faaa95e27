set_option maxRecDepth 100000 in
/-- X12_min -/
theorem cd_171 : px_at 171 0 = some (1, [], .iload_n 0, []) ∧ px_at 171 1 = some (2, [], .iload_n 1, []) ∧ px_at 171 2 = some (5, [], .if_icmp .ge 7, [9]) ∧ px_at 171 5 = some (6, [], .iload_n 0, []) ∧ px_at 171 6 = some (9, [], .goto 4, [10]) ∧ px_at 171 9 = some (10, [], .iload_n 1, []) ∧ px_at 171 10 = some (11, [], .ireturn, [0]) := ⟨rfl, rfl, rfl, rfl, rfl, rfl, rfl⟩
set_option maxRecDepth 100000 in
/-- X12_against -/
theorem cd_182 : px_at 182 0 = some (1, [], .aload_n 0, []) ∧ px_at 182 1 = some (2, [], .iload_n 1, []) ∧ px_at 182 2 = some (3, [], .iaload, []) ∧ px_at 182 3 = some (4, [], .aload_n 2, []) ∧ px_at 182 4 = some (5, [], .iload_n 3, []) ∧ px_at 182 5 = some (6, [], .iaload, []) ∧ px_at 182 6 = some (9, [], .invokestatic 100, [171, 2, 11, 231]) ∧ px_at 182 9 = some (11, [], .istore 4, []) ∧ px_at 182 11 = some (12, [], .iconst 1, []) ∧ px_at 182 12 = some (14, [], .istore 5, []) ∧ px_at 182 14 = some (16, [1, 1, 1, 1, 1, 1], .iload 5, []) ∧ px_at 182 16 = some (18, [], .iload 4, []) ∧ px_at 182 18 = some (21, [], .if_icmp .gt 38, [56]) ∧ px_at 182 21 = some (22, [], .aload_n 0, []) ∧ px_at 182 22 = some (23, [], .iload_n 1, []) ∧ px_at 182 23 = some (25, [], .iload 5, []) ∧ px_at 182 25 = some (26, [], .iadd, []) ∧ px_at 182 26 = some (27, [], .iaload, []) ∧ px_at 182 27 = some (28, [], .aload_n 2, []) ∧ px_at 182 28 = some (29, [], .iload_n 3, []) ∧ px_at 182 29 = some (31, [], .iload 5, []) ∧ px_at 182 31 = some (32, [], .iadd, []) ∧ px_at 182 32 = some (33, [], .iaload, []) ∧ px_at 182 33 = some (36, [], .if_icmp .eq 17, [50]) ∧ px_at 182 36 = some (37, [], .aload_n 0, []) ∧ px_at 182 37 = some (38, [], .iload_n 1, []) ∧ px_at 182 38 = some (40, [], .iload 5, []) ∧ px_at 182 40 = some (41, [], .iadd, []) ∧ px_at 182 41 = some (42, [], .iaload, []) ∧ px_at 182 42 = some (43, [], .aload_n 2, []) ∧ px_at 182 43 = some (44, [], .iload_n 3, []) ∧ px_at 182 44 = some (46, [], .iload 5, []) ∧ px_at 182 46 = some (47, [], .iadd, []) ∧ px_at 182 47 = some (48, [], .iaload, []) ∧ px_at 182 48 = some (49, [], .isub, []) ∧ px_at 182 49 = some (50, [], .ireturn, [0]) ∧ px_at 182 50 = some (53, [], .iinc 5 1, []) ∧ px_at 182 53 = some (56, [], .goto (-39), [14]) ∧ px_at 182 56 = some (57, [], .aload_n 0, []) ∧ px_at 182 57 = some (58, [], .iload_n 1, []) ∧ px_at 182 58 = some (59, [], .iaload, []) ∧ px_at 182 59 = some (60, [], .aload_n 2, []) ∧ px_at 182 60 = some (61, [], .iload_n 3, []) ∧ px_at 182 61 = some (62, [], .iaload, []) ∧ px_at 182 62 = some (63, [], .isub, []) ∧ px_at 182 63 = some (64, [], .ireturn, [0]) := ⟨rfl, rfl, rfl, rfl, rfl, rfl, rfl, rfl, rfl, rfl, rfl, rfl, rfl, rfl, rfl, rfl, rfl, rfl, rfl, rfl, rfl, rfl, rfl, rfl, rfl, rfl, rfl, rfl, rfl, rfl, rfl, rfl, rfl, rfl, rfl, rfl, rfl, rfl, rfl, rfl, rfl, rfl, rfl, rfl, rfl, rfl⟩
set_option maxRecDepth 100000 in
/-- X12_isUnder -/
theorem cd_183 : px_at 183 0 = some (1, [], .aload_n 0, []) ∧ px_at 183 1 = some (2, [], .iload_n 1, []) ∧ px_at 183 2 = some (3, [], .iaload, []) ∧ px_at 183 3 = some (4, [], .aload_n 2, []) ∧ px_at 183 4 = some (5, [], .iload_n 3, []) ∧ px_at 183 5 = some (6, [], .iaload, []) ∧ px_at 183 6 = some (9, [], .if_icmp .ge 5, [11]) ∧ px_at 183 9 = some (10, [], .iconst 0, []) ∧ px_at 183 10 = some (11, [], .ireturn, [4]) ∧ px_at 183 11 = some (12, [], .iconst 1, []) ∧ px_at 183 12 = some (14, [], .istore 4, []) ∧ px_at 183 14 = some (16, [1, 1, 1, 1, 1], .iload 4, []) ∧ px_at 183 16 = some (17, [], .aload_n 2, []) ∧ px_at 183 17 = some (18, [], .iload_n 3, []) ∧ px_at 183 18 = some (19, [], .iaload, []) ∧ px_at 183 19 = some (22, [], .if_icmp .gt 26, [45]) ∧ px_at 183 22 = some (23, [], .aload_n 0, []) ∧ px_at 183 23 = some (24, [], .iload_n 1, []) ∧ px_at 183 24 = some (26, [], .iload 4, []) ∧ px_at 183 26 = some (27, [], .iadd, []) ∧ px_at 183 27 = some (28, [], .iaload, []) ∧ px_at 183 28 = some (29, [], .aload_n 2, []) ∧ px_at 183 29 = some (30, [], .iload_n 3, []) ∧ px_at 183 30 = some (32, [], .iload 4, []) ∧ px_at 183 32 = some (33, [], .iadd, []) ∧ px_at 183 33 = some (34, [], .iaload, []) ∧ px_at 183 34 = some (37, [], .if_icmp .eq 5, [39]) ∧ px_at 183 37 = some (38, [], .iconst 0, []) ∧ px_at 183 38 = some (39, [], .ireturn, [4]) ∧ px_at 183 39 = some (42, [], .iinc 4 1, []) ∧ px_at 183 42 = some (45, [], .goto (-28), [14]) ∧ px_at 183 45 = some (46, [], .aload_n 0, []) ∧ px_at 183 46 = some (47, [], .iload_n 1, []) ∧ px_at 183 47 = some (48, [], .iaload, []) ∧ px_at 183 48 = some (49, [], .aload_n 2, []) ∧ px_at 183 49 = some (50, [], .iload_n 3, []) ∧ px_at 183 50 = some (51, [], .iaload, []) ∧ px_at 183 51 = some (54, [], .if_icmp .eq 17, [68]) ∧ px_at 183 54 = some (55, [], .aload_n 0, []) ∧ px_at 183 55 = some (56, [], .iload_n 1, []) ∧ px_at 183 56 = some (57, [], .aload_n 2, []) ∧ px_at 183 57 = some (58, [], .iload_n 3, []) ∧ px_at 183 58 = some (59, [], .iaload, []) ∧ px_at 183 59 = some (60, [], .iadd, []) ∧ px_at 183 60 = some (61, [], .iconst 1, []) ∧ px_at 183 61 = some (62, [], .iadd, []) ∧ px_at 183 62 = some (63, [], .iaload, []) ∧ px_at 183 63 = some (65, [], .bipush 47, []) ∧ px_at 183 65 = some (68, [], .if_icmp .ne 7, [72]) ∧ px_at 183 68 = some (69, [], .iconst 1, []) ∧ px_at 183 69 = some (72, [], .goto 4, [73]) ∧ px_at 183 72 = some (73, [], .iconst 0, []) ∧ px_at 183 73 = some (74, [], .ireturn, [4]) := ⟨rfl, rfl, rfl, rfl, rfl, rfl, rfl, rfl, rfl, rfl, rfl, rfl, rfl, rfl, rfl, rfl, rfl, rfl, rfl, rfl, rfl, rfl, rfl, rfl, rfl, rfl, rfl, rfl, rfl, rfl, rfl, rfl, rfl, rfl, rfl, rfl, rfl, rfl, rfl, rfl, rfl, rfl, rfl, rfl, rfl, rfl, rfl, rfl, rfl, rfl, rfl, rfl, rfl⟩
set_option maxRecDepth 100000 in
/-- X12_areMeeting -/
theorem cd_184 : px_at 184 0 = some (1, [], .aload_n 0, []) ∧ px_at 184 1 = some (2, [], .iload_n 1, []) ∧ px_at 184 2 = some (3, [], .aload_n 2, []) ∧ px_at 184 3 = some (4, [], .iload_n 3, []) ∧ px_at 184 4 = some (7, [], .invokestatic 104, [183, 4, 11, 233]) ∧ px_at 184 7 = some (10, [], .ifCond .ne 13, [20]) ∧ px_at 184 10 = some (11, [], .aload_n 2, []) ∧ px_at 184 11 = some (12, [], .iload_n 3, []) ∧ px_at 184 12 = some (13, [], .aload_n 0, []) ∧ px_at 184 13 = some (14, [], .iload_n 1, []) ∧ px_at 184 14 = some (17, [], .invokestatic 104, [183, 4, 11, 233]) ∧ px_at 184 17 = some (20, [], .ifCond .eq 7, [24]) ∧ px_at 184 20 = some (21, [], .iconst 1, []) ∧ px_at 184 21 = some (24, [], .goto 4, [25]) ∧ px_at 184 24 = some (25, [], .iconst 0, []) ∧ px_at 184 25 = some (26, [], .ireturn, [4]) := ⟨rfl, rfl, rfl, rfl, rfl, rfl, rfl, rfl, rfl, rfl, rfl, rfl, rfl, rfl, rfl, rfl⟩
/-! the reference: paths in rows of numbers -/
/-- a path at a place: its length, then its bytes -/
def fp (F : Int → Int) (a : Int) : List Int := lst (fun k => F (a + 1 + k)) (F a)
theorem lst_cons {f : Int → Int} {n : Int} (h : 0 < n) : lst f n = f 0 :: lst (fun k => f (k + 1)) (n - 1) := by
  have e := lst_drop (f := f) (n := n) (k := 0) (Int.le_refl 0) h
  rw [Int.toNat_zero, List.drop_zero] at e
  rw [e]
  congr 1
  apply List.ext_getElem?
  intro i
  rw [List.getElem?_drop]
  by_cases q : (i : Int) < n - 1
  · rw [lst_get (by omega), lst_get q]
    congr 1
    show f ((((0 : Int) + 1).toNat + i : Nat) : Int) = f ((i : Int) + 1)
    congr 1
    omega
  · rw [lst_get_none (by omega), lst_get_none (by omega)]
theorem lst_nil {f : Int → Int} {n : Int} (h : n ≤ 0) : lst f n = [] := by
  unfold lst
  rw [show n.toNat = 0 by omega]
  rfl
theorem lx_nil : ∀ l : List Int, ¬ lxlt l [] := fun l => by cases l <;> exact id
theorem lx_at : ∀ (k : Nat) (f g : Int → Int) (n m : Int), (k : Int) < n → (k : Int) < m → (∀ j, 0 ≤ j → j < (k : Int) → f j = g j) → f k ≠ g k → (lxlt (lst f n) (lst g m) ↔ f k < g k) ∧ lst f n ≠ lst g m := by
  intro k
  induction k with
  | zero =>
    intro f g n m hn hm _ hne
    rw [lst_cons (show 0 < n by omega), lst_cons (show 0 < m by omega)]
    refine ⟨?_, fun h => hne (by injection h)⟩
    show (f 0 < g 0 ∨ (f 0 = g 0 ∧ _)) ↔ f 0 < g 0
    exact ⟨fun h => h.elim id (fun h => absurd h.1 hne), Or.inl⟩
  | succ k ih =>
    intro f g n m hn hm he hne
    rw [Int.natCast_succ] at *
    have h := ih (fun j => f (j + 1)) (fun j => g (j + 1)) (n - 1) (m - 1) (by omega) (by omega) (fun j j0 j1 => he (j + 1) (by omega) (by omega)) hne
    rw [lst_cons (show 0 < n by omega), lst_cons (show 0 < m by omega)]
    have e0 := he 0 (Int.le_refl 0) (by omega)
    refine ⟨?_, fun z => h.2 (by injection z)⟩
    show (f 0 < g 0 ∨ (f 0 = g 0 ∧ lxlt _ _)) ↔ _
    rw [h.1]
    exact ⟨fun z => z.elim (fun z => by omega) (fun z => z.2), fun z => Or.inr ⟨e0, z⟩⟩
theorem lx_end : ∀ (k : Nat) (f g : Int → Int) (n m : Int), n ≤ k → 0 ≤ n → 0 ≤ m → (∀ j, 0 ≤ j → j < n → j < m → f j = g j) → (lxlt (lst f n) (lst g m) ↔ n < m) := by
  intro k
  induction k with
  | zero =>
    intro f g n m hn n0 m0 _
    rw [lst_nil (show n ≤ 0 by omega)]
    by_cases q : 0 < m
    · rw [lst_cons q]; exact ⟨fun _ => by omega, fun _ => trivial⟩
    · rw [lst_nil (by omega)]; exact ⟨fun z => z.elim, fun z => by omega⟩
  | succ k ih =>
    intro f g n m hn n0 m0 he
    by_cases q : 0 < m
    · by_cases r : 0 < n
      · have h := ih (fun j => f (j + 1)) (fun j => g (j + 1)) (n - 1) (m - 1) (by omega) (by omega) (by omega) (fun j j0 j1 j2 => he (j + 1) (by omega) (by omega) (by omega))
        rw [lst_cons r, lst_cons q]
        have e0 := he 0 (Int.le_refl 0) r q
        show (f 0 < g 0 ∨ (f 0 = g 0 ∧ lxlt _ _)) ↔ _
        rw [h]
        exact ⟨fun z => z.elim (fun z => by omega) (fun z => by omega), fun z => Or.inr ⟨e0, by omega⟩⟩
      · rw [lst_nil (show n ≤ 0 by omega), lst_cons q]; exact ⟨fun _ => by omega, fun _ => trivial⟩
    · rw [lst_nil (show m ≤ 0 by omega)]
      exact ⟨fun z => absurd z (lx_nil _), fun z => by omega⟩
/-- one path in a row of bytes -/
def pok (F : Int → Int) (a ln : Int) : Prop := 0 ≤ a ∧ 0 ≤ F a ∧ F a ≤ 12 ∧ a + 13 ≤ ln ∧ ∀ k, 0 ≤ k → k < F a → 0 ≤ F (a + 1 + k) ∧ F (a + 1 + k) < 256
section PS
variable {M : px_mem} {Q : Option pv → px_mem → Prop}
set_option maxHeartbeats 600000 in
set_option maxRecDepth 100000 in
theorem lp_against {v a w b : Int} (hkv : px_kd LAY v = 0) (hkw : px_kd LAY w = 0) (ha : pok (M v) a (px_ln LAY v)) (hb : pok (M w) b (px_ln LAY w)) (hln : px_ln LAY v < 10000 ∧ px_ln LAY w < 10000) (h : ∀ r, (r < 0 ↔ lxlt (fp (M v) a) (fp (M w) b)) → (r = 0 ↔ fp (M v) a = fp (M w) b) → Q (some (0, r)) M) (k : Int) (hk_k : k ≤ min (M v a) (M w b)+1) : 1 ≤ k → (∀ j, 0 ≤ j → j < k - 1 → M v (a + 1 + j) = M w (b + 1 + j)) → px_WP 182 0 0 (px_Q0 LAY Q) 14 [(2, v), (0, a), (2, w), (0, b), (0, min (M v a) (M w b)), (0, k)] [] LAY M 0 0 := by
  refine up_ind (P := fun k => 1 ≤ k → (∀ j, 0 ≤ j → j < k - 1 → M v (a + 1 + j) = M w (b + 1 + j)) → px_WP 182 0 0 (px_Q0 LAY Q) 14 [(2, v), (0, a), (2, w), (0, b), (0, min (M v a) (M w b)), (0, k)] [] LAY M 0 0) (min (M v a) (M w b)+1) (fun k hk_k ih => ?_) k hk_k
  intro k1 hj
  obtain ⟨a0, a1, a2, a3, a4⟩ := ha
  obtain ⟨b0, b1, b2, b3, b4⟩ := hb
  have hva := a4 (k - 1)
  have hwb := b4 (k - 1)
  rw [show a + 1 + (k - 1) = a + k by omega] at hva
  rw [show b + 1 + (k - 1) = b + k by omega] at hwb
  refine px_go_ok (inl := []) 60 ?_
  simp only [px_go, px_Q0_at, px_sx_0, px_sx_s, px_cl, px_step, ↓px_ll, px_lg, f4_, ↓px_r1, ↓px_r2, ↓px_r4, ↓px_r5, ↓px_p1, ↓px_p2, ↓px_p3, ↓px_pop, px_k_0, px_k_s, px_k3_0, px_stk_, px_cats, px_ent, px_st1, px_st2, px_mask, ↓px_tsw, ↓px_lsw, ct_, mls_0, mls_1, mls_2, mls_3, mls_4, mls_5, kd_0, kd_1, kd_2, kd_3, ln_0, ln_1, ln_2, ln_3, gf_0, gf_1, gf_2, gf_3, gf_4, gf_7, gf_21, gf_63, dy_0, dy_1, dy_2, dy_3, dy_7, dy_21, px_brT, px_brF, true_and, and_true, and_false, false_and, and_self, true_implies, false_implies, or_true, true_or, or_false, false_or, eq_self, ne_eq, not_false_eq_true, not_true_eq_false, if_true, if_false, List.mem_cons, List.not_mem_nil, List.length_cons, List.length_nil, Nat.reduceEqDiff, Nat.reduceAdd, Nat.reduceSub, Nat.reduceLeDiff, Nat.reduceLT, Int.reduceEq, Int.reduceLT, Int.reduceLE, Int.reduceNeg, Int.reduceAdd, Int.reduceSub, Int.reduceToNat, ↓reduceIte, one_ne_zero_, zero_ne_one_, px_in32L, cd_182, hkv, hkw]
  repeat' (first | (with_reducible apply And.intro) | (with_reducible refine px_br_intro (fun _ => ?_) (fun _ => ?_)))
  all_goals (try (first | (unfold px_in32; omega) | omega))
  · rename_i c1
    have hlx := lx_end (M v a).toNat (fun j => M v (a + 1 + j)) (fun j => M w (b + 1 + j)) (M v a) (M w b) (by omega) a1 b1 (fun j j0 j1 j2 => hj j j0 (by omega))
    refine h _ ?_ ?_
    · show _ ↔ lxlt (lst _ _) (lst _ _)
      rw [hlx]; omega
    · show _ ↔ lst _ _ = lst _ _
      rw [lst_inj a1 b1]
      exact ⟨fun z => ⟨by omega, fun j j0 j1 => hj j j0 (by omega)⟩, fun z => by omega⟩
  · rename_i c1 c2
    refine ih (by omega) (by omega) (fun j j0 j1 => ?_)
    by_cases q : j = k - 1
    · rw [q, show a + 1 + (k - 1) = a + k by omega, show b + 1 + (k - 1) = b + k by omega]; exact c2
    · exact hj j j0 (by omega)
  · rename_i c1 c2
    have hlx := lx_at (k - 1).toNat (fun j => M v (a + 1 + j)) (fun j => M w (b + 1 + j)) (M v a) (M w b) (by omega) (by omega) (fun j j0 j1 => hj j j0 (by omega)) (by
      show M v (a + 1 + ((k - 1).toNat : Int)) ≠ M w (b + 1 + ((k - 1).toNat : Int))
      rw [show a + 1 + ((k - 1).toNat : Int) = a + k by omega, show b + 1 + ((k - 1).toNat : Int) = b + k by omega]; exact c2)
    rw [show a + 1 + ((k - 1).toNat : Int) = a + k by omega, show b + 1 + ((k - 1).toNat : Int) = b + k by omega] at hlx
    refine h _ ?_ ?_
    · show _ ↔ lxlt (lst _ _) (lst _ _)
      rw [hlx.1]; omega
    · show _ ↔ lst _ _ = lst _ _
      exact ⟨fun z => by omega, fun z => absurd z hlx.2⟩
set_option maxHeartbeats 600000 in
set_option maxRecDepth 100000 in
theorem sp_against {v a w b : Int} (hkv : px_kd LAY v = 0) (hkw : px_kd LAY w = 0) (ha : pok (M v) a (px_ln LAY v)) (hb : pok (M w) b (px_ln LAY w)) (hln : px_ln LAY v < 10000 ∧ px_ln LAY w < 10000) (h : ∀ r, (r < 0 ↔ lxlt (fp (M v) a) (fp (M w) b)) → (r = 0 ↔ fp (M v) a = fp (M w) b) → Q (some (0, r)) M) : px_Ok 182 [(2, v), (0, a), (2, w), (0, b)] LAY M Q := by
  have ha0 := ha.1
  have ha3 := ha.2.2.2.1
  have hb0 := hb.1
  have hb3 := hb.2.2.2.1
  have ha1 := ha.2.1
  have hb1 := hb.2.1
  refine px_ok_go (inl := [171]) (ls0 := [(2, v), (0, a), (2, w), (0, b), (9, 0), (9, 0)]) 60 (by decide) (Nat.le_of_ble_eq_true rfl) rfl ?_
  simp only [px_go, px_Q0_at, px_sx_0, px_sx_s, px_cl, px_step, ↓px_ll, px_lg, f4_, ↓px_r1, ↓px_r2, ↓px_r4, ↓px_r5, ↓px_p1, ↓px_p2, ↓px_p3, ↓px_pop, px_k_0, px_k_s, px_k3_0, px_stk_, px_cats, px_ent, px_st1, px_st2, px_mask, ↓px_tsw, ↓px_lsw, ct_, mls_0, mls_1, mls_2, mls_3, mls_4, mls_5, kd_0, kd_1, kd_2, kd_3, ln_0, ln_1, ln_2, ln_3, gf_0, gf_1, gf_2, gf_3, gf_4, gf_7, gf_21, gf_63, dy_0, dy_1, dy_2, dy_3, dy_7, dy_21, px_brT, px_brF, true_and, and_true, and_false, false_and, and_self, true_implies, false_implies, or_true, true_or, or_false, false_or, eq_self, ne_eq, not_false_eq_true, not_true_eq_false, if_true, if_false, List.mem_cons, List.not_mem_nil, List.length_cons, List.length_nil, Nat.reduceEqDiff, Nat.reduceAdd, Nat.reduceSub, Nat.reduceLeDiff, Nat.reduceLT, Int.reduceEq, Int.reduceLT, Int.reduceLE, Int.reduceNeg, Int.reduceAdd, Int.reduceSub, Int.reduceToNat, ↓reduceIte, one_ne_zero_, zero_ne_one_, px_in32L, cd_182, cd_171, hkv, hkw]
  repeat' (first | (with_reducible apply And.intro) | (with_reducible refine px_br_intro (fun _ => ?_) (fun _ => ?_)))
  all_goals (try (first | (unfold px_in32; omega) | omega))
  · rename_i c1
    have := lp_against hkv hkw ha hb hln h 1 (by omega) (Int.le_refl 1) (fun j j0 j1 => by omega)
    rw [show min (M v a) (M w b) = M w b by omega] at this
    exact this
  · rename_i c1
    have := lp_against hkv hkw ha hb hln h 1 (by omega) (Int.le_refl 1) (fun j j0 j1 => by omega)
    rw [show min (M v a) (M w b) = M v a by omega] at this
    exact this
theorem wi_iff {p t : List Int} (ht : t ≠ []) : wi p t ↔ (t.length ≤ p.length ∧ p.take t.length = t ∧ (p.length = t.length ∨ p[t.length]? = some 47)) := by
  constructor
  · rintro (h | h)
    · subst h; exact ⟨Nat.le_refl _, List.take_of_length_le (Nat.le_refl _), Or.inl rfl⟩
    · exact ⟨wi_len (Or.inr h), h.2.1, Or.inr h.2.2⟩
  · rintro ⟨h1, h2, h3 | h3⟩
    · left
      rw [← h2, ← h3, List.take_of_length_le (Nat.le_refl _)]
    · exact Or.inr ⟨ht, h2, h3⟩
set_option maxHeartbeats 600000 in
set_option maxRecDepth 100000 in
theorem lp_isUnder {v a w b : Int} (hkv : px_kd LAY v = 0) (hkw : px_kd LAY w = 0) (ha : pok (M v) a (px_ln LAY v)) (hb : pok (M w) b (px_ln LAY w)) (hln : px_ln LAY v < 10000 ∧ px_ln LAY w < 10000) (hne : 0 < M w b) (hle : M w b ≤ M v a) (h1 : wi (fp (M v) a) (fp (M w) b) → Q (some (0, 1)) M) (h0 : ¬ wi (fp (M v) a) (fp (M w) b) → Q (some (0, 0)) M) (k : Int) (hk_k : k ≤ M w b+1) : 1 ≤ k → (∀ j, 0 ≤ j → j < k - 1 → M v (a + 1 + j) = M w (b + 1 + j)) → px_WP 183 0 0 (px_Q0 LAY Q) 14 [(2, v), (0, a), (2, w), (0, b), (0, k)] [] LAY M 0 0 := by
  refine up_ind (P := fun k => 1 ≤ k → (∀ j, 0 ≤ j → j < k - 1 → M v (a + 1 + j) = M w (b + 1 + j)) → px_WP 183 0 0 (px_Q0 LAY Q) 14 [(2, v), (0, a), (2, w), (0, b), (0, k)] [] LAY M 0 0) (M w b+1) (fun k hk_k ih => ?_) k hk_k
  intro k1 hj
  obtain ⟨a0, a1, a2, a3, a4⟩ := ha
  obtain ⟨b0, b1, b2, b3, b4⟩ := hb
  have htl : (fp (M w) b).length = (M w b).toNat := lst_lenN _ _
  have hal : (fp (M v) a).length = (M v a).toNat := lst_lenN _ _
  have hwi := wi_iff (p := fp (M v) a) (t := fp (M w) b) (fun z => by rw [z] at htl; simp at htl; omega)
  rw [htl, hal] at hwi
  have htk : (fp (M v) a).take (M w b).toNat = lst (fun j => M v (a + 1 + j)) (M w b) := lst_take b1 hle
  rw [htk] at hwi
  have hli : lst (fun j => M v (a + 1 + j)) (M w b) = fp (M w) b ↔ ∀ j, 0 ≤ j → j < M w b → M v (a + 1 + j) = M w (b + 1 + j) := by
    show _ = lst _ _ ↔ _
    rw [lst_inj b1 b1]
    exact ⟨fun z => z.2, fun z => ⟨rfl, z⟩⟩
  rw [hli] at hwi
  refine px_go_ok (inl := []) 60 ?_
  simp only [px_go, px_Q0_at, px_sx_0, px_sx_s, px_cl, px_step, ↓px_ll, px_lg, f4_, ↓px_r1, ↓px_r2, ↓px_r4, ↓px_r5, ↓px_p1, ↓px_p2, ↓px_p3, ↓px_pop, px_k_0, px_k_s, px_k3_0, px_stk_, px_cats, px_ent, px_st1, px_st2, px_mask, ↓px_tsw, ↓px_lsw, ct_, mls_0, mls_1, mls_2, mls_3, mls_4, mls_5, kd_0, kd_1, kd_2, kd_3, ln_0, ln_1, ln_2, ln_3, gf_0, gf_1, gf_2, gf_3, gf_4, gf_7, gf_21, gf_63, dy_0, dy_1, dy_2, dy_3, dy_7, dy_21, px_brT, px_brF, true_and, and_true, and_false, false_and, and_self, true_implies, false_implies, or_true, true_or, or_false, false_or, eq_self, ne_eq, not_false_eq_true, not_true_eq_false, if_true, if_false, List.mem_cons, List.not_mem_nil, List.length_cons, List.length_nil, Nat.reduceEqDiff, Nat.reduceAdd, Nat.reduceSub, Nat.reduceLeDiff, Nat.reduceLT, Int.reduceEq, Int.reduceLT, Int.reduceLE, Int.reduceNeg, Int.reduceAdd, Int.reduceSub, Int.reduceToNat, ↓reduceIte, one_ne_zero_, zero_ne_one_, px_in32L, cd_183, hkv, hkw]
  repeat' (first | (with_reducible apply And.intro) | (with_reducible refine px_br_intro (fun _ => ?_) (fun _ => ?_)))
  all_goals (try (first | (unfold px_in32; omega) | omega))
  · rename_i c1 c2
    exact h1 (hwi.mpr ⟨by omega, fun j j0 j1 => hj j j0 (by omega), Or.inl (by omega)⟩)
  · rename_i c1 c2 c3
    refine h1 (hwi.mpr ⟨by omega, fun j j0 j1 => hj j j0 (by omega), Or.inr ?_⟩)
    show (lst _ _)[_]? = _
    rw [lst_get (by omega), Int.toNat_of_nonneg b1, ← c3]
    congr 2; omega
  · rename_i c1 c2 c3
    refine h0 (fun z => ?_)
    rcases (hwi.mp z).2.2 with q | q
    · omega
    · have q : (lst (fun j => M v (a + 1 + j)) (M v a))[(M w b).toNat]? = some 47 := q
      rw [lst_get (by omega), Int.toNat_of_nonneg b1] at q
      injection q with q
      rw [show a + 1 + M w b = a + M w b + 1 by omega] at q
      exact c3 q
  · rename_i c1 c2
    refine ih (by omega) (by omega) (fun j j0 j1 => ?_)
    by_cases q : j = k - 1
    · rw [q, show a + 1 + (k - 1) = a + k by omega, show b + 1 + (k - 1) = b + k by omega]; exact c2
    · exact hj j j0 (by omega)
  · rename_i c1 c2
    refine h0 (fun z => c2 ?_)
    have := (hwi.mp z).2.1 (k - 1) (by omega) (by omega)
    rw [show a + 1 + (k - 1) = a + k by omega, show b + 1 + (k - 1) = b + k by omega] at this
    exact this
set_option maxHeartbeats 600000 in
set_option maxRecDepth 100000 in
theorem sp_isUnder {v a w b : Int} (hkv : px_kd LAY v = 0) (hkw : px_kd LAY w = 0) (ha : pok (M v) a (px_ln LAY v)) (hb : pok (M w) b (px_ln LAY w)) (hln : px_ln LAY v < 10000 ∧ px_ln LAY w < 10000) (hne : 0 < M w b) (h1 : wi (fp (M v) a) (fp (M w) b) → Q (some (0, 1)) M) (h0 : ¬ wi (fp (M v) a) (fp (M w) b) → Q (some (0, 0)) M) : px_Ok 183 [(2, v), (0, a), (2, w), (0, b)] LAY M Q := by
  have ha0 := ha.1
  have ha3 := ha.2.2.2.1
  have hb0 := hb.1
  have hb3 := hb.2.2.2.1
  have ha1 := ha.2.1
  have hb1 := hb.2.1
  refine px_ok_go (inl := []) (ls0 := [(2, v), (0, a), (2, w), (0, b), (9, 0)]) 60 (by decide) (Nat.le_of_ble_eq_true rfl) rfl ?_
  simp only [px_go, px_Q0_at, px_sx_0, px_sx_s, px_cl, px_step, ↓px_ll, px_lg, f4_, ↓px_r1, ↓px_r2, ↓px_r4, ↓px_r5, ↓px_p1, ↓px_p2, ↓px_p3, ↓px_pop, px_k_0, px_k_s, px_k3_0, px_stk_, px_cats, px_ent, px_st1, px_st2, px_mask, ↓px_tsw, ↓px_lsw, ct_, mls_0, mls_1, mls_2, mls_3, mls_4, mls_5, kd_0, kd_1, kd_2, kd_3, ln_0, ln_1, ln_2, ln_3, gf_0, gf_1, gf_2, gf_3, gf_4, gf_7, gf_21, gf_63, dy_0, dy_1, dy_2, dy_3, dy_7, dy_21, px_brT, px_brF, true_and, and_true, and_false, false_and, and_self, true_implies, false_implies, or_true, true_or, or_false, false_or, eq_self, ne_eq, not_false_eq_true, not_true_eq_false, if_true, if_false, List.mem_cons, List.not_mem_nil, List.length_cons, List.length_nil, Nat.reduceEqDiff, Nat.reduceAdd, Nat.reduceSub, Nat.reduceLeDiff, Nat.reduceLT, Int.reduceEq, Int.reduceLT, Int.reduceLE, Int.reduceNeg, Int.reduceAdd, Int.reduceSub, Int.reduceToNat, ↓reduceIte, one_ne_zero_, zero_ne_one_, px_in32L, cd_183, hkv, hkw]
  repeat' (first | (with_reducible apply And.intro) | (with_reducible refine px_br_intro (fun _ => ?_) (fun _ => ?_)))
  all_goals (try (first | (unfold px_in32; omega) | omega))
  · rename_i c1
    exact lp_isUnder hkv hkw ha hb hln hne c1 h1 h0 1 (by omega) (Int.le_refl 1) (fun j j0 j1 => by omega)
  · rename_i c1
    refine h0 (fun z => ?_)
    have := wi_len z
    have htl : (fp (M w) b).length = (M w b).toNat := lst_lenN _ _
    have hal : (fp (M v) a).length = (M v a).toNat := lst_lenN _ _
    omega
set_option maxHeartbeats 600000 in
set_option maxRecDepth 100000 in
theorem sp_areMeeting {v a w b : Int} (hkv : px_kd LAY v = 0) (hkw : px_kd LAY w = 0) (ha : pok (M v) a (px_ln LAY v)) (hb : pok (M w) b (px_ln LAY w)) (hln : px_ln LAY v < 10000 ∧ px_ln LAY w < 10000) (hna : 0 < M v a) (hne : 0 < M w b) (h1 : mt (fp (M v) a) (fp (M w) b) → Q (some (0, 1)) M) (h0 : ¬ mt (fp (M v) a) (fp (M w) b) → Q (some (0, 0)) M) : px_Ok 184 [(2, v), (0, a), (2, w), (0, b)] LAY M Q := by
  refine px_ok_go (inl := []) (ls0 := [(2, v), (0, a), (2, w), (0, b)]) 60 (by decide) (Nat.le_of_ble_eq_true rfl) rfl ?_
  simp only [px_go, px_Q0_at, px_sx_0, px_sx_s, px_cl, px_step, ↓px_ll, px_lg, f4_, ↓px_r1, ↓px_r2, ↓px_r4, ↓px_r5, ↓px_p1, ↓px_p2, ↓px_p3, ↓px_pop, px_k_0, px_k_s, px_k3_0, px_stk_, px_cats, px_ent, px_st1, px_st2, px_mask, ↓px_tsw, ↓px_lsw, ct_, mls_0, mls_1, mls_2, mls_3, mls_4, mls_5, kd_0, kd_1, kd_2, kd_3, ln_0, ln_1, ln_2, ln_3, gf_0, gf_1, gf_2, gf_3, gf_4, gf_7, gf_21, gf_63, dy_0, dy_1, dy_2, dy_3, dy_7, dy_21, px_brT, px_brF, true_and, and_true, and_false, false_and, and_self, true_implies, false_implies, or_true, true_or, or_false, false_or, eq_self, ne_eq, not_false_eq_true, not_true_eq_false, if_true, if_false, List.mem_cons, List.not_mem_nil, List.length_cons, List.length_nil, Nat.reduceEqDiff, Nat.reduceAdd, Nat.reduceSub, Nat.reduceLeDiff, Nat.reduceLT, Int.reduceEq, Int.reduceLT, Int.reduceLE, Int.reduceNeg, Int.reduceAdd, Int.reduceSub, Int.reduceToNat, ↓reduceIte, one_ne_zero_, zero_ne_one_, px_in32L, cd_184]
  repeat' (first | (with_reducible apply And.intro) | (with_reducible refine px_br_intro (fun _ => ?_) (fun _ => ?_)))
  all_goals (try (first | (unfold px_in32; omega) | omega))
  refine sp_isUnder hkv hkw ha hb hln hne (fun w1 => ?_) (fun w1 => ?_)
  · simp only [px_go, px_Q0_at, px_sx_0, px_sx_s, px_cl, px_step, ↓px_ll, px_lg, f4_, ↓px_r1, ↓px_r2, ↓px_r4, ↓px_r5, ↓px_p1, ↓px_p2, ↓px_p3, ↓px_pop, px_k_0, px_k_s, px_k3_0, px_stk_, px_cats, px_ent, px_st1, px_st2, px_mask, ↓px_tsw, ↓px_lsw, ct_, mls_0, mls_1, mls_2, mls_3, mls_4, mls_5, kd_0, kd_1, kd_2, kd_3, ln_0, ln_1, ln_2, ln_3, gf_0, gf_1, gf_2, gf_3, gf_4, gf_7, gf_21, gf_63, dy_0, dy_1, dy_2, dy_3, dy_7, dy_21, px_brT, px_brF, true_and, and_true, and_false, false_and, and_self, true_implies, false_implies, or_true, true_or, or_false, false_or, eq_self, ne_eq, not_false_eq_true, not_true_eq_false, if_true, if_false, List.mem_cons, List.not_mem_nil, List.length_cons, List.length_nil, Nat.reduceEqDiff, Nat.reduceAdd, Nat.reduceSub, Nat.reduceLeDiff, Nat.reduceLT, Int.reduceEq, Int.reduceLT, Int.reduceLE, Int.reduceNeg, Int.reduceAdd, Int.reduceSub, Int.reduceToNat, ↓reduceIte, one_ne_zero_, zero_ne_one_, px_in32L, cd_184]
    exact h1 (Or.inl w1)
  · simp only [px_go, px_Q0_at, px_sx_0, px_sx_s, px_cl, px_step, ↓px_ll, px_lg, f4_, ↓px_r1, ↓px_r2, ↓px_r4, ↓px_r5, ↓px_p1, ↓px_p2, ↓px_p3, ↓px_pop, px_k_0, px_k_s, px_k3_0, px_stk_, px_cats, px_ent, px_st1, px_st2, px_mask, ↓px_tsw, ↓px_lsw, ct_, mls_0, mls_1, mls_2, mls_3, mls_4, mls_5, kd_0, kd_1, kd_2, kd_3, ln_0, ln_1, ln_2, ln_3, gf_0, gf_1, gf_2, gf_3, gf_4, gf_7, gf_21, gf_63, dy_0, dy_1, dy_2, dy_3, dy_7, dy_21, px_brT, px_brF, true_and, and_true, and_false, false_and, and_self, true_implies, false_implies, or_true, true_or, or_false, false_or, eq_self, ne_eq, not_false_eq_true, not_true_eq_false, if_true, if_false, List.mem_cons, List.not_mem_nil, List.length_cons, List.length_nil, Nat.reduceEqDiff, Nat.reduceAdd, Nat.reduceSub, Nat.reduceLeDiff, Nat.reduceLT, Int.reduceEq, Int.reduceLT, Int.reduceLE, Int.reduceNeg, Int.reduceAdd, Int.reduceSub, Int.reduceToNat, ↓reduceIte, one_ne_zero_, zero_ne_one_, px_in32L, cd_184]
    refine sp_isUnder hkw hkv hb ha ⟨hln.2, hln.1⟩ hna (fun w2 => ?_) (fun w2 => ?_)
    · simp only [px_go, px_Q0_at, px_sx_0, px_sx_s, px_cl, px_step, ↓px_ll, px_lg, f4_, ↓px_r1, ↓px_r2, ↓px_r4, ↓px_r5, ↓px_p1, ↓px_p2, ↓px_p3, ↓px_pop, px_k_0, px_k_s, px_k3_0, px_stk_, px_cats, px_ent, px_st1, px_st2, px_mask, ↓px_tsw, ↓px_lsw, ct_, mls_0, mls_1, mls_2, mls_3, mls_4, mls_5, kd_0, kd_1, kd_2, kd_3, ln_0, ln_1, ln_2, ln_3, gf_0, gf_1, gf_2, gf_3, gf_4, gf_7, gf_21, gf_63, dy_0, dy_1, dy_2, dy_3, dy_7, dy_21, px_brT, px_brF, true_and, and_true, and_false, false_and, and_self, true_implies, false_implies, or_true, true_or, or_false, false_or, eq_self, ne_eq, not_false_eq_true, not_true_eq_false, if_true, if_false, List.mem_cons, List.not_mem_nil, List.length_cons, List.length_nil, Nat.reduceEqDiff, Nat.reduceAdd, Nat.reduceSub, Nat.reduceLeDiff, Nat.reduceLT, Int.reduceEq, Int.reduceLT, Int.reduceLE, Int.reduceNeg, Int.reduceAdd, Int.reduceSub, Int.reduceToNat, ↓reduceIte, one_ne_zero_, zero_ne_one_, px_in32L, cd_184]
      exact h1 (Or.inr w2)
    · simp only [px_go, px_Q0_at, px_sx_0, px_sx_s, px_cl, px_step, ↓px_ll, px_lg, f4_, ↓px_r1, ↓px_r2, ↓px_r4, ↓px_r5, ↓px_p1, ↓px_p2, ↓px_p3, ↓px_pop, px_k_0, px_k_s, px_k3_0, px_stk_, px_cats, px_ent, px_st1, px_st2, px_mask, ↓px_tsw, ↓px_lsw, ct_, mls_0, mls_1, mls_2, mls_3, mls_4, mls_5, kd_0, kd_1, kd_2, kd_3, ln_0, ln_1, ln_2, ln_3, gf_0, gf_1, gf_2, gf_3, gf_4, gf_7, gf_21, gf_63, dy_0, dy_1, dy_2, dy_3, dy_7, dy_21, px_brT, px_brF, true_and, and_true, and_false, false_and, and_self, true_implies, false_implies, or_true, true_or, or_false, false_or, eq_self, ne_eq, not_false_eq_true, not_true_eq_false, if_true, if_false, List.mem_cons, List.not_mem_nil, List.length_cons, List.length_nil, Nat.reduceEqDiff, Nat.reduceAdd, Nat.reduceSub, Nat.reduceLeDiff, Nat.reduceLT, Int.reduceEq, Int.reduceLT, Int.reduceLE, Int.reduceNeg, Int.reduceAdd, Int.reduceSub, Int.reduceToNat, ↓reduceIte, one_ne_zero_, zero_ne_one_, px_in32L, cd_184]
      exact h0 (fun z => z.elim w1 w2)
end PS
