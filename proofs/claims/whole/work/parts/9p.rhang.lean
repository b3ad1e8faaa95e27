set_option maxRecDepth 100000 in
/-- X12_hangsOn -/
theorem cd_259 : px_at 259 0 = some (1, [], .iload_n 1, []) ∧ px_at 259 1 = some (2, [], .istore_n 3, []) ∧ px_at 259 2 = some (3, [1, 0, 1, 1], .iload_n 3, []) ∧ px_at 259 3 = some (4, [], .iload_n 2, []) ∧ px_at 259 4 = some (7, [], .if_icmp .eq 24, [28]) ∧ px_at 259 7 = some (8, [], .aload_n 0, []) ∧ px_at 259 8 = some (9, [], .iload_n 3, []) ∧ px_at 259 9 = some (10, [], .iconst 5, []) ∧ px_at 259 10 = some (13, [], .invokevirtual 109, [187, 2, 11, 259]) ∧ px_at 259 13 = some (15, [], .bipush (-2), []) ∧ px_at 259 15 = some (18, [], .if_icmp .eq 13, [28]) ∧ px_at 259 18 = some (19, [], .aload_n 0, []) ∧ px_at 259 19 = some (20, [], .iload_n 3, []) ∧ px_at 259 20 = some (21, [], .iconst 5, []) ∧ px_at 259 21 = some (24, [], .invokevirtual 109, [187, 2, 11, 259]) ∧ px_at 259 24 = some (25, [], .istore_n 3, []) ∧ px_at 259 25 = some (28, [], .goto (-23), [2]) ∧ px_at 259 28 = some (29, [], .iload_n 3, []) ∧ px_at 259 29 = some (30, [], .iload_n 2, []) ∧ px_at 259 30 = some (33, [], .if_icmp .ne 7, [37]) ∧ px_at 259 33 = some (34, [], .iconst 1, []) ∧ px_at 259 34 = some (37, [], .goto 4, [38]) ∧ px_at 259 37 = some (38, [], .iconst 0, []) ∧ px_at 259 38 = some (39, [], .ireturn, [4]) := ⟨rfl, rfl, rfl, rfl, rfl, rfl, rfl, rfl, rfl, rfl, rfl, rfl, rfl, rfl, rfl, rfl, rfl, rfl, rfl, rfl, rfl, rfl, rfl, rfl⟩
/-! what hangs on what, by chains of bases -/
theorem sm_add {f g : Int → Int} (n : Int) : sm n (fun i => f i + g i) = sm n f + sm n g := by
  unfold sm
  have key : ∀ k : Nat, smN k (fun i => f i + g i) = smN k f + smN k g := by
    intro k
    induction k with
    | zero => rfl
    | succ k ih =>
      show smN k (fun i => f i + g i) + (f k + g k) = (smN k f + f k) + (smN k g + g k)
      rw [ih]; omega
  exact key _
theorem sm_zero (n : Int) : sm n (fun _ => 0) = 0 := by
  unfold sm
  have key : ∀ k : Nat, smN k (fun _ => 0) = 0 := by
    intro k
    induction k with
    | zero => rfl
    | succ k ih => show smN k (fun _ => 0) + 0 = 0; rw [ih]; rfl
  exact key _
theorem sm_swap {F : Int → Int → Int} (n m : Int) : sm n (fun i => sm m (fun j => F i j)) = sm m (fun j => sm n (fun i => F i j)) := by
  have key : ∀ k : Nat, smN k (fun i => sm m (fun j => F i j)) = sm m (fun j => smN k (fun i => F i j)) := by
    intro k
    induction k with
    | zero =>
      show (0 : Int) = sm m (fun _ => 0)
      rw [sm_zero]
    | succ k ih =>
      show smN k (fun i => sm m (fun j => F i j)) + sm m (fun j => F k j) = sm m (fun j => smN k (fun i => F i j) + F k j)
      rw [ih, sm_add]
  exact key _
theorem sm_one {n : Int} {p : Int → Prop} {v : Int} (h : ∀ d d', 0 ≤ d → d < n → 0 ≤ d' → d' < n → p d → p d' → d = d') : sm n (fun d => ifP (p d) v) = ifP (∃ d, 0 ≤ d ∧ d < n ∧ p d) v := by
  by_cases q : ∃ d, 0 ≤ d ∧ d < n ∧ p d
  · rw [ifP_t q]
    obtain ⟨d0, a0, a1, a2⟩ := q
    have := sm_add1 (k := d0) a0 a1 (f := fun _ => 0) (g := fun d => ifP (p d) v) (fun d b0 b1' b2 => ifP_f (fun z => b2 (h d d0 b0 b1' a0 a1 z a2)))
    rw [this, sm_zero, ifP_t a2]
    omega
  · rw [ifP_f q]
    have : sm n (fun d => ifP (p d) v) = sm n (fun _ => 0) := sm_congr (fun d d0 d1 => ifP_f (fun z => q ⟨d, d0, d1, z⟩))
    rw [this, sm_zero]
def HG (Mc : px_mem) (c o : Int) : Prop := ∃ k : Nat, (k : Int) ≤ Mc 62 c ∧ chn (cC Mc) c k = o
theorem HG_dep {Mc : px_mem} (hci : ci Mc) {c o : Int} (c0 : 0 ≤ c) (c1 : c < 40) (c2 : 0 ≤ Mc 62 c) (h : HG Mc c o) : 0 ≤ o ∧ o < 40 ∧ 0 ≤ Mc 62 o ∧ Mc 62 o ≤ Mc 62 c := by
  obtain ⟨k, k1, k2⟩ := h
  have := chn_ok hci.1 c0 c1 c2 k k1
  rw [k2] at this
  omega
theorem HG_rec {Mc : px_mem} (hci : ci Mc) {c o : Int} (c0 : 0 ≤ c) (c1 : c < 40) (c2 : 0 ≤ Mc 62 c) (o0 : 0 ≤ o) : HG Mc c o ↔ (c = o ∨ ∃ d, 0 ≤ d ∧ d < 40 ∧ 0 ≤ Mc 62 d ∧ Mc 61 d = o ∧ HG Mc c d) := by
  constructor
  · rintro ⟨k, k1, k2⟩
    cases k with
    | zero => exact Or.inl k2
    | succ k =>
      have h := chn_ok hci.1 c0 c1 c2 k (by omega)
      exact Or.inr ⟨chn (cC Mc) c k, h.1, h.2.1, by omega, k2, k, by omega, rfl⟩
  · rintro (e | ⟨d, d0, d1, d2, d3, k, k1, k2⟩)
    · exact ⟨0, by omega, e⟩
    · have h := chn_ok hci.1 c0 c1 c2 k k1
      rw [k2] at h
      have hd := hci.1 d d0 d1 d2
      unfold cok at hd
      have e5 : cC Mc d 5 = Mc 61 d := rfl
      rw [e5] at hd
      refine ⟨k + 1, by omega, ?_⟩
      show cC Mc (chn (cC Mc) c k) 5 = o
      rw [k2]; exact d3
theorem HG_uniq {Mc : px_mem} (hci : ci Mc) {c o d d' : Int} (c0 : 0 ≤ c) (c1 : c < 40) (c2 : 0 ≤ Mc 62 c) (o0 : 0 ≤ o) (h : HG Mc c d) (h' : HG Mc c d') (e : Mc 61 d = o) (e' : Mc 61 d' = o) : d = d' := by
  have a := HG_dep hci c0 c1 c2 h
  have a' := HG_dep hci c0 c1 c2 h'
  obtain ⟨k, k1, k2⟩ := h
  obtain ⟨k', k1', k2'⟩ := h'
  have b := chn_ok hci.1 c0 c1 c2 k k1
  have b' := chn_ok hci.1 c0 c1 c2 k' k1'
  rw [k2] at b
  rw [k2'] at b'
  have hd := hci.1 d a.1 a.2.1 a.2.2.1
  have hd' := hci.1 d' a'.1 a'.2.1 a'.2.2.1
  unfold cok at hd hd'
  have e5 : cC Mc d 5 = o := e
  have e5' : cC Mc d' 5 = o := e'
  rw [e5] at hd
  rw [e5'] at hd'
  have ek : k = k' := by omega
  rw [← k2, ← k2', ek]
theorem dpt_ci {Mc : px_mem} (hci : ci Mc) : dpt (Mc 62) (Mc 61) := fun c c0 c1 c2 => by
  have h := hci.1 c c0 c1 c2
  unfold cok at h
  have e5 : cC Mc c 5 = Mc 61 c := rfl
  rw [e5] at h
  refine ⟨h.1, ?_⟩
  rcases h.2.2.2.2.2.2.2.2.2 with z | z
  · left; omega
  · right; exact ⟨z.1, z.2.1, z.2.2.1, z.2.2.2⟩
theorem HG_sum {Mc : px_mem} (hci : ci Mc) (f : Int → Int) : ∀ (m : Nat) (o : Int), 0 ≤ o → o < 40 → 0 ≤ Mc 62 o → 3 ≤ Mc 62 o + m → sm 40 (fun c => ifP (0 ≤ Mc 62 c ∧ HG Mc c o) (f c)) = full (Mc 62) (Mc 61) f 3 o := by
  have hstep : ∀ o, 0 ≤ o → o < 40 → 0 ≤ Mc 62 o → (∀ d, 0 ≤ d → d < 40 → 0 ≤ Mc 62 d → Mc 61 d = o → sm 40 (fun c => ifP (0 ≤ Mc 62 c ∧ HG Mc c d) (f c)) = full (Mc 62) (Mc 61) f 3 d) → sm 40 (fun c => ifP (0 ≤ Mc 62 c ∧ HG Mc c o) (f c)) = full (Mc 62) (Mc 61) f 3 o := fun o o0 o1 o2 ih => by
    rw [full_eq (dpt_ci hci) o0]
    have e1 : sm 40 (fun c => ifP (0 ≤ Mc 62 c ∧ HG Mc c o) (f c)) = sm 40 (fun c => ifP (c = o) (f c) + sm 40 (fun d => ifP ((0 ≤ Mc 62 d ∧ Mc 61 d = o) ∧ (0 ≤ Mc 62 c ∧ HG Mc c d)) (f c))) := sm_congr (fun c c0 c1 => by
      rw [sm_one (p := fun d => (0 ≤ Mc 62 d ∧ Mc 61 d = o) ∧ (0 ≤ Mc 62 c ∧ HG Mc c d)) (fun d d' _ _ _ _ z z' => HG_uniq hci c0 c1 z.2.1 o0 z.2.2 z'.2.2 z.1.2 z'.1.2)]
      by_cases q : c = o
      · rw [ifP_t q, ifP_t ⟨by rw [q]; exact o2, (HG_rec hci c0 c1 (by rw [q]; exact o2) o0).mpr (Or.inl q)⟩, ifP_f]
        · omega
        · rintro ⟨d, d0, d1, ⟨z1, z2⟩, z3, z4⟩
          have h1 := HG_dep hci c0 c1 z3 z4
          have hd := dpt_ci hci d d0 d1 z1
          rw [z2] at hd
          rw [q] at h1
          omega
      · rw [ifP_f q, Int.zero_add]
        refine ifP_congr ⟨fun z => ?_, fun ⟨d, d0, d1, z1, z2⟩ => ⟨z2.1, (HG_rec hci c0 c1 z2.1 o0).mpr (Or.inr ⟨d, d0, d1, z1.1, z1.2, z2.2⟩)⟩⟩ (fun _ => rfl)
        rcases (HG_rec hci c0 c1 z.1 o0).mp z.2 with y | ⟨d, d0, d1, d2, d3, d4⟩
        · exact absurd y q
        · exact ⟨d, d0, d1, ⟨d2, d3⟩, z.1, d4⟩)
    have eA : sm 40 (fun c => ifP (c = o) (f c)) = f o := by
      have := sm_add1 (k := o) o0 o1 (f := fun _ => 0) (g := fun c => ifP (c = o) (f c)) (fun d _ _ b2 => ifP_f b2)
      rw [this, sm_zero, ifP_t rfl]; omega
    have eB : sm 40 (fun c => sm 40 (fun d => ifP ((0 ≤ Mc 62 d ∧ Mc 61 d = o) ∧ (0 ≤ Mc 62 c ∧ HG Mc c d)) (f c))) = sm 40 (fun d => ifP (0 ≤ Mc 62 d ∧ Mc 61 d = o) (full (Mc 62) (Mc 61) f 3 d)) := by
      rw [sm_swap]
      refine sm_congr (fun d d0 d1 => ?_)
      by_cases q : 0 ≤ Mc 62 d ∧ Mc 61 d = o
      · rw [ifP_t q, ← ih d d0 d1 q.1 q.2]
        exact sm_congr (fun c _ _ => ifP_congr ⟨fun z => z.2, fun z => ⟨q, z⟩⟩ (fun _ => rfl))
      · rw [ifP_f q]
        have : sm 40 (fun c => ifP ((0 ≤ Mc 62 d ∧ Mc 61 d = o) ∧ (0 ≤ Mc 62 c ∧ HG Mc c d)) (f c)) = sm 40 (fun _ => 0) := sm_congr (fun c _ _ => ifP_f (fun z => q z.1))
        rw [this, sm_zero]
    rw [e1, sm_add, eA, eB]
  intro m
  induction m with
  | zero =>
    intro o o0 o1 o2 om
    refine hstep o o0 o1 o2 (fun d d0 d1 d2 d3 => ?_)
    have hd := dpt_ci hci d d0 d1 d2
    rw [d3] at hd
    omega
  | succ m ih =>
    intro o o0 o1 o2 om
    refine hstep o o0 o1 o2 (fun d d0 d1 d2 d3 => ?_)
    have hd := dpt_ci hci d d0 d1 d2
    rw [d3] at hd
    exact ih d d0 d1 d2 (by omega)
theorem HG_set {Mc : px_mem} (hci : ci Mc) (P : Int → Prop) : ∀ (m : Nat) (o : Int), 0 ≤ o → o < 40 → 0 ≤ Mc 62 o → 3 ≤ Mc 62 o + m → (fullS (Mc 62) (Mc 61) P 3 o ↔ ∃ c, 0 ≤ c ∧ c < 40 ∧ 0 ≤ Mc 62 c ∧ HG Mc c o ∧ P c) := by
  have hstep : ∀ o, 0 ≤ o → o < 40 → 0 ≤ Mc 62 o → (∀ d, 0 ≤ d → d < 40 → 0 ≤ Mc 62 d → Mc 61 d = o → (fullS (Mc 62) (Mc 61) P 3 d ↔ ∃ c, 0 ≤ c ∧ c < 40 ∧ 0 ≤ Mc 62 c ∧ HG Mc c d ∧ P c)) → (fullS (Mc 62) (Mc 61) P 3 o ↔ ∃ c, 0 ≤ c ∧ c < 40 ∧ 0 ≤ Mc 62 c ∧ HG Mc c o ∧ P c) := fun o o0 o1 o2 ih => by
    rw [fullS_eq (dpt_ci hci) o0]
    constructor
    · rintro (z | ⟨d, d0, d1, d2, d3, d4⟩)
      · exact ⟨o, o0, o1, o2, (HG_rec hci o0 o1 o2 o0).mpr (Or.inl rfl), z⟩
      · obtain ⟨c, c0, c1, c2, c3, c4⟩ := (ih d d0 d1 d2 d3).mp d4
        exact ⟨c, c0, c1, c2, (HG_rec hci c0 c1 c2 o0).mpr (Or.inr ⟨d, d0, d1, d2, d3, c3⟩), c4⟩
    · rintro ⟨c, c0, c1, c2, c3, c4⟩
      rcases (HG_rec hci c0 c1 c2 o0).mp c3 with y | ⟨d, d0, d1, d2, d3, d4⟩
      · left; rw [← y]; exact c4
      · exact Or.inr ⟨d, d0, d1, d2, d3, (ih d d0 d1 d2 d3).mpr ⟨c, c0, c1, c2, d4, c4⟩⟩
  intro m
  induction m with
  | zero =>
    intro o o0 o1 o2 om
    refine hstep o o0 o1 o2 (fun d d0 d1 d2 d3 => ?_)
    have hd := dpt_ci hci d d0 d1 d2
    rw [d3] at hd
    omega
  | succ m ih =>
    intro o o0 o1 o2 om
    refine hstep o o0 o1 o2 (fun d d0 d1 d2 d3 => ?_)
    have hd := dpt_ci hci d d0 d1 d2
    rw [d3] at hd
    exact ih d d0 d1 d2 (by omega)
section PS
variable {M : px_mem} {Q : Option pv → px_mem → Prop}
set_option maxHeartbeats 600000 in
set_option maxRecDepth 100000 in
theorem lp_hangsOn {Mc : px_mem} {c o : Int} (hT : tieC Mc (M 128)) (hc : 0 ≤ c ∧ c < 40 ∧ 0 ≤ Mc 62 c) (h1 : HG Mc c o → Q (some (0, 1)) M) (h0 : ¬ HG Mc c o → Q (some (0, 0)) M) (i : Int) (hk_i : i ≤ Mc 62 c) : 0 ≤ i → (∀ j : Nat, (j : Int) < i → chn (cC Mc) c j ≠ o) → px_WP 259 0 0 (px_Q0 LAY Q) 2 [(2, 127), (9, 0), (0, o), (0, chn (cC Mc) c i.toNat)] [] LAY M 0 0 := by
  refine up_ind (P := fun i => 0 ≤ i → (∀ j : Nat, (j : Int) < i → chn (cC Mc) c j ≠ o) → px_WP 259 0 0 (px_Q0 LAY Q) 2 [(2, 127), (9, 0), (0, o), (0, chn (cC Mc) c i.toNat)] [] LAY M 0 0) (Mc 62 c) (fun i hk_i ih => ?_) i hk_i
  intro i0 hj
  have hx := chn_ok hT.1.1 hc.1 hc.2.1 hc.2.2 i.toNat (by omega)
  have hp := tieC_p hT hx.1 hx.2.1 (by omega)
  have hk := hT.1.1 _ hx.1 hx.2.1 (by omega)
  have e5 : M 128 (654 + 6 * chn (cC Mc) c i.toNat + 5) = Mc 61 (chn (cC Mc) c i.toNat) := hp.2.2.2.2
  have hy : chn (cC Mc) c i.toNat = o → HG Mc c o := fun z => ⟨i.toNat, by omega, z⟩
  have hnx : chn (cC Mc) c (i + 1).toNat = Mc 61 (chn (cC Mc) c i.toNat) := by rw [show (i + 1).toNat = i.toNat + 1 by omega]; rfl
  unfold cok at hk
  have e6 : cC Mc (chn (cC Mc) c i.toNat) 5 = Mc 61 (chn (cC Mc) c i.toNat) := rfl
  rw [e6] at hk
  have hlst : ¬ chn (cC Mc) c i.toNat = o → i = Mc 62 c → ¬ HG Mc c o := fun z e ⟨k, k1, k2⟩ => by
    by_cases q : (k : Int) < i
    · exact hj k q k2
    · exact z (by rw [show i.toNat = k by omega]; exact k2)
  have hgo : ¬ chn (cC Mc) c i.toNat = o → i < Mc 62 c → px_WP 259 0 0 (px_Q0 LAY Q) 2 [(2, 127), (9, 0), (0, o), (0, chn (cC Mc) c (i + 1).toNat)] [] LAY M 0 0 := fun z q => ih q (by omega) (fun j j1 => by
    by_cases y : (j : Int) = i
    · rw [show j = i.toNat by omega]; exact z
    · exact hj j (by omega))
  generalize chn (cC Mc) c i.toNat = x at *
  refine px_go_ok (inl := [187]) 60 ?_
  simp only [px_go, px_Q0_at, px_sx_0, px_sx_s, px_cl, px_step, ↓px_ll, px_lg, f4_, ↓px_r1, ↓px_r2, ↓px_r4, ↓px_r5, ↓px_p1, ↓px_p2, ↓px_p3, ↓px_pop, px_k_0, px_k_s, px_k3_0, px_stk_, px_cats, px_ent, px_st1, px_st2, px_mask, ↓px_tsw, ↓px_lsw, ct_, mls_0, mls_1, mls_2, mls_3, mls_4, mls_5, kd_0, kd_1, kd_2, kd_3, ln_0, ln_1, ln_2, ln_3, gf_0, gf_1, gf_2, gf_3, gf_4, gf_7, gf_21, gf_63, dy_0, dy_1, dy_2, dy_3, dy_7, dy_21, px_brT, px_brF, true_and, and_true, and_false, false_and, and_self, true_implies, false_implies, or_true, true_or, or_false, false_or, eq_self, ne_eq, not_false_eq_true, not_true_eq_false, if_true, if_false, List.mem_cons, List.not_mem_nil, List.length_cons, List.length_nil, Nat.reduceEqDiff, Nat.reduceAdd, Nat.reduceSub, Nat.reduceLeDiff, Nat.reduceLT, Int.reduceEq, Int.reduceLT, Int.reduceLE, Int.reduceNeg, Int.reduceAdd, Int.reduceSub, Int.reduceToNat, ↓reduceIte, one_ne_zero_, zero_ne_one_, px_in32L, cd_259, cd_187, e5]
  repeat' (first | (with_reducible apply And.intro) | (with_reducible refine px_br_intro (fun _ => ?_) (fun _ => ?_)))
  all_goals (try (first | (unfold px_in32; omega) | omega))
  · rename_i c1 c2
    exact h1 (hy c1)
  · rename_i c1 c2 c3
    exact h0 (hlst c1 (by omega))
  · rename_i c1 c2
    have := hgo c1 (by omega)
    rw [hnx] at this
    exact this
set_option maxHeartbeats 600000 in
set_option maxRecDepth 100000 in
theorem sp_hangsOn {Mc : px_mem} {c o : Int} (hT : tieC Mc (M 128)) (hc : 0 ≤ c ∧ c < 40 ∧ 0 ≤ Mc 62 c) (h1 : HG Mc c o → Q (some (0, 1)) M) (h0 : ¬ HG Mc c o → Q (some (0, 0)) M) : px_Ok 259 [(2, 127), (0, c), (0, o)] LAY M Q := by
  refine px_ok_go (inl := []) (ls0 := [(2, 127), (0, c), (0, o), (9, 0)]) 60 (by decide) (Nat.le_of_ble_eq_true rfl) rfl ?_
  simp only [px_go, px_Q0_at, px_sx_0, px_sx_s, px_cl, px_step, ↓px_ll, px_lg, f4_, ↓px_r1, ↓px_r2, ↓px_r4, ↓px_r5, ↓px_p1, ↓px_p2, ↓px_p3, ↓px_pop, px_k_0, px_k_s, px_k3_0, px_stk_, px_cats, px_ent, px_st1, px_st2, px_mask, ↓px_tsw, ↓px_lsw, ct_, mls_0, mls_1, mls_2, mls_3, mls_4, mls_5, kd_0, kd_1, kd_2, kd_3, ln_0, ln_1, ln_2, ln_3, gf_0, gf_1, gf_2, gf_3, gf_4, gf_7, gf_21, gf_63, dy_0, dy_1, dy_2, dy_3, dy_7, dy_21, px_brT, px_brF, true_and, and_true, and_false, false_and, and_self, true_implies, false_implies, or_true, true_or, or_false, false_or, eq_self, ne_eq, not_false_eq_true, not_true_eq_false, if_true, if_false, List.mem_cons, List.not_mem_nil, List.length_cons, List.length_nil, Nat.reduceEqDiff, Nat.reduceAdd, Nat.reduceSub, Nat.reduceLeDiff, Nat.reduceLT, Int.reduceEq, Int.reduceLT, Int.reduceLE, Int.reduceNeg, Int.reduceAdd, Int.reduceSub, Int.reduceToNat, ↓reduceIte, one_ne_zero_, zero_ne_one_, px_in32L, cd_259]
  repeat' (first | (with_reducible apply And.intro) | (with_reducible refine px_br_intro (fun _ => ?_) (fun _ => ?_)))
  all_goals (try (first | (unfold px_in32; omega) | omega))
  exact lp_hangsOn hT hc h1 h0 0 hc.2.2 (Int.le_refl 0) (fun j j1 => by omega)
end PS
