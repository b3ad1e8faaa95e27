/-! rows of the pure machine: arrays, things made -/
theorem px_ix {j : Int} (hj : px_in32 j) (h0 : 0 ≤ j) : (Int32.ofInt j).toNatClampNeg = j.toNat ∧ ¬ Int32.ofInt j < 0 := by
  refine ⟨Int32.toNatClampNeg_ofInt_of_le (by have := hj.1; omega) (by have := hj.2; omega), fun h => ?_⟩
  rw [Int32.lt_iff_toInt_lt, px_t32 hj] at h
  have : (0 : Int32).toInt = 0 := rfl
  omega
theorem px_gf_lt {L : px_lay} {M : px_mem} {v j : Int} (h : px_kd L v < 4) : px_gf L M v j = M v j := by
  unfold px_gf px_sv
  unfold px_kd at h
  rw [if_pos h]
theorem px_arr_at {base : Nat} {D : va_G} {s : State} {L : px_lay} {M : px_mem} {H : Heap} (hR : px_Rep base D s L M H) {v j : Int} {kd : Nat} (hkd : px_kd L v = kd) (hc : kd < 10) (hj : px_in32 j) (h0 : 0 ≤ j) (h1 : j < px_ln L v) :
    ∃ (a : Nat) (cell : Cell), v = (a : Int) + 1 ∧ (v - 1).toNat = a ∧ H[base + a]? = some cell ∧ s.isArrayOf cell (px_kty kd) ∧ cell.vm = .none ∧ ¬ (Int32.ofInt j < 0 ∨ cell.slots.size ≤ (Int32.ofInt j).toNatClampNeg) ∧
      cell.slots[(Int32.ofInt j).toNatClampNeg]? = some (px_v base (px_ktag kd, px_gf L M v j)) ∧ px_okv (px_ktag kd) (px_gf L M v j) ∧ px_arr s cell.cls kd ∧ cell.slots.size = (px_en L v).2.1 ∧
      ∀ (x : Int) (H1 : Heap), px_okv (px_ktag kd) x → px_dy L v j → H1[base + a]? = some (cell.setSlot (Int32.ofInt j).toNatClampNeg (px_v base (px_ktag kd, x))) → H1.size = H.size → (∀ q, q ≠ base + a → H1[q]? = H[q]?) → px_Rep base D s L (px_up M v j x) H1 := by
  obtain ⟨a, cA, e1, e2, e3, e4, e5, e6⟩ := px_cell_arr hR hkd hc
  obtain ⟨i1, i2⟩ := px_ix hj h0
  have hlt : j.toNat < (px_en L v).2.1 := by unfold px_ln at h1; omega
  have hjn : ((j.toNat : Nat) : Int) = j := Int.toNat_of_nonneg h0
  refine ⟨a, _, e1, e2, e4, e5.1 _ _, rfl, ?_, ?_, ?_, e5, arrV_size _ _ _, ?_⟩
  · rintro (h | h)
    · exact i2 h
    · rw [arrV_size, i1] at h; omega
  · rw [i1, arrV_read _ _ hlt, hjn]
    rfl
  · have := e6 j.toNat hlt
    rw [hjn] at this
    exact this
  · intro x H1 hx hdy g1 g2 g3
    have hen : (px_en L v).1 = kd := hkd
    have hR1 := px_Rep_set (x := x) (j := j.toNat) hR e3 hdy (H1 := H1) (by unfold px_tag; rw [if_pos (by omega), hen]; exact hx) g2 g3 (by
      intro hcl
      rw [← e1]
      unfold px_cell
      rw [if_pos (by omega), hen]
      refine ⟨cA, ?_, e5⟩
      rw [g1, i1, arrV_store]
      refine congrArg some (congrArg (arrV cA _) (funext fun i => ?_))
      rw [px_sv_up (e := px_en L v) (M := M) (v := v) (x := x) hdy i]
      unfold updV
      by_cases hif : i = j.toNat
      · subst hif; simp
      · rw [if_neg hif, if_neg hif])
    rw [← e1, hjn] at hR1
    exact hR1
section PA
variable {z mc ms : Nat} {Q : Option pv → px_lay → px_mem → Nat → Nat → Prop} {pc : Nat} {ls st : List pv} {L : px_lay} {M : px_mem} {k n : Nat} {q : px_M}
theorem pi_iald (hq : px_MT[z]? = some q) (hd : decode q.2.1 pc = .ok (.iaload, 1)) {v j : Int} (hkd : px_kd L v = 0) (h0 : 0 ≤ j) (h1 : j < px_ln L v) (h : px_WP z mc ms Q (pc + 1) ls ((0, M v j) :: st) L M k n) : px_WP z mc ms Q pc ls ((0, j) :: (2, v) :: st) L M k n := by
  intro q' p l e R s m args below meth cd QF base D H locs rls hq' X hk hn hR hS hL hst
  cases hq.symm.trans hq'
  obtain ⟨a, cell, e1, e2, e3, e4, e5, e6, e7, e8, -⟩ := px_arr_at hR hkd (by decide) (px_ok0_r (hst (0, j) (by simp))) h0 h1
  rw [px_gf_lt (by omega)] at e7 e8
  show W p l e R s m args below meth cd H locs k n QF (F0 m pc rls (.int (Int32.ofInt j) :: px_v base (2, v) :: _))
  rw [px_v2 base (by omega), e2]
  exact W.iald X.1 X.2.1 e3 e4 (by rw [e5]; exact fun h => by cases h) e6 e7 rfl rfl hd (h q p l e R s m args below meth cd QF base D H locs rls hq X hk hn hR hS hL (px_oc (px_ok0 (e8.1 rfl)) (fun y hy => hst y (by simp [hy]))))
theorem pi_lald (hq : px_MT[z]? = some q) (hd : decode q.2.1 pc = .ok (.laload, 1)) {v j : Int} (hkd : px_kd L v = 1) (h0 : 0 ≤ j) (h1 : j < px_ln L v) (h : px_WP z mc ms Q (pc + 1) ls ((1, M v j) :: st) L M k n) : px_WP z mc ms Q pc ls ((0, j) :: (2, v) :: st) L M k n := by
  intro q' p l e R s m args below meth cd QF base D H locs rls hq' X hk hn hR hS hL hst
  cases hq.symm.trans hq'
  obtain ⟨a, cell, e1, e2, e3, e4, e5, e6, e7, e8, -⟩ := px_arr_at hR hkd (by decide) (px_ok0_r (hst (0, j) (by simp))) h0 h1
  rw [px_gf_lt (by omega)] at e7 e8
  show W p l e R s m args below meth cd H locs k n QF (F0 m pc rls (.int (Int32.ofInt j) :: px_v base (2, v) :: _))
  rw [px_v2 base (by omega), e2]
  exact W.lald X.1 X.2.1 e3 e4 (by rw [e5]; exact fun h => by cases h) e6 e7 rfl rfl hd (h q p l e R s m args below meth cd QF base D H locs rls hq X hk hn hR hS hL (px_oc (px_ok1 (e8.2.1 rfl)) (fun y hy => hst y (by simp [hy]))))
theorem pi_bald (hq : px_MT[z]? = some q) (hd : decode q.2.1 pc = .ok (.baload, 1)) {v j : Int} (hkd : px_kd L v = 2 ∨ px_kd L v = 3) (h0 : 0 ≤ j) (h1 : j < px_ln L v) (h : px_WP z mc ms Q (pc + 1) ls ((0, M v j) :: st) L M k n) : px_WP z mc ms Q pc ls ((0, j) :: (2, v) :: st) L M k n := by
  intro q' p l e R s m args below meth cd QF base D H locs rls hq' X hk hn hR hS hL hst
  cases hq.symm.trans hq'
  rcases hkd with hkd | hkd
  · obtain ⟨a, cell, e1, e2, e3, e4, e5, e6, e7, e8, -⟩ := px_arr_at hR hkd (by decide) (px_ok0_r (hst (0, j) (by simp))) h0 h1
    rw [px_gf_lt (by omega)] at e7 e8
    show W p l e R s m args below meth cd H locs k n QF (F0 m pc rls (.int (Int32.ofInt j) :: px_v base (2, v) :: _))
    rw [px_v2 base (by omega), e2]
    exact W.bald X.1 X.2.1 e3 e4 (by rw [e5]; exact fun h => by cases h) e6 e7 rfl rfl hd (h q p l e R s m args below meth cd QF base D H locs rls hq X hk hn hR hS hL (px_oc (px_tag_stk (t := 3) (by decide) e8) (fun y hy => hst y (by simp [hy]))))
  · obtain ⟨a, cell, e1, e2, e3, e4, e5, e6, e7, e8, -⟩ := px_arr_at hR hkd (by decide) (px_ok0_r (hst (0, j) (by simp))) h0 h1
    rw [px_gf_lt (by omega)] at e7 e8
    show W p l e R s m args below meth cd H locs k n QF (F0 m pc rls (.int (Int32.ofInt j) :: px_v base (2, v) :: _))
    rw [px_v2 base (by omega), e2]
    exact W.zald X.1 X.2.1 e3 e4 (by rw [e5]; exact fun h => by cases h) e6 e7 rfl rfl hd (h q p l e R s m args below meth cd QF base D H locs rls hq X hk hn hR hS hL (px_oc (px_tag_stk (t := 4) (by decide) e8) (fun y hy => hst y (by simp [hy]))))
theorem pi_aald (hq : px_MT[z]? = some q) (hd : decode q.2.1 pc = .ok (.aaload, 1)) {v j : Int} (hkd : px_kd L v = 4 ∨ px_kd L v = 5) (h0 : 0 ≤ j) (h1 : j < px_ln L v) (h : px_WP z mc ms Q (pc + 1) ls ((2, px_gf L M v j) :: st) L M k n) : px_WP z mc ms Q pc ls ((0, j) :: (2, v) :: st) L M k n := by
  intro q' p l e R s m args below meth cd QF base D H locs rls hq' X hk hn hR hS hL hst
  cases hq.symm.trans hq'
  rcases hkd with hkd | hkd
  · obtain ⟨a, cell, e1, e2, e3, e4, e5, e6, e7, e8, -⟩ := px_arr_at hR hkd (by decide) (px_ok0_r (hst (0, j) (by simp))) h0 h1
    show W p l e R s m args below meth cd H locs k n QF (F0 m pc rls (.int (Int32.ofInt j) :: px_v base (2, v) :: _))
    rw [px_v2 base (by omega), e2]
    exact W.aald X.1 X.2.1 e3 e4 rfl (by rw [e5]; exact fun h => by cases h) e6 e7 rfl rfl hd (h q p l e R s m args below meth cd QF base D H locs rls hq X hk hn hR hS hL (px_oc (px_ok2 (e8.2.2.1 rfl)) (fun y hy => hst y (by simp [hy]))))
  · obtain ⟨a, cell, e1, e2, e3, e4, e5, e6, e7, e8, -⟩ := px_arr_at hR hkd (by decide) (px_ok0_r (hst (0, j) (by simp))) h0 h1
    show W p l e R s m args below meth cd H locs k n QF (F0 m pc rls (.int (Int32.ofInt j) :: px_v base (2, v) :: _))
    rw [px_v2 base (by omega), e2]
    exact W.aald X.1 X.2.1 e3 e4 rfl (by rw [e5]; exact fun h => by cases h) e6 e7 rfl rfl hd (h q p l e R s m args below meth cd QF base D H locs rls hq X hk hn hR hS hL (px_oc (px_ok2 (e8.2.2.1 rfl)) (fun y hy => hst y (by simp [hy]))))
theorem px_dy4 {L : px_lay} {v j : Int} (h : px_kd L v < 4) : px_dy L v j := Or.inl h
theorem pi_iast (hq : px_MT[z]? = some q) (hd : decode q.2.1 pc = .ok (.iastore, 1)) {v j x : Int} (hkd : px_kd L v = 0) (h0 : 0 ≤ j) (h1 : j < px_ln L v) (h : px_WP z mc ms Q (pc + 1) ls st L (px_up M v j x) k n) : px_WP z mc ms Q pc ls ((0, x) :: (0, j) :: (2, v) :: st) L M k n := by
  intro q' p l e R s m args below meth cd QF base D H locs rls hq' X hk hn hR hS hL hst
  cases hq.symm.trans hq'
  obtain ⟨a, cell, e1, e2, e3, e4, e5, e6, -, -, -, -, e9⟩ := px_arr_at hR hkd (by decide) (px_ok0_r (hst (0, j) (by simp))) h0 h1
  show W p l e R s m args below meth cd H locs k n QF (F0 m pc rls (.int (Int32.ofInt x) :: .int (Int32.ofInt j) :: px_v base (2, v) :: _))
  rw [px_v2 base (by omega), e2]
  refine W.iast X.1 X.2.1 e3 e4 (by rw [e5]; exact fun h => by cases h) e6 rfl rfl hd (fun H1 g1 g2 g3 => ?_)
  exact h q p l e R s m args below meth cd QF base D H1 _ rls hq X hk hn (e9 x H1 (hst (0, x) (by simp)).2 (px_dy4 (by omega)) g1 g2 g3) (px_S_put hS g2 g3) hL (fun y hy => hst y (by simp [hy]))
theorem pi_last (hq : px_MT[z]? = some q) (hd : decode q.2.1 pc = .ok (.lastore, 1)) {v j x : Int} (hkd : px_kd L v = 1) (h0 : 0 ≤ j) (h1 : j < px_ln L v) (h : px_WP z mc ms Q (pc + 1) ls st L (px_up M v j x) k n) : px_WP z mc ms Q pc ls ((1, x) :: (0, j) :: (2, v) :: st) L M k n := by
  intro q' p l e R s m args below meth cd QF base D H locs rls hq' X hk hn hR hS hL hst
  cases hq.symm.trans hq'
  obtain ⟨a, cell, e1, e2, e3, e4, e5, e6, -, -, -, -, e9⟩ := px_arr_at hR hkd (by decide) (px_ok0_r (hst (0, j) (by simp))) h0 h1
  show W p l e R s m args below meth cd H locs k n QF (F0 m pc rls (.long (Int64.ofInt x) :: .int (Int32.ofInt j) :: px_v base (2, v) :: _))
  rw [px_v2 base (by omega), e2]
  refine W.last X.1 X.2.1 e3 e4 (by rw [e5]; exact fun h => by cases h) e6 rfl rfl hd (fun H1 g1 g2 g3 => ?_)
  exact h q p l e R s m args below meth cd QF base D H1 _ rls hq X hk hn (e9 x H1 (hst (1, x) (by simp)).2 (px_dy4 (by omega)) g1 g2 g3) (px_S_put hS g2 g3) hL (fun y hy => hst y (by simp [hy]))
theorem px_narb {x : Int} (h : -128 ≤ x ∧ x < 128) : narrow .byte (.int (Int32.ofInt x)) = .int (Int32.ofInt x) := by
  show Value.int _ = _
  refine congrArg Value.int ?_
  rw [← Int32.toInt_inj, px_t32 ⟨by omega, by omega⟩]
  show (Int32.ofInt x).toInt8.toInt32.toInt = x
  rw [Int8.toInt_toInt32, Int32.toInt_toInt8, px_t32 ⟨by omega, by omega⟩]
  exact Int.bmod_eq_of_le (by omega) (by omega)
theorem pi_bast (hq : px_MT[z]? = some q) (hd : decode q.2.1 pc = .ok (.bastore, 1)) {v j x : Int} (hkd : (px_kd L v = 2 ∧ -128 ≤ x ∧ x < 128) ∨ (px_kd L v = 3 ∧ (x = 0 ∨ x = 1))) (h0 : 0 ≤ j) (h1 : j < px_ln L v) (h : px_WP z mc ms Q (pc + 1) ls st L (px_up M v j x) k n) : px_WP z mc ms Q pc ls ((0, x) :: (0, j) :: (2, v) :: st) L M k n := by
  intro q' p l e R s m args below meth cd QF base D H locs rls hq' X hk hn hR hS hL hst
  cases hq.symm.trans hq'
  rcases hkd with ⟨hkd, hx⟩ | ⟨hkd, hx⟩
  · obtain ⟨a, cell, e1, e2, e3, e4, e5, e6, -, -, -, -, e9⟩ := px_arr_at hR hkd (by decide) (px_ok0_r (hst (0, j) (by simp))) h0 h1
    show W p l e R s m args below meth cd H locs k n QF (F0 m pc rls (.int (Int32.ofInt x) :: .int (Int32.ofInt j) :: px_v base (2, v) :: _))
    rw [px_v2 base (by omega), e2]
    refine W.bast X.1 X.2.1 e3 e4 (by rw [e5]; exact fun h => by cases h) e6 rfl rfl hd (fun H1 g1 g2 g3 => ?_)
    rw [px_narb hx] at g1
    exact h q p l e R s m args below meth cd QF base D H1 _ rls hq X hk hn (e9 x H1 ⟨fun h => (by cases h), fun h => (by cases h), fun h => (by cases h), fun _ => hx, fun h => (by cases h)⟩ (px_dy4 (by omega)) g1 g2 g3) (px_S_put hS g2 g3) hL (fun y hy => hst y (by simp [hy]))
  · obtain ⟨a, cell, e1, e2, e3, e4, e5, e6, -, -, -, -, e9⟩ := px_arr_at hR hkd (by decide) (px_ok0_r (hst (0, j) (by simp))) h0 h1
    show W p l e R s m args below meth cd H locs k n QF (F0 m pc rls (.int (Int32.ofInt x) :: .int (Int32.ofInt j) :: px_v base (2, v) :: _))
    rw [px_v2 base (by omega), e2]
    refine W.zast X.1 X.2.1 e3 e4 (by rw [e5]; exact fun h => by cases h) e6 rfl rfl hd (fun H1 g1 g2 g3 => ?_)
    rw [show narrow .boolean (.int (Int32.ofInt x)) = .int (Int32.ofInt x) by rcases hx with rfl | rfl <;> rfl] at g1
    exact h q p l e R s m args below meth cd QF base D H1 _ rls hq X hk hn (e9 x H1 ⟨fun h => (by cases h), fun h => (by cases h), fun h => (by cases h), fun h => (by cases h), fun _ => hx⟩ (px_dy4 (by omega)) g1 g2 g3) (px_S_put hS g2 g3) hL (fun y hy => hst y (by simp [hy]))
theorem px_asg (vm : Vm) (c : ClassId) : vm.assignable c c = true := by
  show ((c == c) || _) = true
  rw [beq_self_eq_true, Bool.true_or]
theorem pi_aast (hq : px_MT[z]? = some q) (hd : decode q.2.1 pc = .ok (.aastore, 1)) {v j x : Int} (hkd : (px_kd L v = 4 ∧ px_kd L x = 0) ∨ (px_kd L v = 5 ∧ px_kd L x = 12)) (hdy : px_dy L v j) (h0 : 0 ≤ j) (h1 : j < px_ln L v) (h : px_WP z mc ms Q (pc + 1) ls st L (px_up M v j x) k n) : px_WP z mc ms Q pc ls ((2, x) :: (0, j) :: (2, v) :: st) L M k n := by
  intro q' p l e R s m args below meth cd QF base D H locs rls hq' X hk hn hR hS hL hst
  cases hq.symm.trans hq'
  have hxo := (hst (2, x) (by simp)).2
  rcases hkd with ⟨hkd, hx⟩ | ⟨hkd, hx⟩
  · obtain ⟨a, cell, e1, e2, e3, e4, e5, e6, -, -, ⟨-, -, e8⟩, e10, e9⟩ := px_arr_at hR hkd (by decide) (px_ok0_r (hst (0, j) (by simp))) h0 h1
    obtain ⟨kA, kC, comp, a1, a2, a3, a4⟩ := e8 (by decide)
    obtain ⟨b, cB, f1, f2, f3, f4, f5, -⟩ := px_cell_arr hR hx (by decide)
    have hcb : cB = comp := Option.some.inj ((f5.2.1 rfl).symm.trans a3)
    subst hcb
    show W p l e R s m args below meth cd H locs k n QF (F0 m pc rls (px_v base (2, x) :: .int (Int32.ofInt j) :: px_v base (2, v) :: _))
    rw [px_v2 base (show 0 < x by omega), f2, px_v2 base (show 0 < v by omega), e2]
    refine W.aast X.1 X.2.1 e3 (fun q h => by rw [e5] at h; cases h) (fun h => by rw [e5] at h; cases h) a1 a2 rfl a4 ⟨fun h => e6 (Or.inl h), Nat.not_le.mp fun h => e6 (Or.inr h)⟩ f4 (fun q h => by cases h) a4 (px_asg _ _) rfl rfl hd (fun H1 g1 g2 g3 => ?_)
    refine h q p l e R s m args below meth cd QF base D H1 _ rls hq X hk hn (e9 x H1 hxo hdy ?_ g2 g3) (px_S_put hS g2 g3) hL (fun y hy => hst y (by simp [hy]))
    rw [g1]
    show _ = some (cell.setSlot _ (px_v base (2, x)))
    rw [px_v2 base (show 0 < x by omega), f2]
  · obtain ⟨a, cell, e1, e2, e3, e4, e5, e6, -, -, ⟨-, -, e8⟩, e10, e9⟩ := px_arr_at hR hkd (by decide) (px_ok0_r (hst (0, j) (by simp))) h0 h1
    obtain ⟨kA, kC, comp, a1, a2, a3, a4⟩ := e8 (by decide)
    obtain ⟨b, f1, f2, f3, ⟨r, f4, f5⟩, ⟨cv, f6, f7, f8, -⟩, -⟩ := px_cell_obj hR (c := 2) hx (by decide)
    cases f4
    have hcA := (X.2.2.2.2.2.1.1 2 _ rfl).2
    have hcb : comp = D.1 2 := Option.some.inj (a3.symm.trans hcA.1)
    subst hcb
    show W p l e R s m args below meth cd H locs k n QF (F0 m pc rls (px_v base (2, x) :: .int (Int32.ofInt j) :: px_v base (2, v) :: _))
    rw [px_v2 base (show 0 < x by omega), f2, px_v2 base (show 0 < v by omega), e2]
    refine W.aast X.1 X.2.1 e3 (fun q h => by rw [e5] at h; cases h) (fun h => by rw [e5] at h; cases h) a1 a2 rfl a4 ⟨fun h => e6 (Or.inl h), Nat.not_le.mp fun h => e6 (Or.inr h)⟩ f6 (fun q h => by rw [f8] at h; cases h) (by rw [f7]; exact a4) (by rw [f7]; exact px_asg _ _) rfl rfl hd (fun H1 g1 g2 g3 => ?_)
    refine h q p l e R s m args below meth cd QF base D H1 _ rls hq X hk hn (e9 x H1 hxo hdy ?_ g2 g3) (px_S_put hS g2 g3) hL (fun y hy => hst y (by simp [hy]))
    rw [g1]
    show _ = some (cell.setSlot _ (px_v base (2, x)))
    rw [px_v2 base (show 0 < x by omega), f2]
theorem pi_alen (hq : px_MT[z]? = some q) (hd : decode q.2.1 pc = .ok (.arraylength, 1)) {v : Int} (hkd : px_kd L v < 10) (hln : px_in32 (px_ln L v)) (h : px_WP z mc ms Q (pc + 1) ls ((0, px_ln L v) :: st) L M k n) : px_WP z mc ms Q pc ls ((2, v) :: st) L M k n := by
  intro q' p l e R s m args below meth cd QF base D H locs rls hq' X hk hn hR hS hL hst
  cases hq.symm.trans hq'
  obtain ⟨a, cA, e1, e2, e3, e4, e5, e6⟩ := px_cell_arr hR rfl hkd
  show W p l e R s m args below meth cd H locs k n QF (F0 m pc rls (px_v base (2, v) :: _))
  rw [px_v2 base (by omega), e2]
  refine W.alen (n := Int32.ofInt (px_ln L v)) X.1 X.2.1 e4 (e5.1 _ _) (by rw [arrV_size]; rfl) rfl rfl hd (h q p l e R s m args below meth cd QF base D H locs rls hq X hk hn hR hS hL (px_oc (px_ok0 hln) (fun y hy => hst y (by simp [hy]))))
end PA
