/-! rows of the pure machine: instructions that touch the stack, the locals and the place alone -/
def px_iand (a b : Int) : Int := (Int32.ofInt a &&& Int32.ofInt b).toInt
def px_ior (a b : Int) : Int := (Int32.ofInt a ||| Int32.ofInt b).toInt
def px_ixor (a b : Int) : Int := (Int32.ofInt a ^^^ Int32.ofInt b).toInt
def px_ishl (a b : Int) : Int := (Int32.ofInt a <<< (Int32.ofInt b &&& 31)).toInt
def px_ishr (a b : Int) : Int := (Int32.ofInt a >>> (Int32.ofInt b &&& 31)).toInt
def px_iushr (a b : Int) : Int := ((Int32.ofInt a).toUInt32 >>> ((Int32.ofInt b).toUInt32 &&& Int32.toUInt32 31)).toInt32.toInt
def px_land (a b : Int) : Int := (Int64.ofInt a &&& Int64.ofInt b).toInt
def px_lor (a b : Int) : Int := (Int64.ofInt a ||| Int64.ofInt b).toInt
def px_lshl (a b : Int) : Int := (Int64.ofInt a <<< ((Int32.ofInt b).toInt64 &&& 63)).toInt
def px_lushr (a b : Int) : Int := ((Int64.ofInt a).toUInt64 >>> ((Int32.ofInt b).toInt64.toUInt64 &&& Int64.toUInt64 63)).toInt64.toInt
def px_l2i (a : Int) : Int := (Int64.ofInt a).toInt32.toInt
def px_i2b (a : Int) : Int := (Int32.ofInt a).toInt8.toInt32.toInt
def px_lcmp (a b : Int) : Int := if b < a then 1 else if a = b then 0 else -1
theorem px_r32 (x : Int32) : px_in32 x.toInt := ⟨by have := x.le_toInt; omega, by have := x.toInt_lt; omega⟩
theorem px_r64 (x : Int64) : px_in64 x.toInt := ⟨by have := x.le_toInt; omega, by have := x.toInt_lt; omega⟩
theorem px_t32 {v : Int} (h : px_in32 v) : (Int32.ofInt v).toInt = v := Int32.toInt_ofInt_of_le (by have := h.1; omega) (by have := h.2; omega)
theorem px_t64 {v : Int} (h : px_in64 v) : (Int64.ofInt v).toInt = v := Int64.toInt_ofInt_of_le (by have := h.1; omega) (by have := h.2; omega)
theorem px_ok0 {v : Int} (h : px_in32 v) : px_okp (0, v) := by simp [px_okp, px_okv, h]
theorem px_ok1 {v : Int} (h : px_in64 v) : px_okp (1, v) := by simp [px_okp, px_okv, h]
theorem px_ok2 {v : Int} (h : 0 ≤ v) : px_okp (2, v) := by simp [px_okp, px_okv, h]
theorem px_ok0_r {v : Int} (h : px_okp (0, v)) : px_in32 v := h.2.1 rfl
theorem px_ok1_r {v : Int} (h : px_okp (1, v)) : px_in64 v := h.2.2.1 rfl
theorem px_ok2_r {v : Int} (h : px_okp (2, v)) : 0 ≤ v := h.2.2.2.1 rfl
theorem px_oc {x : pv} {st : List pv} (h : px_okp x) (hs : ∀ y ∈ st, px_okp y) : ∀ y ∈ x :: st, px_okp y := List.forall_mem_cons.mpr ⟨h, hs⟩
section PI
variable {z mc ms : Nat} {Q : Option pv → px_lay → px_mem → Nat → Nat → Prop} {pc : Nat} {ls st : List pv} {L : px_lay} {M : px_mem} {k n : Nat} {q : px_M}
def px_to (q : px_M) (pc pc' : Nat) (st st' : List pv) : Prop := ∀ {p : Program} {l : Launch} {e : Env} {R : Room} {s : State} {m : MethodId} {args : Array Value} {below : List Frame} {meth : Method} {c : Code} {H : Heap} {locs : List Loc} {cells slots : Nat} {QF : State → Prop} {base : Nat} {rls : Array Slot},
  p.tables.exec = Jvm.exec → c.code = q.2.1 → s.vm.findClass q.1.cls = some m.cls → (∀ w ∈ px_tb, w.before args s = true) → (∀ x ∈ st, px_okp x) → W p l e R s m args below meth c H locs cells slots QF (F0 m pc' rls (st'.map (px_v base))) → W p l e R s m args below meth c H locs cells slots QF (F0 m pc rls (st.map (px_v base)))
theorem px_lift {pc' : Nat} {st' : List pv} (hq : px_MT[z]? = some q) (ht : px_to q pc pc' st st') (hok : (∀ x ∈ st, px_okp x) → ∀ x ∈ st', px_okp x) (h : px_WP z mc ms Q pc' ls st' L M k n) : px_WP z mc ms Q pc ls st L M k n := by
  intro q' p l e R s m args below meth c QF base D H locs rls hq' C hk hn hR hS hL hst
  cases hq.symm.trans hq'
  exact ht C.1 C.2.1 C.2.2.2.1 C.2.2.2.2.1 hst (h q p l e R s m args below meth c QF base D H locs rls hq C hk hn hR hS hL (hok hst))
theorem px_Wv {p : Program} {l : Launch} {e : Env} {R : Room} {s : State} {m : MethodId} {args : Array Value} {below : List Frame} {meth : Method} {c : Code} {H : Heap} {locs : List Loc} {cells slots : Nat} {QF : State → Prop} {rls : Array Slot} {a b : Value} {rest : List Value} (h : W p l e R s m args below meth c H locs cells slots QF (F0 m pc rls (a :: rest))) (ee : a = b) : W p l e R s m args below meth c H locs cells slots QF (F0 m pc rls (b :: rest)) := ee ▸ h
theorem pi_iconst (hq : px_MT[z]? = some q) {v : Int} (hd : decode q.2.1 pc = .ok (.iconst v, 1)) (hr : px_rchk q pc (.iconst v) [] = true) (h : px_WP z mc ms Q (pc + 1) ls ((0, v) :: st) L M k n) : px_WP z mc ms Q pc ls st L M k n := by
  have hv : -128 ≤ v ∧ v < 128 := of_decide_eq_true hr
  exact px_lift hq (fun hx hb _ _ _ k => lv_iconst hx hb hd rfl k) (fun hs => px_oc (px_ok0 ⟨by omega, by omega⟩) hs) h
theorem px_i8 {v : Int} (hv : -128 ≤ v ∧ v < 128) : (Int8.ofInt v).toInt32 = Int32.ofInt v := by
  rw [← Int32.toInt_inj, Int8.toInt_toInt32, Int8.toInt_ofInt_of_le (by omega) (by omega), px_t32 ⟨by omega, by omega⟩]
theorem px_i16 {v : Int} (hv : -32768 ≤ v ∧ v < 32768) : (Int16.ofInt v).toInt32 = Int32.ofInt v := by
  rw [← Int32.toInt_inj, Int16.toInt_toInt32, Int16.toInt_ofInt_of_le (by omega) (by omega), px_t32 ⟨by omega, by omega⟩]
theorem pi_bipush (hq : px_MT[z]? = some q) {v : Int} (hd : decode q.2.1 pc = .ok (.bipush v, 2)) (hr : px_rchk q pc (.bipush v) [] = true) (h : px_WP z mc ms Q (pc + 2) ls ((0, v) :: st) L M k n) : px_WP z mc ms Q pc ls st L M k n := by
  have hv : -128 ≤ v ∧ v < 128 := of_decide_eq_true hr
  exact px_lift hq (fun hx hb _ _ _ k => lv_bipush hx hb hd (px_i8 hv) k) (fun hs => px_oc (px_ok0 ⟨by omega, by omega⟩) hs) h
theorem pi_sipush (hq : px_MT[z]? = some q) {v : Int} (hd : decode q.2.1 pc = .ok (.sipush v, 3)) (hr : px_rchk q pc (.sipush v) [] = true) (h : px_WP z mc ms Q (pc + 3) ls ((0, v) :: st) L M k n) : px_WP z mc ms Q pc ls st L M k n := by
  have hv : -32768 ≤ v ∧ v < 32768 := of_decide_eq_true hr
  exact px_lift hq (fun hx hb _ _ _ k => lv_sipush hx hb hd (px_i16 hv) k) (fun hs => px_oc (px_ok0 ⟨by omega, by omega⟩) hs) h
theorem pi_lconst (hq : px_MT[z]? = some q) {v : Fin 2} (hd : decode q.2.1 pc = .ok (.lconst v, 1)) (h : px_WP z mc ms Q (pc + 1) ls ((1, ((v : Nat) : Int)) :: st) L M k n) : px_WP z mc ms Q pc ls st L M k n := by
  have hv : (v : Nat) < 2 := v.2
  refine px_lift hq (fun hx hb _ _ _ k => lv_lconst hx hb hd (v := Int64.ofInt (v : Nat)) ?_ k) (fun hs => px_oc (px_ok1 ⟨by omega, by omega⟩) hs) h
  rfl
theorem pi_null (hq : px_MT[z]? = some q) (hd : decode q.2.1 pc = .ok (.aconst_null, 1)) (h : px_WP z mc ms Q (pc + 1) ls ((2, 0) :: st) L M k n) : px_WP z mc ms Q pc ls st L M k n :=
  px_lift hq (fun hx hb _ _ _ k => lv_null hx hb hd k) (fun hs => px_oc (px_ok2 (by decide)) hs) h
theorem pi_iadd (hq : px_MT[z]? = some q) (hd : decode q.2.1 pc = .ok (.iadd, 1)) {a b : Int} (ob : px_in32 (a + b)) (h : px_WP z mc ms Q (pc + 1) ls ((0, a + b) :: st) L M k n) : px_WP z mc ms Q pc ls ((0, b) :: (0, a) :: st) L M k n :=
  px_lift hq (fun hx hb _ _ _ k => by
    refine lv_iadd hx hb hd ?_
    refine px_Wv k ?_
    rw [px_v0, Int32.ofInt_add]) (fun hs => px_oc (px_ok0 ob) (fun y hy => hs y (by simp [hy]))) h
theorem pi_isub (hq : px_MT[z]? = some q) (hd : decode q.2.1 pc = .ok (.isub, 1)) {a b : Int} (ob : px_in32 (a - b)) (h : px_WP z mc ms Q (pc + 1) ls ((0, a - b) :: st) L M k n) : px_WP z mc ms Q pc ls ((0, b) :: (0, a) :: st) L M k n :=
  px_lift hq (fun hx hb _ _ _ k => by
    refine lv_isub hx hb hd ?_
    refine px_Wv k ?_
    rw [px_v0, Int32.ofInt_sub]) (fun hs => px_oc (px_ok0 ob) (fun y hy => hs y (by simp [hy]))) h
theorem pi_imul (hq : px_MT[z]? = some q) (hd : decode q.2.1 pc = .ok (.imul, 1)) {a b : Int} (ob : px_in32 (a * b)) (h : px_WP z mc ms Q (pc + 1) ls ((0, a * b) :: st) L M k n) : px_WP z mc ms Q pc ls ((0, b) :: (0, a) :: st) L M k n :=
  px_lift hq (fun hx hb _ _ _ k => by
    refine lv_imul hx hb hd ?_
    refine px_Wv k ?_
    rw [px_v0, Int32.ofInt_mul]) (fun hs => px_oc (px_ok0 ob) (fun y hy => hs y (by simp [hy]))) h
theorem px_div32 {a b : Int} (ha : px_in32 a) (hb : px_in32 b) (h0 : 0 ≤ a) (h1 : 0 < b) : Int32.ofInt a / Int32.ofInt b = Int32.ofInt (a / b) := by
  have h2 : a / b ≤ a := Int.ediv_le_self b h0
  have h3 : 0 ≤ a / b := Int.ediv_nonneg h0 (Int.le_of_lt h1)
  have h4 := ha.2
  rw [← Int32.toInt_inj, Int32.toInt_div, px_t32 ha, px_t32 hb, px_t32 ⟨by omega, by omega⟩, Int.tdiv_eq_ediv_of_nonneg h0]
  rw [Int.bmod_eq_of_le (by omega) (by omega)]
theorem px_ne32 {b : Int} (hb : px_in32 b) (h1 : 0 < b) : ¬ Int32.ofInt b = 0 := by
  rw [← Int32.toInt_inj, px_t32 hb]
  show ¬ b = 0
  omega
theorem pi_idiv (hq : px_MT[z]? = some q) (hd : decode q.2.1 pc = .ok (.idiv, 1)) {a b : Int} (h0 : 0 ≤ a) (h1 : 0 < b) (h : px_WP z mc ms Q (pc + 1) ls ((0, a / b) :: st) L M k n) : px_WP z mc ms Q pc ls ((0, b) :: (0, a) :: st) L M k n := by
  refine px_lift hq (fun hx hb _ _ hs k => ?_) (fun hs => px_oc (px_ok0 ?_) (fun y hy => hs y (by simp [hy]))) h
  · have h2 := px_ok0_r (hs (0, b) (by simp))
    have h3 := px_ok0_r (hs (0, a) (by simp))
    refine lv_idiv hx hb hd (px_ne32 h2 h1) ?_
    refine px_Wv k ?_
    rw [px_v0, px_div32 h3 h2 h0 h1]
  · have h3 := px_ok0_r (hs (0, a) (by simp))
    have h2 : a / b ≤ a := Int.ediv_le_self b h0
    have h4 : 0 ≤ a / b := Int.ediv_nonneg h0 (Int.le_of_lt h1)
    exact ⟨by omega, by have := h3.2; omega⟩
theorem pi_irem (hq : px_MT[z]? = some q) (hd : decode q.2.1 pc = .ok (.irem, 1)) {a b : Int} (h0 : 0 ≤ a) (h1 : 0 < b) (h : px_WP z mc ms Q (pc + 1) ls ((0, a % b) :: st) L M k n) : px_WP z mc ms Q pc ls ((0, b) :: (0, a) :: st) L M k n := by
  refine px_lift hq (fun hx hb _ _ hs k => ?_) (fun hs => px_oc (px_ok0 ?_) (fun y hy => hs y (by simp [hy]))) h
  · have h2 := px_ok0_r (hs (0, b) (by simp))
    have h3 := px_ok0_r (hs (0, a) (by simp))
    refine lv_irem hx hb hd (px_ne32 h2 h1) ?_
    refine px_Wv k ?_
    rw [px_v0, px_div32 h3 h2 h0 h1, ← Int32.ofInt_mul, ← Int32.ofInt_sub]
    rw [Int.emod_def, Int.mul_comm]
  · have h2 := px_ok0_r (hs (0, b) (by simp))
    have h4 : 0 ≤ a % b := Int.emod_nonneg a (by omega)
    have h5 : a % b < b := Int.emod_lt_of_pos a h1
    exact ⟨by omega, by have := h2.2; omega⟩
theorem pi_iand (hq : px_MT[z]? = some q) (hd : decode q.2.1 pc = .ok (.iand, 1)) {a b : Int} (h : px_WP z mc ms Q (pc + 1) ls ((0, px_iand a b) :: st) L M k n) : px_WP z mc ms Q pc ls ((0, b) :: (0, a) :: st) L M k n :=
  px_lift hq (fun hx hb _ _ _ k => by
    refine lv_iand hx hb hd ?_
    exact px_Wv k (congrArg Value.int (Int32.ofInt_toInt _))) (fun hs => px_oc (px_ok0 (px_r32 _)) (fun y hy => hs y (by simp [hy]))) h
theorem pi_ior (hq : px_MT[z]? = some q) (hd : decode q.2.1 pc = .ok (.ior, 1)) {a b : Int} (h : px_WP z mc ms Q (pc + 1) ls ((0, px_ior a b) :: st) L M k n) : px_WP z mc ms Q pc ls ((0, b) :: (0, a) :: st) L M k n :=
  px_lift hq (fun hx hb _ _ _ k => by
    refine lv_ior hx hb hd ?_
    exact px_Wv k (congrArg Value.int (Int32.ofInt_toInt _))) (fun hs => px_oc (px_ok0 (px_r32 _)) (fun y hy => hs y (by simp [hy]))) h
theorem pi_ixor (hq : px_MT[z]? = some q) (hd : decode q.2.1 pc = .ok (.ixor, 1)) {a b : Int} (h : px_WP z mc ms Q (pc + 1) ls ((0, px_ixor a b) :: st) L M k n) : px_WP z mc ms Q pc ls ((0, b) :: (0, a) :: st) L M k n :=
  px_lift hq (fun hx hb _ _ _ k => by
    refine lv_ixor hx hb hd ?_
    exact px_Wv k (congrArg Value.int (Int32.ofInt_toInt _))) (fun hs => px_oc (px_ok0 (px_r32 _)) (fun y hy => hs y (by simp [hy]))) h
theorem pi_ishl (hq : px_MT[z]? = some q) (hd : decode q.2.1 pc = .ok (.ishl, 1)) {a b : Int} (h : px_WP z mc ms Q (pc + 1) ls ((0, px_ishl a b) :: st) L M k n) : px_WP z mc ms Q pc ls ((0, b) :: (0, a) :: st) L M k n :=
  px_lift hq (fun hx hb _ _ _ k => by
    refine lv_ishl hx hb hd ?_
    exact px_Wv k (congrArg Value.int (Int32.ofInt_toInt _))) (fun hs => px_oc (px_ok0 (px_r32 _)) (fun y hy => hs y (by simp [hy]))) h
theorem pi_ishr (hq : px_MT[z]? = some q) (hd : decode q.2.1 pc = .ok (.ishr, 1)) {a b : Int} (h : px_WP z mc ms Q (pc + 1) ls ((0, px_ishr a b) :: st) L M k n) : px_WP z mc ms Q pc ls ((0, b) :: (0, a) :: st) L M k n :=
  px_lift hq (fun hx hb _ _ _ k => by
    refine lv_ishr hx hb hd ?_
    exact px_Wv k (congrArg Value.int (Int32.ofInt_toInt _))) (fun hs => px_oc (px_ok0 (px_r32 _)) (fun y hy => hs y (by simp [hy]))) h
theorem pi_iushr (hq : px_MT[z]? = some q) (hd : decode q.2.1 pc = .ok (.iushr, 1)) {a b : Int} (h : px_WP z mc ms Q (pc + 1) ls ((0, px_iushr a b) :: st) L M k n) : px_WP z mc ms Q pc ls ((0, b) :: (0, a) :: st) L M k n :=
  px_lift hq (fun hx hb _ _ _ k => by
    refine lv_iushr hx hb hd rfl ?_
    exact px_Wv k (congrArg Value.int (Int32.ofInt_toInt _))) (fun hs => px_oc (px_ok0 (px_r32 _)) (fun y hy => hs y (by simp [hy]))) h
theorem pi_land (hq : px_MT[z]? = some q) (hd : decode q.2.1 pc = .ok (.land, 1)) {a b : Int} (h : px_WP z mc ms Q (pc + 1) ls ((1, px_land a b) :: st) L M k n) : px_WP z mc ms Q pc ls ((1, b) :: (1, a) :: st) L M k n :=
  px_lift hq (fun hx hb _ _ _ k => by
    refine lv_land hx hb hd ?_
    exact px_Wv k (congrArg Value.long (Int64.ofInt_toInt _))) (fun hs => px_oc (px_ok1 (px_r64 _)) (fun y hy => hs y (by simp [hy]))) h
theorem pi_lor (hq : px_MT[z]? = some q) (hd : decode q.2.1 pc = .ok (.lor, 1)) {a b : Int} (h : px_WP z mc ms Q (pc + 1) ls ((1, px_lor a b) :: st) L M k n) : px_WP z mc ms Q pc ls ((1, b) :: (1, a) :: st) L M k n :=
  px_lift hq (fun hx hb _ _ _ k => by
    refine lv_lor hx hb hd ?_
    exact px_Wv k (congrArg Value.long (Int64.ofInt_toInt _))) (fun hs => px_oc (px_ok1 (px_r64 _)) (fun y hy => hs y (by simp [hy]))) h
theorem pi_lshl (hq : px_MT[z]? = some q) (hd : decode q.2.1 pc = .ok (.lshl, 1)) {a b : Int} (h : px_WP z mc ms Q (pc + 1) ls ((1, px_lshl a b) :: st) L M k n) : px_WP z mc ms Q pc ls ((0, b) :: (1, a) :: st) L M k n :=
  px_lift hq (fun hx hb _ _ _ k => by
    refine lv_lshl hx hb hd rfl ?_
    exact px_Wv k (congrArg Value.long (Int64.ofInt_toInt _))) (fun hs => px_oc (px_ok1 (px_r64 _)) (fun y hy => hs y (by simp [hy]))) h
theorem pi_lushr (hq : px_MT[z]? = some q) (hd : decode q.2.1 pc = .ok (.lushr, 1)) {a b : Int} (h : px_WP z mc ms Q (pc + 1) ls ((1, px_lushr a b) :: st) L M k n) : px_WP z mc ms Q pc ls ((0, b) :: (1, a) :: st) L M k n :=
  px_lift hq (fun hx hb _ _ _ k => by
    refine lv_lushr hx hb hd rfl ?_
    exact px_Wv k (congrArg Value.long (Int64.ofInt_toInt _))) (fun hs => px_oc (px_ok1 (px_r64 _)) (fun y hy => hs y (by simp [hy]))) h
theorem pi_l2i (hq : px_MT[z]? = some q) (hd : decode q.2.1 pc = .ok (.l2i, 1)) {a : Int} (h : px_WP z mc ms Q (pc + 1) ls ((0, px_l2i a) :: st) L M k n) : px_WP z mc ms Q pc ls ((1, a) :: st) L M k n :=
  px_lift hq (fun hx hb _ _ _ k => by
    refine lv_l2i hx hb hd rfl ?_
    exact px_Wv k (congrArg Value.int (Int32.ofInt_toInt _))) (fun hs => px_oc (px_ok0 (px_r32 _)) (fun y hy => hs y (by simp [hy]))) h
theorem pi_i2b (hq : px_MT[z]? = some q) (hd : decode q.2.1 pc = .ok (.i2b, 1)) {a : Int} (h : px_WP z mc ms Q (pc + 1) ls ((0, px_i2b a) :: st) L M k n) : px_WP z mc ms Q pc ls ((0, a) :: st) L M k n :=
  px_lift hq (fun hx hb _ _ _ k => by
    refine lv_i2b hx hb hd rfl ?_
    exact px_Wv k (congrArg Value.int (Int32.ofInt_toInt _))) (fun hs => px_oc (px_ok0 (px_r32 _)) (fun y hy => hs y (by simp [hy]))) h
theorem px_i2l {a : Int} (h : px_in32 a) : (Int32.ofInt a).toInt64 = Int64.ofInt a := by
  rw [← Int64.toInt_inj, Int32.toInt_toInt64, px_t32 h, px_t64 ⟨by have := h.1; omega, by have := h.2; omega⟩]
theorem pi_i2l (hq : px_MT[z]? = some q) (hd : decode q.2.1 pc = .ok (.i2l, 1)) {a : Int} (h : px_WP z mc ms Q (pc + 1) ls ((1, a) :: st) L M k n) : px_WP z mc ms Q pc ls ((0, a) :: st) L M k n := by
  refine px_lift hq (fun hx hb _ _ hs k => ?_) (fun hs => px_oc (px_ok1 ?_) (fun y hy => hs y (by simp [hy]))) h
  · exact lv_i2l hx hb hd (px_i2l (px_ok0_r (hs (0, a) (by simp)))) k
  · have h := px_ok0_r (hs (0, a) (by simp))
    exact ⟨by have := h.1; omega, by have := h.2; omega⟩
theorem pi_lcmp (hq : px_MT[z]? = some q) (hd : decode q.2.1 pc = .ok (.lcmp, 1)) {a b : Int} (h : px_WP z mc ms Q (pc + 1) ls ((0, px_lcmp a b) :: st) L M k n) : px_WP z mc ms Q pc ls ((1, b) :: (1, a) :: st) L M k n := by
  refine px_lift hq (fun hx hb _ _ hs k => ?_) (fun hs => px_oc (px_ok0 ?_) (fun y hy => hs y (by simp [hy]))) h
  · have h1 := px_ok1_r (hs (1, b) (by simp))
    have h2 := px_ok1_r (hs (1, a) (by simp))
    refine W.lcmp hx hb hd ?_
    refine px_Wv k ?_
    rw [px_v0, px_lcmp, lg_cmp]
    simp only [gt_iff_lt, Int64.lt_iff_toInt_lt, ← Int64.toInt_inj, px_t64 h1, px_t64 h2]
    split
    · rfl
    · split <;> rfl
  · unfold px_lcmp
    split
    · exact ⟨by decide, by decide⟩
    · split <;> exact ⟨by decide, by decide⟩
theorem pi_dup (hq : px_MT[z]? = some q) (hd : decode q.2.1 pc = .ok (.dup, 1)) {t : Nat} {a : Int} (ht : t ≠ 1) (h : px_WP z mc ms Q (pc + 1) ls ((t, a) :: (t, a) :: st) L M k n) : px_WP z mc ms Q pc ls ((t, a) :: st) L M k n := by
  refine px_lift hq (fun hx hb _ _ _ k => lv_dup hx hb hd ?_ k) (fun hs => px_oc (hs (t, a) (by simp)) hs) h
  unfold px_v
  rw [if_neg ht]
  split
  · split <;> rfl
  · rfl
theorem px_cat1 {base t : Nat} {a : Int} (ht : t ≠ 1) : (px_v base (t, a)).category = 1 := by
  unfold px_v
  rw [if_neg ht]
  split
  · split <;> rfl
  · rfl
theorem pi_dup2 (hq : px_MT[z]? = some q) (hd : decode q.2.1 pc = .ok (.dup2, 1)) {t u : Nat} {a b : Int} (ht : t ≠ 1) (hu : u ≠ 1) (h : px_WP z mc ms Q (pc + 1) ls ((t, a) :: (u, b) :: (t, a) :: (u, b) :: st) L M k n) : px_WP z mc ms Q pc ls ((t, a) :: (u, b) :: st) L M k n :=
  px_lift hq (fun hx hb _ _ _ k => lv_dup2_11 hx hb hd (px_cat1 ht) (px_cat1 hu) k) (fun hs => px_oc (hs (t, a) (by simp)) (px_oc (hs (u, b) (by simp)) hs)) h
theorem pi_pop (hq : px_MT[z]? = some q) (hd : decode q.2.1 pc = .ok (.pop, 1)) {t : Nat} {a : Int} (ht : t ≠ 1) (h : px_WP z mc ms Q (pc + 1) ls st L M k n) : px_WP z mc ms Q pc ls ((t, a) :: st) L M k n :=
  px_lift hq (fun hx hb _ _ _ k => lv_pop hx hb hd (px_cat1 ht) k) (fun hs y hy => hs y (by simp [hy])) h
theorem px_tgt_eq {pc t : Nat} {off : Int} (h : px_tgt pc off t = true) : (pc : Int) + off = (t : Int) := of_decide_eq_true h
theorem pi_goto (hq : px_MT[z]? = some q) {off : Int} {t : Nat} (hd : decode q.2.1 pc = .ok (.goto off, 3)) (ht : px_tgt pc off t = true) (h : px_WP z mc ms Q t ls st L M k n) : px_WP z mc ms Q pc ls st L M k n :=
  px_lift hq (fun hx hb _ _ _ k => lv_goto hx hb hd (px_tgt_eq ht) k) (fun hs => hs) h
/-- two ways on -/
theorem px_lift2 {pc1 pc2 : Nat} {st' : List pv} {φ ψ : Prop} (hq : px_MT[z]? = some q) (ht : ∀ {p : Program} {l : Launch} {e : Env} {R : Room} {s : State} {m : MethodId} {args : Array Value} {below : List Frame} {meth : Method} {c : Code} {H : Heap} {locs : List Loc} {cells slots : Nat} {QF : State → Prop} {base : Nat} {rls : Array Slot},
      p.tables.exec = Jvm.exec → c.code = q.2.1 → (∀ x ∈ st, px_okp x) → (φ → W p l e R s m args below meth c H locs cells slots QF (F0 m pc1 rls (st'.map (px_v base)))) → (ψ → W p l e R s m args below meth c H locs cells slots QF (F0 m pc2 rls (st'.map (px_v base)))) → W p l e R s m args below meth c H locs cells slots QF (F0 m pc rls (st.map (px_v base))))
    (hok : (∀ x ∈ st, px_okp x) → ∀ x ∈ st', px_okp x) (h1 : φ → px_WP z mc ms Q pc1 ls st' L M k n) (h2 : ψ → px_WP z mc ms Q pc2 ls st' L M k n) : px_WP z mc ms Q pc ls st L M k n := by
  intro q' p l e R s m args below meth c QF base D H locs rls hq' C hk hn hR hS hL hst
  cases hq.symm.trans hq'
  exact ht C.1 C.2.1 hst (fun a => h1 a q p l e R s m args below meth c QF base D H locs rls hq C hk hn hR hS hL (hok hst)) (fun a => h2 a q p l e R s m args below meth c QF base D H locs rls hq C hk hn hR hS hL (hok hst))
theorem px_lt32 {a b : Int} (ha : px_in32 a) (hb : px_in32 b) : Int32.ofInt a < Int32.ofInt b ↔ a < b := by rw [Int32.lt_iff_toInt_lt, px_t32 ha, px_t32 hb]
theorem px_le32 {a b : Int} (ha : px_in32 a) (hb : px_in32 b) : Int32.ofInt a ≤ Int32.ofInt b ↔ a ≤ b := by rw [Int32.le_iff_toInt_le, px_t32 ha, px_t32 hb]
theorem px_eq32 {a b : Int} (ha : px_in32 a) (hb : px_in32 b) : Int32.ofInt a = Int32.ofInt b ↔ a = b := by rw [← Int32.toInt_inj, px_t32 ha, px_t32 hb]
theorem px_z32 : px_in32 0 := ⟨by decide, by decide⟩
theorem pi_icmp_eq (hq : px_MT[z]? = some q) {off : Int} {t : Nat} (hd : decode q.2.1 pc = .ok (.if_icmp .eq off, 3)) (ht : px_tgt pc off t = true) {a b : Int} (h1 : a = b → px_WP z mc ms Q t ls st L M k n) (h2 : ¬ (a = b) → px_WP z mc ms Q (pc + 3) ls st L M k n) : px_WP z mc ms Q pc ls ((0, b) :: (0, a) :: st) L M k n := by
  refine px_lift2 hq (fun hx hb hs k1 k2 => ?_) (fun hs y hy => hs y (by simp [hy])) h1 h2
  have hb2 := px_ok0_r (hs (0, b) (by simp))
  have ha2 := px_ok0_r (hs (0, a) (by simp))
  exact lv_icmp_eq hx hb hd (px_tgt_eq ht) (fun c1 => k1 ((px_eq32 ha2 hb2).mp c1)) (fun c1 => k2 (fun e => c1 ((px_eq32 ha2 hb2).mpr e)))
theorem pi_if_eq (hq : px_MT[z]? = some q) {off : Int} {t : Nat} (hd : decode q.2.1 pc = .ok (.ifCond .eq off, 3)) (ht : px_tgt pc off t = true) {a : Int} (h1 : a = 0 → px_WP z mc ms Q t ls st L M k n) (h2 : ¬ (a = 0) → px_WP z mc ms Q (pc + 3) ls st L M k n) : px_WP z mc ms Q pc ls ((0, a) :: st) L M k n := by
  refine px_lift2 hq (fun hx hb hs k1 k2 => ?_) (fun hs y hy => hs y (by simp [hy])) h1 h2
  have ha2 := px_ok0_r (hs (0, a) (by simp))
  exact lv_if_eq hx hb hd (px_tgt_eq ht) (fun c1 => k1 ((px_eq32 ha2 px_z32).mp c1)) (fun c1 => k2 (fun e => c1 ((px_eq32 ha2 px_z32).mpr e)))
theorem pi_icmp_ne (hq : px_MT[z]? = some q) {off : Int} {t : Nat} (hd : decode q.2.1 pc = .ok (.if_icmp .ne off, 3)) (ht : px_tgt pc off t = true) {a b : Int} (h1 : a ≠ b → px_WP z mc ms Q t ls st L M k n) (h2 : ¬ (a ≠ b) → px_WP z mc ms Q (pc + 3) ls st L M k n) : px_WP z mc ms Q pc ls ((0, b) :: (0, a) :: st) L M k n := by
  refine px_lift2 hq (fun hx hb hs k1 k2 => ?_) (fun hs y hy => hs y (by simp [hy])) h1 h2
  have hb2 := px_ok0_r (hs (0, b) (by simp))
  have ha2 := px_ok0_r (hs (0, a) (by simp))
  exact lv_icmp_ne hx hb hd (px_tgt_eq ht) (fun c1 => k1 (fun e => c1 ((px_eq32 ha2 hb2).mpr e))) (fun c1 => k2 (fun e => e ((px_eq32 ha2 hb2).mp c1)))
theorem pi_if_ne (hq : px_MT[z]? = some q) {off : Int} {t : Nat} (hd : decode q.2.1 pc = .ok (.ifCond .ne off, 3)) (ht : px_tgt pc off t = true) {a : Int} (h1 : a ≠ 0 → px_WP z mc ms Q t ls st L M k n) (h2 : ¬ (a ≠ 0) → px_WP z mc ms Q (pc + 3) ls st L M k n) : px_WP z mc ms Q pc ls ((0, a) :: st) L M k n := by
  refine px_lift2 hq (fun hx hb hs k1 k2 => ?_) (fun hs y hy => hs y (by simp [hy])) h1 h2
  have ha2 := px_ok0_r (hs (0, a) (by simp))
  exact lv_if_ne hx hb hd (px_tgt_eq ht) (fun c1 => k1 (fun e => c1 ((px_eq32 ha2 px_z32).mpr e))) (fun c1 => k2 (fun e => e ((px_eq32 ha2 px_z32).mp c1)))
theorem pi_icmp_lt (hq : px_MT[z]? = some q) {off : Int} {t : Nat} (hd : decode q.2.1 pc = .ok (.if_icmp .lt off, 3)) (ht : px_tgt pc off t = true) {a b : Int} (h1 : a < b → px_WP z mc ms Q t ls st L M k n) (h2 : ¬ (a < b) → px_WP z mc ms Q (pc + 3) ls st L M k n) : px_WP z mc ms Q pc ls ((0, b) :: (0, a) :: st) L M k n := by
  refine px_lift2 hq (fun hx hb hs k1 k2 => ?_) (fun hs y hy => hs y (by simp [hy])) h1 h2
  have hb2 := px_ok0_r (hs (0, b) (by simp))
  have ha2 := px_ok0_r (hs (0, a) (by simp))
  exact lv_icmp_lt hx hb hd (px_tgt_eq ht) (fun c1 => k1 ((px_lt32 ha2 hb2).mp c1)) (fun c1 => k2 (fun e => c1 ((px_lt32 ha2 hb2).mpr e)))
theorem pi_if_lt (hq : px_MT[z]? = some q) {off : Int} {t : Nat} (hd : decode q.2.1 pc = .ok (.ifCond .lt off, 3)) (ht : px_tgt pc off t = true) {a : Int} (h1 : a < 0 → px_WP z mc ms Q t ls st L M k n) (h2 : ¬ (a < 0) → px_WP z mc ms Q (pc + 3) ls st L M k n) : px_WP z mc ms Q pc ls ((0, a) :: st) L M k n := by
  refine px_lift2 hq (fun hx hb hs k1 k2 => ?_) (fun hs y hy => hs y (by simp [hy])) h1 h2
  have ha2 := px_ok0_r (hs (0, a) (by simp))
  exact lv_if_lt hx hb hd (px_tgt_eq ht) (fun c1 => k1 ((px_lt32 ha2 px_z32).mp c1)) (fun c1 => k2 (fun e => c1 ((px_lt32 ha2 px_z32).mpr e)))
theorem pi_icmp_ge (hq : px_MT[z]? = some q) {off : Int} {t : Nat} (hd : decode q.2.1 pc = .ok (.if_icmp .ge off, 3)) (ht : px_tgt pc off t = true) {a b : Int} (h1 : b ≤ a → px_WP z mc ms Q t ls st L M k n) (h2 : ¬ (b ≤ a) → px_WP z mc ms Q (pc + 3) ls st L M k n) : px_WP z mc ms Q pc ls ((0, b) :: (0, a) :: st) L M k n := by
  refine px_lift2 hq (fun hx hb hs k1 k2 => ?_) (fun hs y hy => hs y (by simp [hy])) h1 h2
  have hb2 := px_ok0_r (hs (0, b) (by simp))
  have ha2 := px_ok0_r (hs (0, a) (by simp))
  exact lv_icmp_ge hx hb hd (px_tgt_eq ht) (fun c1 => k1 ((px_le32 hb2 ha2).mp c1)) (fun c1 => k2 (fun e => c1 ((px_le32 hb2 ha2).mpr e)))
theorem pi_if_ge (hq : px_MT[z]? = some q) {off : Int} {t : Nat} (hd : decode q.2.1 pc = .ok (.ifCond .ge off, 3)) (ht : px_tgt pc off t = true) {a : Int} (h1 : 0 ≤ a → px_WP z mc ms Q t ls st L M k n) (h2 : ¬ (0 ≤ a) → px_WP z mc ms Q (pc + 3) ls st L M k n) : px_WP z mc ms Q pc ls ((0, a) :: st) L M k n := by
  refine px_lift2 hq (fun hx hb hs k1 k2 => ?_) (fun hs y hy => hs y (by simp [hy])) h1 h2
  have ha2 := px_ok0_r (hs (0, a) (by simp))
  exact lv_if_ge hx hb hd (px_tgt_eq ht) (fun c1 => k1 ((px_le32 px_z32 ha2).mp c1)) (fun c1 => k2 (fun e => c1 ((px_le32 px_z32 ha2).mpr e)))
theorem pi_icmp_gt (hq : px_MT[z]? = some q) {off : Int} {t : Nat} (hd : decode q.2.1 pc = .ok (.if_icmp .gt off, 3)) (ht : px_tgt pc off t = true) {a b : Int} (h1 : b < a → px_WP z mc ms Q t ls st L M k n) (h2 : ¬ (b < a) → px_WP z mc ms Q (pc + 3) ls st L M k n) : px_WP z mc ms Q pc ls ((0, b) :: (0, a) :: st) L M k n := by
  refine px_lift2 hq (fun hx hb hs k1 k2 => ?_) (fun hs y hy => hs y (by simp [hy])) h1 h2
  have hb2 := px_ok0_r (hs (0, b) (by simp))
  have ha2 := px_ok0_r (hs (0, a) (by simp))
  exact lv_icmp_gt hx hb hd (px_tgt_eq ht) (fun c1 => k1 ((px_lt32 hb2 ha2).mp c1)) (fun c1 => k2 (fun e => c1 ((px_lt32 hb2 ha2).mpr e)))
theorem pi_if_gt (hq : px_MT[z]? = some q) {off : Int} {t : Nat} (hd : decode q.2.1 pc = .ok (.ifCond .gt off, 3)) (ht : px_tgt pc off t = true) {a : Int} (h1 : 0 < a → px_WP z mc ms Q t ls st L M k n) (h2 : ¬ (0 < a) → px_WP z mc ms Q (pc + 3) ls st L M k n) : px_WP z mc ms Q pc ls ((0, a) :: st) L M k n := by
  refine px_lift2 hq (fun hx hb hs k1 k2 => ?_) (fun hs y hy => hs y (by simp [hy])) h1 h2
  have ha2 := px_ok0_r (hs (0, a) (by simp))
  exact lv_if_gt hx hb hd (px_tgt_eq ht) (fun c1 => k1 ((px_lt32 px_z32 ha2).mp c1)) (fun c1 => k2 (fun e => c1 ((px_lt32 px_z32 ha2).mpr e)))
theorem pi_icmp_le (hq : px_MT[z]? = some q) {off : Int} {t : Nat} (hd : decode q.2.1 pc = .ok (.if_icmp .le off, 3)) (ht : px_tgt pc off t = true) {a b : Int} (h1 : a ≤ b → px_WP z mc ms Q t ls st L M k n) (h2 : ¬ (a ≤ b) → px_WP z mc ms Q (pc + 3) ls st L M k n) : px_WP z mc ms Q pc ls ((0, b) :: (0, a) :: st) L M k n := by
  refine px_lift2 hq (fun hx hb hs k1 k2 => ?_) (fun hs y hy => hs y (by simp [hy])) h1 h2
  have hb2 := px_ok0_r (hs (0, b) (by simp))
  have ha2 := px_ok0_r (hs (0, a) (by simp))
  exact lv_icmp_le hx hb hd (px_tgt_eq ht) (fun c1 => k1 ((px_le32 ha2 hb2).mp c1)) (fun c1 => k2 (fun e => c1 ((px_le32 ha2 hb2).mpr e)))
theorem pi_if_le (hq : px_MT[z]? = some q) {off : Int} {t : Nat} (hd : decode q.2.1 pc = .ok (.ifCond .le off, 3)) (ht : px_tgt pc off t = true) {a : Int} (h1 : a ≤ 0 → px_WP z mc ms Q t ls st L M k n) (h2 : ¬ (a ≤ 0) → px_WP z mc ms Q (pc + 3) ls st L M k n) : px_WP z mc ms Q pc ls ((0, a) :: st) L M k n := by
  refine px_lift2 hq (fun hx hb hs k1 k2 => ?_) (fun hs y hy => hs y (by simp [hy])) h1 h2
  have ha2 := px_ok0_r (hs (0, a) (by simp))
  exact lv_if_le hx hb hd (px_tgt_eq ht) (fun c1 => k1 ((px_le32 ha2 px_z32).mp c1)) (fun c1 => k2 (fun e => c1 ((px_le32 ha2 px_z32).mpr e)))
theorem pi_ifnull (hq : px_MT[z]? = some q) {off : Int} {t : Nat} (hd : decode q.2.1 pc = .ok (.ifnull off, 3)) (ht : px_tgt pc off t = true) {a : Int} (h1 : a = 0 → px_WP z mc ms Q t ls st L M k n) (h2 : ¬ a = 0 → px_WP z mc ms Q (pc + 3) ls st L M k n) : px_WP z mc ms Q pc ls ((2, a) :: st) L M k n := by
  refine px_lift2 hq (fun {p l e R s m args below meth c H locs cells slots QF base rls} hx hb hs k1 k2 => ?_) (fun hs y hy => hs y (by simp [hy])) h1 h2
  have ha2 := px_ok2_r (hs (2, a) (by simp))
  by_cases h0 : a = 0
  · show W p l e R s m args below meth c H locs cells slots QF (F0 m pc rls (px_v base (2, a) :: _))
    rw [px_vN base (by omega)]
    exact lv_ifnullN hx hb hd (px_tgt_eq ht) (k1 h0)
  · show W p l e R s m args below meth c H locs cells slots QF (F0 m pc rls (px_v base (2, a) :: _))
    rw [px_v2 base (by omega)]
    exact lv_ifnull hx hb hd (k2 h0)
theorem pi_ifnonnull (hq : px_MT[z]? = some q) {off : Int} {t : Nat} (hd : decode q.2.1 pc = .ok (.ifnonnull off, 3)) (ht : px_tgt pc off t = true) {a : Int} (h1 : a ≠ 0 → px_WP z mc ms Q t ls st L M k n) (h2 : ¬ a ≠ 0 → px_WP z mc ms Q (pc + 3) ls st L M k n) : px_WP z mc ms Q pc ls ((2, a) :: st) L M k n := by
  refine px_lift2 hq (fun {p l e R s m args below meth c H locs cells slots QF base rls} hx hb hs k1 k2 => ?_) (fun hs y hy => hs y (by simp [hy])) h1 h2
  have ha2 := px_ok2_r (hs (2, a) (by simp))
  by_cases h0 : a = 0
  · show W p l e R s m args below meth c H locs cells slots QF (F0 m pc rls (px_v base (2, a) :: _))
    rw [px_vN base (by omega)]
    exact lv_ifnonnullN hx hb hd (k2 (by simp [h0]))
  · show W p l e R s m args below meth c H locs cells slots QF (F0 m pc rls (px_v base (2, a) :: _))
    rw [px_v2 base (by omega)]
    exact lv_ifnonnull hx hb hd (px_tgt_eq ht) (k1 h0)
theorem px_vrf (base : Nat) (a : Int) : px_v base (2, a) = va_rf (if a ≤ 0 then none else some (base + (a - 1).toNat)) := by
  by_cases h : a ≤ 0
  · rw [px_vN base h, if_pos h]; rfl
  · rw [px_v2 base (by omega), if_neg h]; rfl
theorem px_rf_eq {base : Nat} {a b : Int} (ha : 0 ≤ a) (hb : 0 ≤ b) : (if a ≤ 0 then none else some (base + (a - 1).toNat)) = (if b ≤ 0 then none else some (base + (b - 1).toNat)) ↔ a = b := by
  by_cases h1 : a ≤ 0
  · by_cases h2 : b ≤ 0
    · rw [if_pos h1, if_pos h2]; exact ⟨fun _ => (by omega), fun _ => rfl⟩
    · rw [if_pos h1, if_neg h2]; exact ⟨fun h => (by cases h), fun h => by omega⟩
  · by_cases h2 : b ≤ 0
    · rw [if_neg h1, if_pos h2]; exact ⟨fun h => (by cases h), fun h => by omega⟩
    · rw [if_neg h1, if_neg h2]; exact ⟨fun h => by have := Option.some.inj h; omega, fun h => by rw [h]⟩
theorem pi_acmp_eq (hq : px_MT[z]? = some q) {off : Int} {t : Nat} (hd : decode q.2.1 pc = .ok (.if_acmp .eq off, 3)) (ht : px_tgt pc off t = true) {a b : Int} (h1 : a = b → px_WP z mc ms Q t ls st L M k n) (h2 : ¬ a = b → px_WP z mc ms Q (pc + 3) ls st L M k n) : px_WP z mc ms Q pc ls ((2, b) :: (2, a) :: st) L M k n := by
  refine px_lift2 hq (fun {p l e R s m args below meth c H locs cells slots QF base rls} hx hb hs k1 k2 => ?_) (fun hs y hy => hs y (by simp [hy])) h1 h2
  have ha2 := px_ok2_r (hs (2, a) (by simp))
  have hb2 := px_ok2_r (hs (2, b) (by simp))
  show W p l e R s m args below meth c H locs cells slots QF (F0 m pc rls (px_v base (2, b) :: px_v base (2, a) :: _))
  rw [px_vrf, px_vrf]
  exact lv_acmp_eq hx hb hd (px_tgt_eq ht) (fun c1 => k1 ((px_rf_eq ha2 hb2).mp c1)) (fun c1 => k2 (fun e => c1 ((px_rf_eq ha2 hb2).mpr e)))
/-! locals -/
theorem px_lget {base nL : Nat} {rls : Array Slot} (hL : px_Lr base nL ls rls) {i t : Nat} {v : Int} (h : px_lg ls i = (t, v)) (ht : t < 3) : px_okp (t, v) ∧ rls[i]? = some (.val (px_v base (t, v))) := by
  obtain ⟨h1, h2⟩ := hL.2.2.2 i t v (px_lg_get h ht) ht
  exact ⟨⟨ht, h1⟩, h2⟩
theorem px_liftL (hq : px_MT[z]? = some q) {pc' i t : Nat} {v : Int} (hi : px_lg ls i = (t, v)) (ht3 : t < 3) (ht : ∀ {p : Program} {l : Launch} {e : Env} {R : Room} {s : State} {m : MethodId} {args : Array Value} {below : List Frame} {meth : Method} {c : Code} {H : Heap} {locs : List Loc} {cells slots : Nat} {QF : State → Prop} {base : Nat} {rls : Array Slot},
      p.tables.exec = Jvm.exec → c.code = q.2.1 → px_okp (t, v) → rls[i]? = some (.val (px_v base (t, v))) → W p l e R s m args below meth c H locs cells slots QF (F0 m pc' rls (px_v base (t, v) :: st.map (px_v base))) → W p l e R s m args below meth c H locs cells slots QF (F0 m pc rls (st.map (px_v base))))
    (h : px_WP z mc ms Q pc' ls ((t, v) :: st) L M k n) : px_WP z mc ms Q pc ls st L M k n := by
  intro q' p l e R s m args below meth c QF base D H locs rls hq' C hk hn hR hS hL hst
  cases hq.symm.trans hq'
  obtain ⟨g1, g2⟩ := px_lget hL hi ht3
  exact ht C.1 C.2.1 g1 g2 (h q p l e R s m args below meth c QF base D H locs rls hq C hk hn hR hS hL (px_oc g1 hst))
theorem pi_iload_n (hq : px_MT[z]? = some q) {i : Fin 4} (hd : decode q.2.1 pc = .ok (.iload_n i, 1)) {v : Int} (hi : px_lg ls i = (0, v)) (h : px_WP z mc ms Q (pc + 1) ls ((0, v) :: st) L M k n) : px_WP z mc ms Q pc ls st L M k n :=
  px_liftL hq hi (by decide) (fun hx hb _ g k => lv_iload_n hx hb hd rfl g k) h
theorem pi_iload (hq : px_MT[z]? = some q) {i : Nat} (hd : decode q.2.1 pc = .ok (.iload i, 2)) {v : Int} (hi : px_lg ls i = (0, v)) (h : px_WP z mc ms Q (pc + 2) ls ((0, v) :: st) L M k n) : px_WP z mc ms Q pc ls st L M k n :=
  px_liftL hq hi (by decide) (fun hx hb _ g k => lv_iload hx hb hd g k) h
theorem pi_lload_n (hq : px_MT[z]? = some q) {i : Fin 4} (hd : decode q.2.1 pc = .ok (.lload_n i, 1)) {v : Int} (hi : px_lg ls i = (1, v)) (h : px_WP z mc ms Q (pc + 1) ls ((1, v) :: st) L M k n) : px_WP z mc ms Q pc ls st L M k n :=
  px_liftL hq hi (by decide) (fun hx hb _ g k => lv_lload_n hx hb hd rfl g k) h
theorem pi_lload (hq : px_MT[z]? = some q) {i : Nat} (hd : decode q.2.1 pc = .ok (.lload i, 2)) {v : Int} (hi : px_lg ls i = (1, v)) (h : px_WP z mc ms Q (pc + 2) ls ((1, v) :: st) L M k n) : px_WP z mc ms Q pc ls st L M k n :=
  px_liftL hq hi (by decide) (fun hx hb _ g k => lv_lload hx hb hd g k) h
theorem pi_aload_n (hq : px_MT[z]? = some q) {i : Fin 4} (hd : decode q.2.1 pc = .ok (.aload_n i, 1)) {v : Int} (hi : px_lg ls i = (2, v)) (h : px_WP z mc ms Q (pc + 1) ls ((2, v) :: st) L M k n) : px_WP z mc ms Q pc ls st L M k n := by
  refine px_liftL hq hi (by decide) (fun {p l e R s m args below meth c H locs cells slots QF base rls} hx hb ho g k => ?_) h
  by_cases h0 : v ≤ 0
  · rw [px_vN base h0] at g k
    exact lv_aload_nN hx hb hd rfl g k
  · rw [px_v2 base (by omega)] at g k
    exact lv_aload_n hx hb hd rfl g k
theorem pi_aload (hq : px_MT[z]? = some q) {i : Nat} (hd : decode q.2.1 pc = .ok (.aload i, 2)) {v : Int} (hi : px_lg ls i = (2, v)) (h : px_WP z mc ms Q (pc + 2) ls ((2, v) :: st) L M k n) : px_WP z mc ms Q pc ls st L M k n := by
  refine px_liftL hq hi (by decide) (fun {p l e R s m args below meth c H locs cells slots QF base rls} hx hb ho g k => ?_) h
  by_cases h0 : v ≤ 0
  · rw [px_vN base h0] at g k
    exact lv_aloadN hx hb hd g k
  · rw [px_v2 base (by omega)] at g k
    exact lv_aload hx hb hd g k
/-- a store of one word -/
def px_st1 : List pv → Nat → pv → List pv
  | [], _, _ => []
  | _ :: ls, 0, x => x :: ls
  | y :: ls, n + 1, x => (if n = 0 ∧ y.1 = 1 then (9, 0) else y) :: px_st1 ls n x
/-- a store of two words -/
def px_st2 : List pv → Nat → pv → List pv
  | [], _, _ => []
  | _ :: ls, 0, x => x :: (match ls with | [] => [] | _ :: l2 => (9, 0) :: l2)
  | y :: ls, n + 1, x => (if n = 0 ∧ y.1 = 1 then (9, 0) else y) :: px_st2 ls n x
theorem px_st1_len (ls : List pv) (i : Nat) (x : pv) : (px_st1 ls i x).length = ls.length := by
  induction ls generalizing i with
  | nil => rfl
  | cons y ls ih => cases i with
    | zero => rfl
    | succ i => simp [px_st1, ih]
theorem px_st2_len (ls : List pv) (i : Nat) (x : pv) : (px_st2 ls i x).length = ls.length := by
  induction ls generalizing i with
  | nil => rfl
  | cons y ls ih => cases i with
    | zero => cases ls <;> rfl
    | succ i => simp [px_st2, ih]
theorem px_st1_get {ls : List pv} {i : Nat} {x : pv} {j t : Nat} {v : Int} (h : (px_st1 ls i x)[j]? = some (t, v)) (ht : t < 3) : (j = i ∧ x = (t, v)) ∨ (j ≠ i ∧ ls[j]? = some (t, v) ∧ ¬ (j + 1 = i ∧ t = 1)) := by
  induction ls generalizing i j with
  | nil => simp [px_st1] at h
  | cons y ls ih => cases i with
    | zero => cases j with
      | zero => left; simp [px_st1] at h; exact ⟨rfl, h⟩
      | succ j => right; simp [px_st1] at h; exact ⟨by omega, by simpa using h, by omega⟩
    | succ i => cases j with
      | zero =>
        right
        simp [px_st1] at h
        by_cases hc : i = 0 ∧ y.1 = 1
        · rw [if_pos hc] at h; have := congrArg Prod.fst h; simp at this; omega
        · rw [if_neg hc] at h; subst h; exact ⟨by omega, rfl, fun e => hc ⟨by omega, e.2⟩⟩
      | succ j =>
        simp [px_st1] at h
        rcases ih h with ⟨a, b⟩ | ⟨a, b, c⟩
        · left; exact ⟨by omega, b⟩
        · right; exact ⟨by omega, by simpa using b, fun e => c ⟨by omega, e.2⟩⟩
theorem px_st2_get {ls : List pv} {i : Nat} {x : pv} {j t : Nat} {v : Int} (h : (px_st2 ls i x)[j]? = some (t, v)) (ht : t < 3) : (j = i ∧ x = (t, v)) ∨ (j ≠ i ∧ j ≠ i + 1 ∧ ls[j]? = some (t, v) ∧ ¬ (j + 1 = i ∧ t = 1)) := by
  induction ls generalizing i j with
  | nil => simp [px_st2] at h
  | cons y ls ih => cases i with
    | zero => cases j with
      | zero => left; simp [px_st2] at h; exact ⟨rfl, h⟩
      | succ j =>
        right
        cases ls with
        | nil => simp [px_st2] at h
        | cons y2 l2 => cases j with
          | zero => simp [px_st2] at h; omega
          | succ j => simp [px_st2] at h; exact ⟨by omega, by omega, by simpa using h, by omega⟩
    | succ i => cases j with
      | zero =>
        right
        simp [px_st2] at h
        by_cases hc : i = 0 ∧ y.1 = 1
        · rw [if_pos hc] at h; have := congrArg Prod.fst h; simp at this; omega
        · rw [if_neg hc] at h; subst h; exact ⟨by omega, by omega, rfl, fun e => hc ⟨by omega, e.2⟩⟩
      | succ j =>
        simp [px_st2] at h
        rcases ih h with ⟨a, b⟩ | ⟨a, b, c, d⟩
        · left; exact ⟨by omega, b⟩
        · right; exact ⟨by omega, by omega, by simpa using c, fun e => d ⟨by omega, e.2⟩⟩
/-- the listed values of the locals -/
def px_lv (base : Nat) (ls : List pv) : List (Nat × Value) := (List.range ls.length).filterMap fun i => match ls[i]? with
  | some (t, v) => if t < 3 then some (i, px_v base (t, v)) else none
  | none => none
theorem px_lv_mem {base : Nat} {ls : List pv} {i : Nat} {w : Value} : (i, w) ∈ px_lv base ls ↔ ∃ t v, ls[i]? = some (t, v) ∧ t < 3 ∧ w = px_v base (t, v) := by
  unfold px_lv
  rw [List.mem_filterMap]
  constructor
  · rintro ⟨j, hj, h⟩
    cases hls : ls[j]? with
    | none => rw [hls] at h; cases h
    | some y =>
      obtain ⟨t, v⟩ := y
      rw [hls] at h
      dsimp only at h
      by_cases ht : t < 3
      · rw [if_pos ht] at h
        cases h
        exact ⟨t, v, hls, ht, rfl⟩
      · rw [if_neg ht] at h; cases h
  · rintro ⟨t, v, h1, h2, rfl⟩
    refine ⟨i, List.mem_range.mpr (List.getElem?_eq_some_iff.mp h1).1, ?_⟩
    rw [h1]
    dsimp only
    rw [if_pos h2]
theorem px_lv_has {base nL : Nat} {ls : List pv} {rls : Array Slot} (h : px_Lr base nL ls rls) : lv_has rls nL (px_lv base ls) := by
  refine ⟨h.2.1, h.2.2.1, fun q hq => ?_⟩
  obtain ⟨i, w⟩ := q
  obtain ⟨t, v, h1, h2, rfl⟩ := px_lv_mem.mp hq
  exact (h.2.2.2 i t v h1 h2).2
theorem px_Lr_st1 {base nL : Nat} {ls : List pv} {rls rls' : Array Slot} (h : px_Lr base nL ls rls) {i t : Nat} {v : Int} (hx : px_okp (t, v)) (h' : lv_has rls' nL ((i, px_v base (t, v)) :: (px_lv base ls).filter (fun q => !(q.1 == i) && !(q.1 + 1 == i && q.2.category == 2)))) : px_Lr base nL (px_st1 ls i (t, v)) rls' := by
  refine ⟨by rw [px_st1_len]; exact h.1, h'.1, h'.2.1, fun j u w hj hu => ?_⟩
  rcases px_st1_get hj hu with ⟨rfl, e⟩ | ⟨a, b, c⟩
  · cases e
    exact ⟨hx.2, h'.2.2 (j, px_v base (t, v)) List.mem_cons_self⟩
  · refine ⟨(h.2.2.2 j u w b hu).1, h'.2.2 (j, px_v base (u, w)) (List.mem_cons_of_mem _ (List.mem_filter.mpr ⟨px_lv_mem.mpr ⟨u, w, b, hu, rfl⟩, ?_⟩))⟩
    by_cases h1 : u = 1
    · have : ¬ j + 1 = i := fun e => c ⟨e, h1⟩
      simp [a, this]
    · simp [a, px_cat1 h1]
theorem px_Lr_st2 {base nL : Nat} {ls : List pv} {rls rls' : Array Slot} (h : px_Lr base nL ls rls) {i t : Nat} {v : Int} (hx : px_okp (t, v)) (h' : lv_has rls' nL ((i, px_v base (t, v)) :: (px_lv base ls).filter (fun q => !(q.1 == i) && (!(q.1 == i + 1) && !(q.1 + 1 == i && q.2.category == 2))))) : px_Lr base nL (px_st2 ls i (t, v)) rls' := by
  refine ⟨by rw [px_st2_len]; exact h.1, h'.1, h'.2.1, fun j u w hj hu => ?_⟩
  rcases px_st2_get hj hu with ⟨rfl, e⟩ | ⟨a, a2, b, c⟩
  · cases e
    exact ⟨hx.2, h'.2.2 (j, px_v base (t, v)) List.mem_cons_self⟩
  · refine ⟨(h.2.2.2 j u w b hu).1, h'.2.2 (j, px_v base (u, w)) (List.mem_cons_of_mem _ (List.mem_filter.mpr ⟨px_lv_mem.mpr ⟨u, w, b, hu, rfl⟩, ?_⟩))⟩
    by_cases h1 : u = 1
    · have : ¬ j + 1 = i := fun e => c ⟨e, h1⟩
      simp [a, a2, this]
    · simp [a, a2, px_cat1 h1]
theorem px_liftS (hq : px_MT[z]? = some q) {pc' i t : Nat} {v : Int} {st0 : List pv} {ls' : List pv} (ht : ∀ {p : Program} {l : Launch} {e : Env} {R : Room} {s : State} {m : MethodId} {args : Array Value} {below : List Frame} {meth : Method} {c : Code} {H : Heap} {locs : List Loc} {cells slots : Nat} {QF : State → Prop} {base : Nat} {rls : Array Slot},
      p.tables.exec = Jvm.exec → c.code = q.2.1 → (∀ x ∈ st0, px_okp x) → px_Lr base q.2.2.1 ls rls → (∀ rls', px_Lr base q.2.2.1 ls' rls' → W p l e R s m args below meth c H locs cells slots QF (F0 m pc' rls' (st.map (px_v base)))) → W p l e R s m args below meth c H locs cells slots QF (F0 m pc rls (st0.map (px_v base))))
    (hok : (∀ x ∈ st0, px_okp x) → ∀ x ∈ st, px_okp x) (h : px_WP z mc ms Q pc' ls' st L M k n) : px_WP z mc ms Q pc ls st0 L M k n := by
  intro q' p l e R s m args below meth c QF base D H locs rls hq' C hk hn hR hS hL hst
  cases hq.symm.trans hq'
  exact ht C.1 C.2.1 hst hL (fun rls' hL' => h q p l e R s m args below meth c QF base D H locs rls' hq C hk hn hR hS hL' (hok hst))
theorem pi_istore (hq : px_MT[z]? = some q) {i : Nat} (hd : decode q.2.1 pc = .ok (.istore i, 2)) (hr : px_rchk q pc (.istore i) [] = true) {v : Int} (h : px_WP z mc ms Q (pc + 2) (px_st1 ls i (0, v)) st L M k n) : px_WP z mc ms Q pc ls ((0, v) :: st) L M k n :=
  px_liftS (i := 0) (t := 0) (v := 0) hq (fun hx hb hs hL kk => lv_istore hx hb hd (px_lv_has hL) (of_decide_eq_true hr) rfl (fun rls' h' => kk rls' (px_Lr_st1 hL (hs _ List.mem_cons_self) h'))) (fun hs y hy => hs y (by simp [hy])) h
theorem pi_istore_n (hq : px_MT[z]? = some q) {i : Fin 4} (hd : decode q.2.1 pc = .ok (.istore_n i, 1)) (hr : px_rchk q pc (.istore_n i) [] = true) {v : Int} (h : px_WP z mc ms Q (pc + 1) (px_st1 ls i (0, v)) st L M k n) : px_WP z mc ms Q pc ls ((0, v) :: st) L M k n :=
  px_liftS (i := 0) (t := 0) (v := 0) hq (fun hx hb hs hL kk => lv_istore_n hx hb hd rfl (px_lv_has hL) (of_decide_eq_true hr) rfl (fun rls' h' => kk rls' (px_Lr_st1 hL (hs _ List.mem_cons_self) h'))) (fun hs y hy => hs y (by simp [hy])) h
theorem pi_lstore (hq : px_MT[z]? = some q) {i : Nat} (hd : decode q.2.1 pc = .ok (.lstore i, 2)) (hr : px_rchk q pc (.lstore i) [] = true) {v : Int} (h : px_WP z mc ms Q (pc + 2) (px_st2 ls i (1, v)) st L M k n) : px_WP z mc ms Q pc ls ((1, v) :: st) L M k n :=
  px_liftS (i := 0) (t := 0) (v := 0) hq (fun hx hb hs hL kk => lv_lstore hx hb hd (px_lv_has hL) (of_decide_eq_true hr) rfl (fun rls' h' => kk rls' (px_Lr_st2 hL (hs _ List.mem_cons_self) h'))) (fun hs y hy => hs y (by simp [hy])) h
theorem pi_lstore_n (hq : px_MT[z]? = some q) {i : Fin 4} (hd : decode q.2.1 pc = .ok (.lstore_n i, 1)) (hr : px_rchk q pc (.lstore_n i) [] = true) {v : Int} (h : px_WP z mc ms Q (pc + 1) (px_st2 ls i (1, v)) st L M k n) : px_WP z mc ms Q pc ls ((1, v) :: st) L M k n :=
  px_liftS (i := 0) (t := 0) (v := 0) hq (fun hx hb hs hL kk => lv_lstore_n hx hb hd rfl (px_lv_has hL) (of_decide_eq_true hr) rfl (fun rls' h' => kk rls' (px_Lr_st2 hL (hs _ List.mem_cons_self) h'))) (fun hs y hy => hs y (by simp [hy])) h
theorem pi_astore (hq : px_MT[z]? = some q) {i : Nat} (hd : decode q.2.1 pc = .ok (.astore i, 2)) (hr : px_rchk q pc (.astore i) [] = true) {v : Int} (h : px_WP z mc ms Q (pc + 2) (px_st1 ls i (2, v)) st L M k n) : px_WP z mc ms Q pc ls ((2, v) :: st) L M k n := by
  refine px_liftS (i := 0) (t := 0) (v := 0) hq (fun {p l e R s m args below meth c H locs cells slots QF base rls} hx hb hs hL kk => ?_) (fun hs y hy => hs y (by simp [hy])) h
  have hl := fun rls' => px_Lr_st1 (rls' := rls') hL (i := i) (hs _ List.mem_cons_self)
  show W p l e R s m args below meth c H locs cells slots QF (F0 m pc rls (px_v base (2, v) :: _))
  by_cases h0 : v ≤ 0
  · rw [px_vN base h0] at hl ⊢
    exact lv_astoreN hx hb hd (px_lv_has hL) (of_decide_eq_true hr) rfl (fun rls' h' => kk rls' (hl rls' h'))
  · rw [px_v2 base (by omega)] at hl ⊢
    exact lv_astore hx hb hd (px_lv_has hL) (of_decide_eq_true hr) rfl (fun rls' h' => kk rls' (hl rls' h'))
theorem pi_astore_n (hq : px_MT[z]? = some q) {i : Fin 4} (hd : decode q.2.1 pc = .ok (.astore_n i, 1)) (hr : px_rchk q pc (.astore_n i) [] = true) {v : Int} (h : px_WP z mc ms Q (pc + 1) (px_st1 ls i (2, v)) st L M k n) : px_WP z mc ms Q pc ls ((2, v) :: st) L M k n := by
  refine px_liftS (i := 0) (t := 0) (v := 0) hq (fun {p l e R s m args below meth c H locs cells slots QF base rls} hx hb hs hL kk => ?_) (fun hs y hy => hs y (by simp [hy])) h
  have hl := fun rls' => px_Lr_st1 (rls' := rls') hL (i := i) (hs _ List.mem_cons_self)
  show W p l e R s m args below meth c H locs cells slots QF (F0 m pc rls (px_v base (2, v) :: _))
  by_cases h0 : v ≤ 0
  · rw [px_vN base h0] at hl ⊢
    exact lv_astore_nN hx hb hd rfl (px_lv_has hL) (of_decide_eq_true hr) rfl (fun rls' h' => kk rls' (hl rls' h'))
  · rw [px_v2 base (by omega)] at hl ⊢
    exact lv_astore_n hx hb hd rfl (px_lv_has hL) (of_decide_eq_true hr) rfl (fun rls' h' => kk rls' (hl rls' h'))
theorem pi_iinc (hq : px_MT[z]? = some q) {i : Nat} {d : Int} (hd : decode q.2.1 pc = .ok (.iinc i d, 3)) (hr : px_rchk q pc (.iinc i d) [] = true) {v : Int} (hi : px_lg ls i = (0, v)) (ob : px_in32 (v + d)) (h : px_WP z mc ms Q (pc + 3) (px_st1 ls i (0, v + d)) st L M k n) : px_WP z mc ms Q pc ls st L M k n := by
  have hr2 : i < q.2.2.1 ∧ -32768 ≤ d ∧ d < 32768 := of_decide_eq_true hr
  refine px_liftS (i := 0) (t := 0) (v := 0) hq (fun {p l e R s m args below meth c H locs cells slots QF base rls} hx hb hs hL kk => ?_) (fun hs => hs) h
  have hg := px_lg_get hi (by decide)
  obtain ⟨w, hw⟩ := List.getElem?_of_mem (px_lv_mem.mpr ⟨0, v, hg, by decide, rfl⟩ : (i, px_v base (0, v)) ∈ px_lv base ls)
  exact lv_iinc hx hb hd (px_lv_has hL) hw (show Int32.ofInt v + Int32.ofInt d = Int32.ofInt (v + d) by rw [Int32.ofInt_add]) hr2.1 rfl (fun rls' h' => kk rls' (px_Lr_st1 hL (px_ok0 ob) h'))
/-- fewer things known of the locals -/
def px_mask : List Nat → List pv → List pv
  | _, [] => []
  | [], ls => ls
  | b :: bs, x :: ls => (if b = 0 then (9, 0) else x) :: px_mask bs ls
theorem px_mask_get {bs : List Nat} {ls : List pv} {i t : Nat} {v : Int} (h : (px_mask bs ls)[i]? = some (t, v)) (ht : t < 3) : ls[i]? = some (t, v) := by
  induction ls generalizing bs i with
  | nil => cases bs <;> simp [px_mask] at h
  | cons x ls ih => cases bs with
    | nil => simpa [px_mask] using h
    | cons b bs => cases i with
      | zero =>
        simp [px_mask] at h
        by_cases hb : b = 0
        · rw [if_pos hb] at h; have := congrArg Prod.fst h; simp at this; omega
        · rw [if_neg hb] at h; simp [h]
      | succ i => simp [px_mask] at h; simpa using ih h
theorem px_mask_len (bs : List Nat) (ls : List pv) : (px_mask bs ls).length = ls.length := by
  induction ls generalizing bs with
  | nil => cases bs <;> rfl
  | cons x ls ih => cases bs with
    | nil => rfl
    | cons b bs => simp [px_mask, ih]
theorem pi_mask {bs : List Nat} (h : px_WP z mc ms Q pc (px_mask bs ls) st L M k n) : px_WP z mc ms Q pc ls st L M k n := by
  intro q p l e R s m args below meth c QF base D H locs rls hq C hk hn hR hS hL hst
  refine h q p l e R s m args below meth c QF base D H locs rls hq C hk hn hR hS ⟨by rw [px_mask_len]; exact hL.1, hL.2.1, hL.2.2.1, fun i t v hi ht => hL.2.2.2 i t v (px_mask_get hi ht) ht⟩ hst
end PI
