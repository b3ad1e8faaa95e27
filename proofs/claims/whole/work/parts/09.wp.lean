/-! what the pure machine's states say of the real one -/
def px_in32 (v : Int) : Prop := -2147483648 ≤ v ∧ v < 2147483648
def px_in64 (v : Int) : Prop := -9223372036854775808 ≤ v ∧ v < 9223372036854775808
def px_okv (t : Nat) (v : Int) : Prop := (t = 0 → px_in32 v) ∧ (t = 1 → px_in64 v) ∧ (t = 2 → 0 ≤ v) ∧ (t = 3 → -128 ≤ v ∧ v < 128) ∧ (t = 4 → v = 0 ∨ v = 1)
def px_okp (x : pv) : Prop := x.1 < 3 ∧ px_okv x.1 x.2
def px_v (base : Nat) (x : pv) : Value := if x.1 = 1 then .long (Int64.ofInt x.2) else if x.1 = 2 then (if x.2 ≤ 0 then .null else .ref (base + (x.2 - 1).toNat)) else .int (Int32.ofInt x.2)
theorem px_v0 (base : Nat) (a : Int) : px_v base (0, a) = .int (Int32.ofInt a) := rfl
theorem px_v1 (base : Nat) (a : Int) : px_v base (1, a) = .long (Int64.ofInt a) := rfl
theorem px_v2 (base : Nat) {a : Int} (h : 0 < a) : px_v base (2, a) = .ref (base + (a - 1).toNat) := by
  show (if a ≤ 0 then Value.null else _) = _
  rw [if_neg (by omega)]
theorem px_vN (base : Nat) {a : Int} (h : a ≤ 0) : px_v base (2, a) = .null := by
  show (if a ≤ 0 then Value.null else _) = _
  rw [if_pos h]
def px_lg : List pv → Nat → pv
  | [], _ => (9, 0)
  | x :: _, 0 => x
  | _ :: xs, n + 1 => px_lg xs n
theorem px_lg_get {ls : List pv} {i t : Nat} {v : Int} (h : px_lg ls i = (t, v)) (ht : t < 3) : ls[i]? = some (t, v) := by
  induction ls generalizing i with
  | nil => simp [px_lg] at h; omega
  | cons x xs ih =>
    cases i with
    | zero => simp [px_lg] at h; simp [h]
    | succ i => simp [px_lg] at h; simpa using ih h
def px_Lr (base nL : Nat) (ls : List pv) (rls : Array Slot) : Prop := ls.length = nL ∧ rls.size = nL ∧ lv_wf rls ∧ ∀ (i t : Nat) (v : Int), ls[i]? = some (t, v) → t < 3 → px_okv t v ∧ rls[i]? = some (.val (px_v base (t, v)))
/-- kinds of arrays -/
def px_kty : Nat → FieldType
  | 0 => .int
  | 1 => .long
  | 2 => .byte
  | 3 => .boolean
  | 4 => .array .int
  | _ => .object "EditionVault$Edition"
def px_ktag : Nat → Nat
  | 0 => 0
  | 1 => 1
  | 2 => 3
  | 3 => 4
  | _ => 2
def px_stk (t : Nat) : Nat := if t = 1 then 1 else if t = 2 then 2 else 0
def px_tag (kd k : Nat) : Nat := if kd < 10 then px_ktag kd else px_ftag (kd - 10) k
def px_sv (e : Nat × Nat × List Int) (row : Int → Int) (k : Int) : Int :=
  if e.1 < 4 then row k else match e.2.2 with
    | [] => row k
    | f :: fs => if e.1 < 10 then f + k else if (f :: fs).getD k.toNat 0 = 0 then row k else (f :: fs).getD k.toNat 0
def px_nm (kd : Nat) : String := if kd = 4 then "[I" else "EditionVault$Edition"
def px_arr (s : State) (cA : ClassId) (kd : Nat) : Prop := ArrOfT s cA (px_kty kd) ∧
  (kd = 0 → s.vm.findClass "[I" = some cA) ∧
  (4 ≤ kd → ∃ (kA kC : Class) (comp : ClassId), s.vm.classes[cA]? = some kA ∧ kA.kind = .array comp (px_kty kd) ∧ s.vm.findClass (px_nm kd) = some comp ∧ s.vm.classes[comp]? = some kC)
def px_cell (base : Nat) (D : va_G) (s : State) (e : Nat × Nat × List Int) (row : Int → Int) (H : Heap) (q : Nat) : Prop :=
  if e.1 < 10 then ∃ cA, H[q]? = some (arrV cA e.2.1 (fun j => px_v base (px_ktag e.1, px_sv e row j))) ∧ px_arr s cA e.1
  else (∃ r : vw_C, vwCl[e.1 - 10]? = some r ∧ r.2.2 = e.2.1) ∧ t_OB q (D.1 (e.1 - 10)) e.2.1 (D.2 (e.1 - 10)) H (fun k => px_v base (px_ftag (e.1 - 10) k, px_sv e row k))
def px_Rep (base : Nat) (D : va_G) (s : State) (L : px_lay) (M : px_mem) (H : Heap) : Prop := H.size = base + L.length ∧
  ∀ (a : Nat) (e : Nat × Nat × List Int), L[a]? = some e → px_cell base D s e (M ((a : Int) + 1)) H (base + a) ∧ ∀ k : Nat, k < e.2.1 → px_okv (px_tag e.1 k) (px_sv e (M ((a : Int) + 1)) k)
/-- reading the layout -/
def px_en (L : px_lay) (v : Int) : Nat × Nat × List Int := if v ≤ 0 then (99, 0, []) else (L[(v - 1).toNat]?).getD (99, 0, [])
def px_kd (L : px_lay) (v : Int) : Nat := (px_en L v).1
def px_ln (L : px_lay) (v : Int) : Int := ((px_en L v).2.1 : Int)
def px_gf (L : px_lay) (M : px_mem) (v k : Int) : Int := px_sv (px_en L v) (M v) k
/-- a slot that may be written -/
def px_dye (e : Nat × Nat × List Int) (j : Nat) : Prop := e.1 < 4 ∨ (e.2.2.getD j 0 = 0 ∧ (e.1 < 10 → e.2.2 = []))
def px_dy (L : px_lay) (v k : Int) : Prop := px_dye (px_en L v) k.toNat
def px_up (M : px_mem) (a j x : Int) : px_mem := fun b i => if b = a ∧ i = j then x else M b i
theorem px_en_get {L : px_lay} {v : Int} (h : px_kd L v ≠ 99) : ∃ a : Nat, v = (a : Int) + 1 ∧ (v - 1).toNat = a ∧ L[a]? = some (px_en L v) := by
  unfold px_kd at h
  by_cases hv : v ≤ 0
  · simp [px_en, hv] at h
  · refine ⟨(v - 1).toNat, by omega, rfl, ?_⟩
    unfold px_en at h ⊢
    rw [if_neg hv] at h ⊢
    cases hL : L[(v - 1).toNat]? with
    | none => rw [hL] at h; simp at h
    | some e => simp
theorem px_arr.moved {s t : State} (hvm : s.vm.Alike t.vm) {cA : ClassId} {kd : Nat} (h : px_arr s cA kd) : px_arr t cA kd := by
  obtain ⟨h1, h2, h3⟩ := h
  refine ⟨arrOfT_moved hvm h1, fun h => by rw [hvm.findClass]; exact h2 h, fun h => ?_⟩
  obtain ⟨kA, kC, comp, a1, a2, a3, a4⟩ := h3 h
  obtain ⟨kA', b1, b2⟩ := hvm.2.2 _ _ a1
  obtain ⟨kC', c1, c2⟩ := hvm.2.2 _ _ a4
  exact ⟨kA', kC', comp, b1, by rw [b2]; exact a2, by rw [hvm.findClass]; exact a3, c1⟩
theorem px_Rep.moved {base : Nat} {D : va_G} {s t : State} {L : px_lay} {M : px_mem} {H : Heap} (hvm : s.vm.Alike t.vm) (h : px_Rep base D s L M H) : px_Rep base D t L M H := by
  refine ⟨h.1, fun a e ha => ⟨?_, (h.2 a e ha).2⟩⟩
  have h1 := (h.2 a e ha).1
  unfold px_cell at h1 ⊢
  by_cases hk : e.1 < 10
  · rw [if_pos hk] at h1 ⊢
    obtain ⟨cA, a1, a2⟩ := h1
    exact ⟨cA, a1, a2.moved hvm⟩
  · rw [if_neg hk] at h1 ⊢
    exact h1
/-- that arrays of rows, and of Editions, can be made -/
def px_AOA (U : State) : Prop := (Cond.arrayOver (.array .int)).before #[] U = true
theorem px_AOA.moved {u U : State} (hvm : u.vm.Alike U.vm) (h : px_AOA u) : px_AOA U := by
  have h1 := Cond.arrayOver_setVmC (args := #[]) (s := u) (vm' := U.vm) hvm (.array .int)
  unfold px_AOA at h ⊢
  rw [h] at h1
  exact h1
def px_AO (U : State) : Prop := va_AO "EditionVault$Edition" U ∧ px_AOA U ∧ ∀ (a : String) (i : Nat) (x : MethodName) (h : String), Cond.methodLinkNest a i x h ∈ lw_tbl → va_Nw (.methodLinkNest a i x h) U
theorem px_AO.warm {s U : State} (hW : s.WarmedH U.vm) (h : px_AO s) : px_AO U := ⟨va_AO.moved hW.alike h.1, px_AOA.moved hW.alike h.2.1, fun a i x n hm => va_Nw.warmM hW (h.2.2 a i x n hm)⟩
/-- the fixed facts of a walk -/
def px_rt (q : px_M) (i : Instr) (r : Option pv) : Prop :=
  (i = .ireturn ∧ ∃ v, r = some (0, v) ∧ (q.2.2.2.1 = some .int ∨ (q.2.2.2.1 = some .boolean ∧ (v = 0 ∨ v = 1)))) ∨
  (i = .lreturn ∧ ∃ v, r = some (1, v) ∧ q.2.2.2.1 = some .long) ∨
  (i = .areturn ∧ ∃ v rt, r = some (2, v) ∧ q.2.2.2.1 = some rt ∧ ((∃ n, rt = .object n) ∨ ∃ t, rt = .array t)) ∨ (i = .return_ ∧ r = none ∧ q.2.2.2.1 = none)
def px_Ret (q : px_M) (mc ms : Nat) (Q : Option pv → px_lay → px_mem → Nat → Nat → Prop) (p : Program) (l : Launch) (e : Env) (R : Room) (s : State) (m : MethodId) (args : Array Value) (below : List Frame) (meth : Method) (c : Code) (QF : State → Prop) (base : Nat) (D : va_G) : Prop :=
  ∀ (H : Heap) (locs : List Loc) (rls : Array Slot) (pc k n : Nat) (r : Option pv) (L : px_lay) (M : px_mem) (i : Instr), decode q.2.1 pc = .ok (i, 1) → px_rt q i r → k ≤ mc → n ≤ ms → px_Rep base D s L M H → va_S (fun a => base ≤ a) s.heap H locs → (∀ x, r = some x → px_okp x) → Q r L M k n →
    W p l e R s m args below meth c H locs k n QF (F0 m pc rls (r.toList.map (px_v base)))
def px_CX (q : px_M) (mc ms : Nat) (Q : Option pv → px_lay → px_mem → Nat → Nat → Prop) (p : Program) (l : Launch) (e : Env) (R : Room) (s : State) (m : MethodId) (args : Array Value) (below : List Frame) (meth : Method) (c : Code) (QF : State → Prop) (base : Nat) (D : va_G) : Prop :=
  p.tables.exec = Jvm.exec ∧ c.code = q.2.1 ∧ c.maxLocals = q.2.2.1 ∧ s.vm.findClass q.1.cls = some m.cls ∧ (∀ w ∈ px_tb, w.before args s = true) ∧ va_K D vwCl [] s ∧ (R.cells = mc ∧ R.slots = ms) ∧
  (q.2.2.2.2.getD 1 0 ≤ R.frames ∧ q.2.2.2.2.getD 2 0 ≤ R.locals) ∧ (q.2.2.2.2.getD 3 0 = 2 → meth.name = "<init>") ∧ (base ≤ s.heap.size ∧ px_AO s) ∧ px_Ret q mc ms Q p l e R s m args below meth c QF base D
def px_WP (z mc ms : Nat) (Q : Option pv → px_lay → px_mem → Nat → Nat → Prop) (pc : Nat) (ls st : List pv) (L : px_lay) (M : px_mem) (k n : Nat) : Prop :=
  ∀ (q : px_M) (p : Program) (l : Launch) (e : Env) (R : Room) (s : State) (m : MethodId) (args : Array Value) (below : List Frame) (meth : Method) (c : Code) (QF : State → Prop) (base : Nat) (D : va_G) (H : Heap) (locs : List Loc) (rls : Array Slot),
    px_MT[z]? = some q → px_CX q mc ms Q p l e R s m args below meth c QF base D → k ≤ mc → n ≤ ms → px_Rep base D s L M H → va_S (fun a => base ≤ a) s.heap H locs → px_Lr base q.2.2.1 ls rls → (∀ x ∈ st, px_okp x) →
    W p l e R s m args below meth c H locs k n QF (F0 m pc rls (st.map (px_v base)))
/-- contracts -/
def px_ws (q : px_M) : List Cond := .code q.1 q.2.1 q.2.2.1 q.2.2.2.1 :: px_tb
def px_room (q : px_M) (mc ms : Nat) : Room := { frames := q.2.2.2.2.getD 1 0, cells := mc, slots := ms, locals := q.2.2.2.2.getD 2 0 }
def px_Pc (base : Nat) (D : va_G) (args : List pv) (L : px_lay) (M : px_mem) : Array Value → State → Prop := fun a U => a = (args.map (px_v base)).toArray ∧ (∀ x ∈ args, px_okp x) ∧ px_Rep base D U L M U.heap ∧ va_K D vwCl [] U ∧ px_AO U
def px_Qc (base : Nat) (D : va_G) (Q : Option pv → px_lay → px_mem → Prop) : Array Value → State → Outcome → State → Prop := fun _ st o t =>
  (∃ (r : Option pv) (L : px_lay) (M : px_mem), o = .returned (r.map (px_v base)) ∧ (∀ x, r = some x → px_okp x) ∧ Q r L M ∧ px_Rep base D t L M t.heap) ∧ va_F (fun a => base ≤ a) st t
def px_Okg (z : Nat) (args : List pv) (L : px_lay) (M : px_mem) (mc ms : Nat) (Q : Option pv → px_lay → px_mem → Prop) : Prop :=
  ∃ q, px_MT[z]? = some q ∧ ∀ (l : Launch) (base : Nat) (D : va_G), Met l q.1 (px_ws q) (px_room q mc ms) (px_Pc base D args L M) (px_Qc base D Q) mc ms (fun a => base ≤ a)
/-- a call that makes nothing -/
def px_Ok (z : Nat) (args : List pv) (L : px_lay) (M : px_mem) (Q : Option pv → px_mem → Prop) : Prop := px_Okg z args L M 0 0 (fun r L' M' => L' = L ∧ Q r M')
def px_at (z pc : Nat) : Option (Nat × List Nat × Instr × List Nat) := match px_PR[z]? with
  | some p => px_find p.2 pc
  | none => none
