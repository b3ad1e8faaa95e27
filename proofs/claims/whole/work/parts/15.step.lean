/-! THE PURE MACHINE'S STEPS, and that they tell the real ones -/
theorem px_lawz : (List.range 310).all (fun z => decide (px_MT[z]?.map (fun y => y.2.2.2.2.getD 0 0) = some 15 → z = 309)) = true := by decide +kernel
theorem px_mt_lt {z : Nat} (hz : z < 307) : ∃ q, px_MT[z]? = some q ∧ px_mtc q = true := by
  have hl : z < px_MT.length := by rw [px_mlen]; omega
  refine ⟨px_MT[z], List.getElem?_eq_getElem hl, ?_⟩
  have hy : px_MT[z]? = some px_MT[z] := List.getElem?_eq_getElem hl
  generalize px_MT[z] = q at hy ⊢
  rcases px_mt_all q (List.mem_of_getElem? hy) with h | h | h | h
  · exact h
  · subst h; rcases px_math_of hy rfl with h | h <;> omega
  · subst h; rcases px_math_of hy rfl with h | h <;> omega
  · subst h
    have := of_decide_eq_true (List.all_eq_true.mp px_lawz z (List.mem_range.mpr (by omega))) (by rw [hy]; rfl)
    omega
def px_ml (z : Nat) : Nat := match px_MT[z]? with
  | some q => q.2.2.1
  | none => 0
def px_ent : List pv → Nat → List pv
  | [], n => List.replicate n (9, 0)
  | x :: xs, n => if x.1 = 1 then x :: (9, 0) :: px_ent xs (n - 2) else x :: px_ent xs (n - 1)
theorem px_ent_len {args : List pv} {n : Nat} (h : px_cats args ≤ n) : (px_ent args n).length = n := by
  induction args generalizing n with
  | nil => simp [px_ent]
  | cons x xs ih =>
    unfold px_cats at h
    unfold px_ent
    by_cases hx : x.1 = 1
    · rw [if_pos hx] at h ⊢
      rw [List.length_cons, List.length_cons, ih (by omega)]
      omega
    · rw [if_neg hx] at h ⊢
      rw [List.length_cons, ih (by omega)]
      omega
theorem px_sl_len {base : Nat} (args : List pv) : (lg_sl (args.map (px_v base))).length = px_cats args := by
  induction args with
  | nil => rfl
  | cons x xs ih =>
    have e : lg_sl ((x :: xs).map (px_v base)) = (if (px_v base x).category = 2 then [.val (px_v base x), .second] else [.val (px_v base x)]) ++ lg_sl (xs.map (px_v base)) := rfl
    rw [e, List.length_append, ih]
    show _ = (if x.1 = 1 then 2 else 1) + px_cats xs
    obtain ⟨t, a⟩ := x
    by_cases h : t = 1
    · subst h; rfl
    · rw [px_cat1 h, if_neg h]; rfl
theorem px_ent_get {base : Nat} {args : List pv} {n i0 i t : Nat} {v : Int} (h : (px_ent args n)[i]? = some (t, v)) (ht : t < 3) : (t, v) ∈ args ∧ (i0 + i, px_v base (t, v)) ∈ lv_args i0 (args.map (px_v base)) := by
  induction args generalizing n i0 i with
  | nil =>
    unfold px_ent at h
    rw [List.getElem?_replicate] at h
    split at h
    · cases h; omega
    · cases h
  | cons x xs ih =>
    unfold px_ent at h
    have e : lv_args i0 ((x :: xs).map (px_v base)) = (i0, px_v base x) :: lv_args (if (px_v base x).category = 2 then i0 + 2 else i0 + 1) (xs.map (px_v base)) := rfl
    rw [e]
    obtain ⟨u, a⟩ := x
    by_cases hx : u = 1
    · rw [if_pos hx] at h
      subst hx
      rw [show (px_v base (1, a)).category = 2 from rfl, if_pos rfl]
      cases i with
      | zero => cases h; exact ⟨List.mem_cons_self, List.mem_cons_self⟩
      | succ i => cases i with
        | zero => cases h; omega
        | succ i =>
          obtain ⟨h1, h2⟩ := ih (i0 := i0 + 2) (i := i) h
          exact ⟨List.mem_cons_of_mem _ h1, List.mem_cons_of_mem _ (by rw [show i0 + (i + 1 + 1) = i0 + 2 + i by omega]; exact h2)⟩
    · rw [if_neg hx] at h
      rw [px_cat1 hx, if_neg (by decide)]
      cases i with
      | zero => cases h; exact ⟨List.mem_cons_self, List.mem_cons_self⟩
      | succ i =>
        obtain ⟨h1, h2⟩ := ih (i0 := i0 + 1) (i := i) h
        exact ⟨List.mem_cons_of_mem _ h1, List.mem_cons_of_mem _ (by rw [show i0 + (i + 1) = i0 + 1 + i by omega]; exact h2)⟩
set_option maxHeartbeats 1000000 in
theorem px_ok_intro {z : Nat} {q : px_M} {args : List pv} {L : px_lay} {M : px_mem} {mc ms : Nat} {Q : Option pv → px_lay → px_mem → Prop} (hq : px_MT[z]? = some q) (hm : px_mtc q = true) (hargs : px_cats args ≤ q.2.2.1) (h : px_WP z mc ms (fun r L' M' _ _ => Q r L' M') 0 (px_ent args q.2.2.1) [] L M 0 0) : px_Okg z args L M mc ms Q := by
  obtain ⟨w1, w2, w3, w4, w5, w6, w7, w8, w9⟩ := px_mtc_of hm
  refine ⟨q, hq, fun l base D => Met.ofW (cc := q.2.1) (maxL := q.2.2.1) (ret := q.2.2.2.1) w3 rfl ?_⟩
  intro p e s m args' below meth c s₁ B hml hv
  obtain ⟨rfl, hok, hRep, hK, hAO⟩ := hv
  have hts0 := atoms_spec (ws := px_ws q) B.pre
  have hts : ∀ w ∈ px_tb, w.before (args.map (px_v base)).toArray s = true := fun w hw => hts0 w (List.mem_cons_of_mem _ hw)
  have hown : s.vm.findClass q.1.cls = some m.cls := findClass_of_methodNamed B.named
  have hlocks := B.notSynchronized
  have hr := B.returns
  have hl := lv_entry (args.map (px_v base)) (n := q.2.2.1) (by rw [px_sl_len]; exact hargs)
  rw [lg_entry_eq]
  generalize (lg_sl (args.map (px_v base)) ++ List.replicate (q.2.2.1 - (lg_sl (args.map (px_v base))).length) Slot.unset).toArray = rls at hl ⊢
  have hLr : px_Lr base q.2.2.1 (px_ent args q.2.2.1) rls := by
    refine ⟨px_ent_len hargs, hl.1, hl.2.1, fun i t v hi ht => ?_⟩
    obtain ⟨h1, h2⟩ := px_ent_get (base := base) (i0 := 0) hi ht
    rw [Nat.zero_add] at h2
    exact ⟨(hok _ h1).2, hl.2.2 _ h2⟩
  refine h q p l e _ s m _ below meth c _ base D s.heap [] rls hq ⟨B.exec, B.bytes, hml, hown, hts, hK, ⟨rfl, rfl⟩, ⟨Nat.le_refl _, Nat.le_refl _⟩, fun hf => ?_, ⟨?_, hAO⟩, ?_⟩ (Nat.zero_le _) (Nat.zero_le _) hRep va_S.rf hLr (fun x hx => by cases hx)
  · rw [(name_of_methodNamed B.named B.method).1]
    exact w9 hf
  · rw [hRep.1]; omega
  · intro H locs rls pc k n r L' M' i hd hrt hk hn hR hS hokr hQ
    refine W.widen hk hn ?_
    have hfin : ∀ t : State, t.heap = H → s.WarmedH t.vm → px_Qc base D Q (args.map (px_v base)).toArray s (.returned (r.map (px_v base))) t := fun t ht hW => ⟨⟨r, L', M', rfl, hokr, hQ, by rw [ht]; exact hR.moved hW.alike⟩, hS.F ht⟩
    rcases hrt with ⟨rfl, v, rfl, hret⟩ | ⟨rfl, v, rfl, hret⟩ | ⟨rfl, v, rt, rfl, hret, hrt2⟩ | ⟨rfl, rfl, hret⟩
    · rcases hret with hret | ⟨hret, hv⟩
      · exact W.iret B.exec B.bytes (by rw [hr, hret]) hfin hS.2.2 hd hlocks
      · exact W.zret (ty := .boolean) B.exec B.bytes (by rw [hr, hret]) (by rcases hv with rfl | rfl <;> rfl) hfin hS.2.2 hd hlocks
    · exact W.lret B.exec B.bytes (by rw [hr, hret]) hfin hS.2.2 hd hlocks
    · refine W.aret (v := px_v base (2, v)) B.exec B.bytes (by rw [hr, hret]) hrt2 ?_ hfin hS.2.2 hd hlocks
      by_cases h0 : v ≤ 0
      · left; exact px_vN base h0
      · right; exact ⟨_, px_v2 base (by omega)⟩
    · exact W.vret B.exec B.bytes (by rw [hr, hret]) hfin hS.2.2 hd hlocks
section PE
variable {z mc ms : Nat} {Q : Option pv → px_lay → px_mem → Nat → Nat → Prop} {pc : Nat} {ls st : List pv} {L : px_lay} {M : px_mem} {k n : Nat} {q : px_M}
theorem pi_max (hq : px_MT[z]? = some q) {idx na c j : Nat} (hd : decode q.2.1 pc = .ok (.invokestatic idx, 3)) (hr : px_rchk q pc (.invokestatic idx) [307, na, c, j] = true) {a b : Int} (hcat : px_cats st ≤ 8) (h : px_WP z mc ms Q (pc + 3) ls ((0, max a b) :: st) L M k n) : px_WP z mc ms Q pc ls ((0, b) :: (0, a) :: st) L M k n := by
  have hy : px_MT[307]? = some px_m_307 := rfl
  dsimp only [px_rchk] at hr
  rw [hy] at hr
  simp only [Bool.and_eq_true, decide_eq_true_eq] at hr
  obtain ⟨hr1, ⟨⟨⟨r2, r3⟩, r4⟩, r5⟩⟩ := hr
  have wl := px_clink hq (by decide) hr1 hy
  rw [px_y_max] at wl
  intro q' p l e R s m args below meth cd QF base D H locs rls hq' X hk hn hR hS hL hst
  cases hq.symm.trans hq'
  have hts := X.2.2.2.2.1
  have hf := X.2.2.2.2.2.2.2.1
  have h1 := px_ok0_r (hst (0, b) (by simp))
  have h2 := px_ok0_r (hst (0, a) (by simp))
  have r6 : 1 ≤ q.2.2.2.2.getD 1 0 := by have : (0 : Nat) + 1 ≤ q.2.2.2.2.getD 1 0 := r4; omega
  have r7 : 21 ≤ q.2.2.2.2.getD 2 0 := r5
  refine va_mmax X.1 X.2.1 (by rw [X.2.2.1]; exact hL.2.1.symm) X.2.2.2.1 (hts _ wl) (hts _ px_w_stmax) (hts _ px_w_mi) (hts _ px_w_cdmax) (Nat.le_trans r6 hf.1) ?_ (by rw [X.2.2.2.2.2.2.1.1]; exact hk) (by rw [X.2.2.2.2.2.2.1.2]; exact hn) hd ?_
  · rw [px_cats_eq]; have := hf.2; omega
  · have ee : (if Int32.ofInt a < Int32.ofInt b then Int32.ofInt b else Int32.ofInt a) = Int32.ofInt (max a b) := by
      by_cases hab : a < b
      · rw [if_pos ((px_lt32 h2 h1).mpr hab), show max a b = b by omega]
      · rw [if_neg (fun hc => hab ((px_lt32 h2 h1).mp hc)), show max a b = a by omega]
    rw [ee]
    exact h q p l e R s m args below meth cd QF base D H locs rls hq X hk hn hR hS hL (px_oc (px_ok0 (by unfold px_in32 at *; omega)) (fun y hy => hst y (by simp [hy])))
theorem pi_min (hq : px_MT[z]? = some q) {idx na c j : Nat} (hd : decode q.2.1 pc = .ok (.invokestatic idx, 3)) (hr : px_rchk q pc (.invokestatic idx) [308, na, c, j] = true) {a b : Int} (hcat : px_cats st ≤ 8) (h : px_WP z mc ms Q (pc + 3) ls ((1, min a b) :: st) L M k n) : px_WP z mc ms Q pc ls ((1, b) :: (1, a) :: st) L M k n := by
  have hy : px_MT[308]? = some px_m_308 := rfl
  dsimp only [px_rchk] at hr
  rw [hy] at hr
  simp only [Bool.and_eq_true, decide_eq_true_eq] at hr
  obtain ⟨hr1, ⟨⟨⟨r2, r3⟩, r4⟩, r5⟩⟩ := hr
  have wl := px_clink hq (by decide) hr1 hy
  rw [px_y_min] at wl
  intro q' p l e R s m args below meth cd QF base D H locs rls hq' X hk hn hR hS hL hst
  cases hq.symm.trans hq'
  have hts := X.2.2.2.2.1
  have hf := X.2.2.2.2.2.2.2.1
  have h1 := px_ok1_r (hst (1, b) (by simp))
  have h2 := px_ok1_r (hst (1, a) (by simp))
  have r6 : 1 ≤ q.2.2.2.2.getD 1 0 := by have : (0 : Nat) + 1 ≤ q.2.2.2.2.getD 1 0 := r4; omega
  have r7 : 23 ≤ q.2.2.2.2.getD 2 0 := r5
  refine va_mmin_long X.1 X.2.1 (by rw [X.2.2.1]; exact hL.2.1.symm) X.2.2.2.1 (hts _ wl) (hts _ px_w_stmin) (hts _ px_w_mi) (hts _ px_w_cdmin) (Nat.le_trans r6 hf.1) ?_ (by rw [X.2.2.2.2.2.2.1.1]; exact hk) (by rw [X.2.2.2.2.2.2.1.2]; exact hn) hd ?_
  · rw [px_cats_eq]; have := hf.2; omega
  · have ee : (if Int64.ofInt b < Int64.ofInt a then Int64.ofInt b else Int64.ofInt a) = Int64.ofInt (min a b) := by
      by_cases hab : b < a
      · rw [if_pos (by rw [Int64.lt_iff_toInt_lt, px_t64 h1, px_t64 h2]; exact hab), show min a b = b by omega]
      · rw [if_neg (by rw [Int64.lt_iff_toInt_lt, px_t64 h1, px_t64 h2]; exact hab), show min a b = a by omega]
    rw [ee]
    exact h q p l e R s m args below meth cd QF base D H locs rls hq X hk hn hR hS hL (px_oc (px_ok1 (by unfold px_in64 at *; omega)) (fun y hy => hst y (by simp [hy])))
end PE
/-! the step -/
abbrev px_KT : Type := Nat → List pv → List pv → px_lay → px_mem → Nat → Nat → Prop
abbrev px_CT : Type := Nat → List pv → px_lay → px_mem → (Option pv → px_mem → Prop) → Prop
def px_p1 (st : List pv) (t : Nat) (f : Int → List pv → Prop) : Prop := match st with
  | (u, a) :: s => u = t ∧ f a s
  | [] => False
def px_p2 (st : List pv) (t1 t2 : Nat) (f : Int → Int → List pv → Prop) : Prop := match st with
  | (u, a) :: (w, b) :: s => (u = t1 ∧ w = t2) ∧ f a b s
  | _ => False
def px_p3 (st : List pv) (t1 t2 t3 : Nat) (f : Int → Int → Int → List pv → Prop) : Prop := match st with
  | (u, a) :: (w, b) :: (x, c) :: s => (u = t1 ∧ w = t2 ∧ x = t3) ∧ f a b c s
  | _ => False
def px_ll (ls : List pv) (i t : Nat) (f : Int → Prop) : Prop := (px_lg ls i).1 = t ∧ f (px_lg ls i).2
def px_r1 (r : List Nat) (f : Nat → Prop) : Prop := match r with
  | [a] => f a
  | _ => False
def px_r2 (r : List Nat) (f : Nat → Prop) : Prop := match r with
  | [a, _] => f a
  | _ => False
def px_r5 (r : List Nat) (f : Nat → Nat → Nat → Prop) : Prop := match r with
  | [a, b, c, _, _] => f a b c
  | _ => False
def px_r4 (r : List Nat) (f : Nat → Nat → Nat → Prop) : Prop := match r with
  | [a, b, c, _] => f a b c
  | _ => False
def px_pop : Nat → List pv → List pv → (List pv → List pv → Prop) → Prop
  | 0, acc, st, f => f acc st
  | n + 1, acc, x :: st, f => px_pop n (x :: acc) st f
  | _ + 1, _, [], _ => False
theorem px_pop_spec {n : Nat} {acc st : List pv} {f : List pv → List pv → Prop} (h : px_pop n acc st f) : ∃ as rest, as.length = n ∧ st = as.reverse ++ rest ∧ f (as ++ acc) rest := by
  induction n generalizing acc st with
  | zero => exact ⟨[], st, rfl, rfl, h⟩
  | succ n ih => cases st with
    | nil => exact h.elim
    | cons x st =>
      obtain ⟨as, rest, h1, h2, h3⟩ := ih (acc := x :: acc) h
      refine ⟨as ++ [x], rest, by simp [h1], by simp [h2], by simpa using h3⟩
def px_k (K : px_KT) (nx : Nat) (ls s : List pv) (L : px_lay) (k n : Nat) : Option pv → px_mem → Prop
  | none, M => K nx ls s L M k n
  | some x, M => K nx ls (x :: s) L M k n
theorem px_k_eq (K : px_KT) (nx : Nat) (ls s : List pv) (L : px_lay) (k n : Nat) (r : Option pv) (M : px_mem) : px_k K nx ls s L k n r M = K nx ls (r.toList ++ s) L M k n := by cases r <;> rfl
def px_k3 (K : px_KT) (nx : Nat) (ls s : List pv) (k n : Nat) : Option pv → px_lay → px_mem → Prop
  | none, L, M => K nx ls s L M k n
  | some x, L, M => K nx ls (x :: s) L M k n
theorem px_k3_eq (K : px_KT) (nx : Nat) (ls s : List pv) (k n : Nat) (r : Option pv) (L : px_lay) (M : px_mem) : px_k3 K nx ls s k n r L M = K nx ls (r.toList ++ s) L M k n := by cases r <;> rfl
def px_br (P A B : Prop) : Prop := (P → A) ∧ (¬ P → B)
def px_step (C : px_CT) (R : Option pv → px_lay → px_mem → Nat → Nat → Prop) (mc ms : Nat) (K : px_KT) (nx : Nat) (i : Instr) (r : List Nat) (ls st : List pv) (L : px_lay) (M : px_mem) (k n : Nat) : Prop := match i with
  | .iconst v => K nx ls ((0, v) :: st) L M k n
  | .bipush v => K nx ls ((0, v) :: st) L M k n
  | .sipush v => K nx ls ((0, v) :: st) L M k n
  | .lconst v => K nx ls ((1, ((v : Nat) : Int)) :: st) L M k n
  | .aconst_null => K nx ls ((2, 0) :: st) L M k n
  | .ldc _ => px_r2 r fun v => K nx ls ((0, (v : Int)) :: st) L M k n
  | .ldc_w _ => px_r2 r fun v => K nx ls ((0, (v : Int)) :: st) L M k n
  | .ldc2_w _ => px_r2 r fun v => K nx ls ((1, (v : Int)) :: st) L M k n
  | .iload i => px_ll ls i 0 fun v => K nx ls ((0, v) :: st) L M k n
  | .iload_n i => px_ll ls i 0 fun v => K nx ls ((0, v) :: st) L M k n
  | .lload i => px_ll ls i 1 fun v => K nx ls ((1, v) :: st) L M k n
  | .lload_n i => px_ll ls i 1 fun v => K nx ls ((1, v) :: st) L M k n
  | .aload i => px_ll ls i 2 fun v => K nx ls ((2, v) :: st) L M k n
  | .aload_n i => px_ll ls i 2 fun v => K nx ls ((2, v) :: st) L M k n
  | .istore i => px_p1 st 0 fun v s => K nx (px_st1 ls i (0, v)) s L M k n
  | .istore_n i => px_p1 st 0 fun v s => K nx (px_st1 ls i (0, v)) s L M k n
  | .lstore i => px_p1 st 1 fun v s => K nx (px_st2 ls i (1, v)) s L M k n
  | .lstore_n i => px_p1 st 1 fun v s => K nx (px_st2 ls i (1, v)) s L M k n
  | .astore i => px_p1 st 2 fun v s => K nx (px_st1 ls i (2, v)) s L M k n
  | .astore_n i => px_p1 st 2 fun v s => K nx (px_st1 ls i (2, v)) s L M k n
  | .iinc i d => px_ll ls i 0 fun v => px_in32 (v + d) ∧ K nx (px_st1 ls i (0, v + d)) st L M k n
  | .iadd => px_p2 st 0 0 fun b a s => px_in32 (a + b) ∧ K nx ls ((0, a + b) :: s) L M k n
  | .isub => px_p2 st 0 0 fun b a s => px_in32 (a - b) ∧ K nx ls ((0, a - b) :: s) L M k n
  | .imul => px_p2 st 0 0 fun b a s => px_in32 (a * b) ∧ K nx ls ((0, a * b) :: s) L M k n
  | .idiv => px_p2 st 0 0 fun b a s => (0 ≤ a ∧ 0 < b) ∧ K nx ls ((0, a / b) :: s) L M k n
  | .irem => px_p2 st 0 0 fun b a s => (0 ≤ a ∧ 0 < b) ∧ K nx ls ((0, a % b) :: s) L M k n
  | .iand => px_p2 st 0 0 fun b a s => K nx ls ((0, px_iand a b) :: s) L M k n
  | .ior => px_p2 st 0 0 fun b a s => K nx ls ((0, px_ior a b) :: s) L M k n
  | .ixor => px_p2 st 0 0 fun b a s => K nx ls ((0, px_ixor a b) :: s) L M k n
  | .ishl => px_p2 st 0 0 fun b a s => K nx ls ((0, px_ishl a b) :: s) L M k n
  | .ishr => px_p2 st 0 0 fun b a s => K nx ls ((0, px_ishr a b) :: s) L M k n
  | .iushr => px_p2 st 0 0 fun b a s => K nx ls ((0, px_iushr a b) :: s) L M k n
  | .land => px_p2 st 1 1 fun b a s => K nx ls ((1, px_land a b) :: s) L M k n
  | .lor => px_p2 st 1 1 fun b a s => K nx ls ((1, px_lor a b) :: s) L M k n
  | .lshl => px_p2 st 0 1 fun b a s => K nx ls ((1, px_lshl a b) :: s) L M k n
  | .lushr => px_p2 st 0 1 fun b a s => K nx ls ((1, px_lushr a b) :: s) L M k n
  | .lcmp => px_p2 st 1 1 fun b a s => K nx ls ((0, px_lcmp a b) :: s) L M k n
  | .l2i => px_p1 st 1 fun a s => K nx ls ((0, px_l2i a) :: s) L M k n
  | .i2l => px_p1 st 0 fun a s => K nx ls ((1, a) :: s) L M k n
  | .i2b => px_p1 st 0 fun a s => K nx ls ((0, px_i2b a) :: s) L M k n
  | .dup => (match st with | (t, a) :: s => t ≠ 1 ∧ K nx ls ((t, a) :: (t, a) :: s) L M k n | [] => False)
  | .dup2 => (match st with | (t, a) :: (u, b) :: s => (t ≠ 1 ∧ u ≠ 1) ∧ K nx ls ((t, a) :: (u, b) :: (t, a) :: (u, b) :: s) L M k n | _ => False)
  | .pop => (match st with | (t, _) :: s => t ≠ 1 ∧ K nx ls s L M k n | [] => False)
  | .goto _ => px_r1 r fun t => K t ls st L M k n
  | .if_icmp c _ => px_r1 r fun t => px_p2 st 0 0 fun b a s => (match c with
    | .eq => px_br (a = b) (K t ls s L M k n) (K nx ls s L M k n)
    | .ne => px_br (a = b) (K nx ls s L M k n) (K t ls s L M k n)
    | .lt => px_br (a < b) (K t ls s L M k n) (K nx ls s L M k n)
    | .ge => px_br (b ≤ a) (K t ls s L M k n) (K nx ls s L M k n)
    | .gt => px_br (b < a) (K t ls s L M k n) (K nx ls s L M k n)
    | .le => px_br (a ≤ b) (K t ls s L M k n) (K nx ls s L M k n))
  | .ifCond c _ => px_r1 r fun t => px_p1 st 0 fun a s => (match c with
    | .eq => px_br (a = 0) (K t ls s L M k n) (K nx ls s L M k n)
    | .ne => px_br (a = 0) (K nx ls s L M k n) (K t ls s L M k n)
    | .lt => px_br (a < 0) (K t ls s L M k n) (K nx ls s L M k n)
    | .ge => px_br (0 ≤ a) (K t ls s L M k n) (K nx ls s L M k n)
    | .gt => px_br (0 < a) (K t ls s L M k n) (K nx ls s L M k n)
    | .le => px_br (a ≤ 0) (K t ls s L M k n) (K nx ls s L M k n))
  | .if_acmp c _ => px_r1 r fun t => px_p2 st 2 2 fun b a s => (match c with
    | .eq => px_br (a = b) (K t ls s L M k n) (K nx ls s L M k n)
    | _ => False)
  | .ifnull _ => px_r1 r fun t => px_p1 st 2 fun a s => px_br (a = 0) (K t ls s L M k n) (K nx ls s L M k n)
  | .ifnonnull _ => px_r1 r fun t => px_p1 st 2 fun a s => px_br (a = 0) (K nx ls s L M k n) (K t ls s L M k n)
  | .tableswitch .. => (match r with | t :: ts => px_p1 st 0 fun x s => px_tsw x (fun t => K t ls s L M k n) 0 ts ∧ (x < 0 ∨ (ts.length : Int) ≤ x → K t ls s L M k n) | [] => False)
  | .lookupswitch .. => (match r with | t :: ts => px_p1 st 0 fun x s => px_lsw x (fun t => K t ls s L M k n) t ts | [] => False)
  | .getfield _ => px_r5 r fun c f t => px_p1 st 2 fun v s => px_kd L v = 10 + c ∧ K nx ls ((px_stk t, px_gf L M v f) :: s) L M k n
  | .putfield _ => px_r5 r fun c f t => px_p2 st (px_stk t) 2 fun x v s => (px_kd L v = 10 + c ∧ px_dy L v f ∧ (t = 4 → x = 0 ∨ x = 1) ∧ t ≠ 3) ∧ K nx ls s L (px_up M v f x) k n
  | .iaload => px_p2 st 0 2 fun j v s => (px_kd L v = 0 ∧ 0 ≤ j ∧ j < px_ln L v) ∧ K nx ls ((0, M v j) :: s) L M k n
  | .laload => px_p2 st 0 2 fun j v s => (px_kd L v = 1 ∧ 0 ≤ j ∧ j < px_ln L v) ∧ K nx ls ((1, M v j) :: s) L M k n
  | .baload => px_p2 st 0 2 fun j v s => ((px_kd L v = 2 ∨ px_kd L v = 3) ∧ 0 ≤ j ∧ j < px_ln L v) ∧ K nx ls ((0, M v j) :: s) L M k n
  | .aaload => px_p2 st 0 2 fun j v s => ((px_kd L v = 4 ∨ px_kd L v = 5) ∧ 0 ≤ j ∧ j < px_ln L v) ∧ K nx ls ((2, px_gf L M v j) :: s) L M k n
  | .iastore => px_p3 st 0 0 2 fun x j v s => (px_kd L v = 0 ∧ 0 ≤ j ∧ j < px_ln L v) ∧ K nx ls s L (px_up M v j x) k n
  | .lastore => px_p3 st 1 0 2 fun x j v s => (px_kd L v = 1 ∧ 0 ≤ j ∧ j < px_ln L v) ∧ K nx ls s L (px_up M v j x) k n
  | .bastore => px_p3 st 0 0 2 fun x j v s => (((px_kd L v = 2 ∧ -128 ≤ x ∧ x < 128) ∨ (px_kd L v = 3 ∧ (x = 0 ∨ x = 1))) ∧ 0 ≤ j ∧ j < px_ln L v) ∧ K nx ls s L (px_up M v j x) k n
  | .aastore => px_p3 st 2 0 2 fun x j v s => (((px_kd L v = 4 ∧ px_kd L x = 0) ∨ (px_kd L v = 5 ∧ px_kd L x = 12)) ∧ px_dy L v j ∧ 0 ≤ j ∧ j < px_ln L v) ∧ K nx ls s L (px_up M v j x) k n
  | .arraylength => px_p1 st 2 fun v s => (px_kd L v < 10 ∧ px_in32 (px_ln L v)) ∧ K nx ls ((0, px_ln L v) :: s) L M k n
  | .new _ => (match r with | [c, N, _] => (k + 1 ≤ mc ∧ n + N ≤ ms) ∧ K nx ls ((2, (L.length : Int) + 1) :: st) (L ++ [(10 + c, N, [])]) (px_nw M ((L.length : Int) + 1)) (k + 1) (n + N) | _ => False)
  | .newarray _ => px_r1 r fun kd => px_p1 st 0 fun N s => (0 ≤ N ∧ N < 65536 ∧ k + 1 ≤ mc ∧ n + N.toNat ≤ ms) ∧ K nx ls ((2, (L.length : Int) + 1) :: s) (L ++ [(kd, N.toNat, [])]) (px_nw M ((L.length : Int) + 1)) (k + 1) (n + N.toNat)
  | .anewarray _ => px_r1 r fun _ => px_p1 st 0 fun N s => (0 ≤ N ∧ N < 65536 ∧ k + 1 ≤ mc ∧ n + N.toNat ≤ ms) ∧ K nx ls ((2, (L.length : Int) + 1) :: s) (L ++ [(5, N.toNat, [])]) (px_nw M ((L.length : Int) + 1)) (k + 1) (n + N.toNat)
  | .multianewarray _ _ => px_r1 r fun _ => px_p2 st 0 0 fun K' N s => (0 ≤ N ∧ N < 4096 ∧ 0 ≤ K' ∧ K' < 4096 ∧ k + 1 + N.toNat ≤ mc ∧ n + N.toNat + N.toNat * K'.toNat ≤ ms) ∧ K nx ls ((2, (L.length : Int) + 1) :: s) (L ++ (4, N.toNat, []) :: List.replicate N.toNat (0, K'.toNat, [])) (px_nw2 M ((L.length : Int) + 1) N) (k + 1 + N.toNat) (n + N.toNat + N.toNat * K'.toNat)
  | .invokevirtual _ => px_r4 r fun z na c => px_pop na [] st fun as rest => px_p1 rest 2 fun v s => (px_kd L v = 10 + c ∧ z ≠ 307 ∧ z ≠ 308 ∧ z ≠ 9999 ∧ px_cats s ≤ 8) ∧ C z ((2, v) :: as) L M (px_k K nx ls s L k n)
  | .invokestatic _ => px_r4 r fun z na _ => if z = 307 then px_p2 st 0 0 fun b a s => px_cats s ≤ 8 ∧ K nx ls ((0, max a b) :: s) L M k n else if z = 308 then px_p2 st 1 1 fun b a s => px_cats s ≤ 8 ∧ K nx ls ((1, min a b) :: s) L M k n else
      px_pop na [] st fun as s => (z ≠ 9999 ∧ px_cats s ≤ 8) ∧ C z as L M (px_k K nx ls s L k n)
  | .invokespecial _ => px_r4 r fun z na _ => if z = 9999 then px_p1 st 2 fun v s => (0 < v ∧ na = 0 ∧ px_cats s ≤ 8) ∧ K nx ls s L M k n else
      px_pop na [] st fun as rest => px_p1 rest 2 fun v s => (0 < v ∧ z ≠ 307 ∧ z ≠ 308 ∧ px_cats s ≤ 8) ∧ ∃ mc' ms', (k + mc' ≤ mc ∧ n + ms' ≤ ms) ∧ px_Okg z ((2, v) :: as) L M mc' ms' (px_k3 K nx ls s (k + mc') (n + ms'))
  | .ireturn => px_r1 r fun t => (match st with | [(u, v)] => u = 0 ∧ (t = 4 → v = 0 ∨ v = 1) ∧ R (some (0, v)) L M k n | _ => False)
  | .lreturn => (match st with | [(u, v)] => u = 1 ∧ R (some (1, v)) L M k n | _ => False)
  | .areturn => (match st with | [(u, v)] => u = 2 ∧ R (some (2, v)) L M k n | _ => False)
  | .return_ => (match st with | [] => R none L M k n | _ => False)
  | _ => False
