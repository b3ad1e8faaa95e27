/-! THE PURE MACHINE: values are (kind, whole number): kinds 0 int, 1 long, 2 reference (0 null, a the a-th cell made), 9 nothing known -/
abbrev pv : Type := Nat × Int
/-- a cell's kind (0 int[], 1 long[], 2 byte[], 3 boolean[], 4 int[][], 5 Edition[], 10 + c an object of class c of vwCl), its size, references that never change -/
abbrev px_lay : Type := List (Nat × Nat × List Int)
abbrev px_mem : Type := Int → Int → Int
/-- an instruction: its place, the next one, its length, (at a cut) which locals live on, itself, what it links to -/
abbrev px_e : Type := Nat × Nat × Nat × List Nat × Instr × List Nat
def px_il : Instr → Nat
  | .aload _ | .iload _ | .lload _ | .astore _ | .istore _ | .lstore _ | .bipush _ | .newarray _ | .ldc _ => 2
  | .sipush _ | .iinc _ _ | .ifCond _ _ | .if_icmp _ _ | .if_acmp _ _ | .ifnull _ | .ifnonnull _ | .goto _ | .getfield _ | .putfield _ | .invokevirtual _ | .invokestatic _ | .invokespecial _ | .new _ | .anewarray _ | .ldc_w _ | .ldc2_w _ => 3
  | .multianewarray _ _ => 4
  | _ => 1
def px_ftag (c k : Nat) : Nat := match px_TY[c]? with
  | some f => match f k with
    | .int => 0
    | .long => 1
    | .byte => 3
    | .boolean => 4
    | _ => 2
  | none => 2
def px_tgt (pc : Nat) (off : Int) (t : Nat) : Bool := decide ((pc : Int) + off = (t : Int))
def px_tgts (pc : Nat) : List Int → List Nat → Bool
  | [], [] => true
  | o :: os, t :: ts => px_tgt pc o t && px_tgts pc os ts
  | _, _ => false
def px_lks (pc : Nat) : List (Int × Int) → List Nat → Bool
  | [], [] => true
  | (a, o) :: os, b :: t :: ts => decide (a = (b : Int)) && px_tgt pc o t && px_lks pc os ts
  | _, _ => false
/-- what the links say is what the tables say -/
def px_rchk (q : px_M) (pc : Nat) : Instr → List Nat → Bool
  | .goto off, [t] => px_tgt pc off t
  | .ifCond _ off, [t] => px_tgt pc off t
  | .if_icmp _ off, [t] => px_tgt pc off t
  | .if_acmp _ off, [t] => px_tgt pc off t
  | .ifnull off, [t] => px_tgt pc off t
  | .ifnonnull off, [t] => px_tgt pc off t
  | .tableswitch d lo hi offs, t :: ts => decide (lo = 0) && decide (hi + 1 = (offs.size : Int)) && px_tgt pc d t && px_tgts pc offs.toList ts
  | .lookupswitch d ps, t :: ts => px_tgt pc d t && px_lks pc ps.toList ts && (ps.toList.zip (ps.toList.drop 1)).all (fun (a, next) => decide (a.1 < next.1))
  | .getfield idx, [c, k, t, fin, j] => decide (px_FR[j]?.map (fun e => (e.1, e.2.1, e.2.2.1, e.2.2.2.1)) = some (q.2.2.2.2.getD 0 0, idx, c, k)) && decide (px_ftag c k = t) && decide (fin < 2)
  | .putfield idx, [c, k, t, fin, j] => decide (px_FR[j]?.map (fun e => (e.1, e.2.1, e.2.2.1, e.2.2.2.1)) = some (q.2.2.2.2.getD 0 0, idx, c, k)) && decide (px_ftag c k = t) &&
      (match vwCl[c]? with | some r => ((!(r.2.1 k).2.2.2 && decide (fin = 0)) || ((r.2.1 k).2.2.2 && decide (fin = 1) && decide (q.2.2.2.2.getD 3 0 = 2) && decide (px_OW[c]? = some (q.2.2.2.2.getD 0 0)))) | none => false)
  | .invokevirtual idx, [z, na, c, j] => decide (px_CR[j]?.map (fun e => (e.1, e.2.1, e.2.2.1, e.2.2.2.1, e.2.2.2.2.1)) = some (q.2.2.2.2.getD 0 0, idx, z, na, 0)) &&
      (match px_MT[z]? with | some y => decide (px_OW[c]? = some (y.2.2.2.2.getD 0 0)) && decide (y.2.2.2.2.getD 3 0 = 0) && decide (y.2.2.2.2.getD 4 0 = na) && decide (y.2.2.2.2.getD 1 0 + 1 ≤ q.2.2.2.2.getD 1 0) && decide (8 + (y.2.2.1 + 11) + y.2.2.2.2.getD 2 0 ≤ q.2.2.2.2.getD 2 0) | _ => false)
  | .invokestatic idx, [z, na, _, j] => decide (px_CR[j]?.map (fun e => (e.1, e.2.1, e.2.2.1, e.2.2.2.1, e.2.2.2.2.1)) = some (q.2.2.2.2.getD 0 0, idx, z, na, 0)) &&
      (match px_MT[z]? with | some y => decide (y.2.2.2.2.getD 3 0 = 1) && decide (y.2.2.2.2.getD 4 0 = na) && decide (y.2.2.2.2.getD 1 0 + 1 ≤ q.2.2.2.2.getD 1 0) && decide (8 + (y.2.2.1 + 11) + y.2.2.2.2.getD 2 0 ≤ q.2.2.2.2.getD 2 0) | _ => false)
  | .invokespecial idx, [z, na, c, j] =>
      if z = 9999 then decide (px_CR[j]?.map (fun e => (e.1, e.2.1, e.2.2.1, e.2.2.2.1, e.2.2.2.2.1)) = some (q.2.2.2.2.getD 0 0, idx, 9999, 0, 0)) && decide (na = 0) && decide (1 ≤ q.2.2.2.2.getD 1 0) && decide (20 ≤ q.2.2.2.2.getD 2 0)
      else (match px_MT[z]?, px_CR[j]? with | some y, some e => decide (e.1 = q.2.2.2.2.getD 0 0) && decide (e.2.1 = idx) && decide (e.2.2.1 = z) && decide (e.2.2.2.1 = na) && decide (px_OW[c]? = some (y.2.2.2.2.getD 0 0)) && decide (y.2.2.2.1 = none) && decide (y.2.2.2.2.getD 3 0 = 2) && decide (y.2.2.2.2.getD 4 0 = na) && decide (y.2.2.2.2.getD 1 0 + 1 ≤ q.2.2.2.2.getD 1 0) && decide (8 + (y.2.2.1 + 11) + y.2.2.2.2.getD 2 0 ≤ q.2.2.2.2.getD 2 0) | _, _ => false)
  | .ldc idx, [v, j] => decide (px_KR[j]?.map (fun e => (e.1, e.2.1, e.2.2.1, e.2.2.2.2)) = some (q.2.2.2.2.getD 0 0, idx, v, 0)) && decide (v < 2147483648)
  | .ldc_w idx, [v, j] => decide (px_KR[j]?.map (fun e => (e.1, e.2.1, e.2.2.1, e.2.2.2.2)) = some (q.2.2.2.2.getD 0 0, idx, v, 0)) && decide (v < 2147483648)
  | .ldc2_w idx, [v, j] => decide (px_KR[j]?.map (fun e => (e.1, e.2.1, e.2.2.1, e.2.2.2.2)) = some (q.2.2.2.2.getD 0 0, idx, v, 1)) && decide (v < 9223372036854775808)
  | .new idx, [c, N, j] => decide (px_NR[j]?.map (fun e => (e.1, e.2.1, e.2.2.1, e.2.2.2.1)) = some (q.2.2.2.2.getD 0 0, idx, c, N)) && decide (vwCl[c]?.map (fun r => r.2.2) = some N)
  | .newarray t, [k] => decide ((t = .int ∧ k = 0) ∨ (t = .long ∧ k = 1) ∨ (t = .byte ∧ k = 2) ∨ (t = .boolean ∧ k = 3))
  | .anewarray idx, [p] => decide (lw_tbl[p]? = some (.classLink q.1.cls idx "EditionVault$Edition"))
  | .multianewarray idx d, [p] => decide (d = 2) && decide (lw_tbl[p]? = some (.classLink q.1.cls idx ("[" ++ (FieldType.array FieldType.int).toString)))
  | .ireturn, [t] => decide ((t = 0 ∧ q.2.2.2.1 = some .int) ∨ (t = 4 ∧ q.2.2.2.1 = some .boolean))
  | .lreturn, [] => decide (q.2.2.2.1 = some .long)
  | .return_, [] => decide (q.2.2.2.1 = none)
  | .areturn, [] => (match q.2.2.2.1 with | some (.object _) => true | some (.array _) => true | _ => false)
  | .iconst v, [] => decide (-128 ≤ v ∧ v < 128)
  | .bipush v, [] => decide (-128 ≤ v ∧ v < 128)
  | .sipush v, [] => decide (-32768 ≤ v ∧ v < 32768)
  | .iinc i v, [] => decide (i < q.2.2.1 ∧ -32768 ≤ v ∧ v < 32768)
  | .istore i, [] => decide (i < q.2.2.1)
  | .astore i, [] => decide (i < q.2.2.1)
  | .lstore i, [] => decide (i + 1 < q.2.2.1)
  | .istore_n i, [] => decide ((i : Nat) < q.2.2.1)
  | .astore_n i, [] => decide ((i : Nat) < q.2.2.1)
  | .lstore_n i, [] => decide ((i : Nat) + 1 < q.2.2.1)
  | _, [] => true
  | _, _ => false
def px_chk (q : px_M) (cd : List px_e) : Bool := cd.all fun en => decide (decode q.2.1 en.1 = .ok (en.2.2.2.2.1, en.2.2.1)) && decide (en.1 + en.2.2.1 = en.2.1) &&
  (match en.2.2.2.2.1 with | .tableswitch .. => true | .lookupswitch .. => true | i => decide (en.2.2.1 = px_il i)) && px_rchk q en.1 en.2.2.2.2.1 en.2.2.2.2.2
theorem px_chk_cut (n k : Nat) (q : px_M) (cd : List px_e) (h : px_chk q ((cd.drop k).take n) = true) (h2 : px_chk q (cd.drop (k + n)) = true) : px_chk q (cd.drop k) = true := by
  have e : cd.drop k = (cd.drop k).take n ++ cd.drop (k + n) := by rw [← List.drop_drop, List.take_append_drop]
  rw [e]
  unfold px_chk at h h2 ⊢
  rw [List.all_append, h, h2]
  rfl
theorem px_chk_end (q : px_M) (cd : List px_e) (k : Nat) (h : decide (cd.length ≤ k) = true) : px_chk q (cd.drop k) = true := by
  rw [List.drop_eq_nil_of_le (of_decide_eq_true h)]
  rfl
def px_find : List px_e → Nat → Option (Nat × List Nat × Instr × List Nat)
  | [], _ => none
  | (q, nx, _, hm, i, r) :: t, pc => if q = pc then some (nx, hm, i, r) else px_find t pc
