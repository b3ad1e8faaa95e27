/-! the steps tell the real ones -/
theorem px_p1_spec {st : List pv} {t : Nat} {f : Int → List pv → Prop} (h : px_p1 st t f) : ∃ a s, st = (t, a) :: s ∧ f a s := by
  match st, h with
  | (u, a) :: s, h => exact ⟨a, s, by rw [← h.1], h.2⟩
theorem px_p2_spec {st : List pv} {t1 t2 : Nat} {f : Int → Int → List pv → Prop} (h : px_p2 st t1 t2 f) : ∃ a b s, st = (t1, a) :: (t2, b) :: s ∧ f a b s := by
  match st, h with
  | (u, a) :: (w, b) :: s, h => exact ⟨a, b, s, by rw [← h.1.1, ← h.1.2], h.2⟩
theorem px_p3_spec {st : List pv} {t1 t2 t3 : Nat} {f : Int → Int → Int → List pv → Prop} (h : px_p3 st t1 t2 t3 f) : ∃ a b c s, st = (t1, a) :: (t2, b) :: (t3, c) :: s ∧ f a b c s := by
  match st, h with
  | (u, a) :: (w, b) :: (x, c) :: s, h => exact ⟨a, b, c, s, by rw [← h.1.1, ← h.1.2.1, ← h.1.2.2], h.2⟩
theorem px_ll_spec {ls : List pv} {i t : Nat} {f : Int → Prop} (h : px_ll ls i t f) : ∃ v, px_lg ls i = (t, v) ∧ f v := by
  obtain ⟨h1, h2⟩ := h
  exact ⟨(px_lg ls i).2, by rw [← h1], h2⟩
theorem px_r1_spec {r : List Nat} {f : Nat → Prop} (h : px_r1 r f) : ∃ a, r = [a] ∧ f a := by
  match r, h with
  | [a], h => exact ⟨a, rfl, h⟩
theorem px_r2_spec {r : List Nat} {f : Nat → Prop} (h : px_r2 r f) : ∃ a b, r = [a, b] ∧ f a := by
  match r, h with
  | [a, b], h => exact ⟨a, b, rfl, h⟩
theorem px_r4_spec {r : List Nat} {f : Nat → Nat → Nat → Prop} (h : px_r4 r f) : ∃ a b c d, r = [a, b, c, d] ∧ f a b c := by
  match r, h with
  | [a, b, c, d], h => exact ⟨a, b, c, d, rfl, h⟩
theorem px_r5_spec {r : List Nat} {f : Nat → Nat → Nat → Prop} (h : px_r5 r f) : ∃ a b c d e, r = [a, b, c, d, e] ∧ f a b c := by
  match r, h with
  | [a, b, c, d, e], h => exact ⟨a, b, c, d, e, rfl, h⟩
theorem px_find_mem {cd : List px_e} {pc nx : Nat} {hm : List Nat} {i : Instr} {r : List Nat} (h : px_find cd pc = some (nx, hm, i, r)) : ∃ ln, (pc, nx, ln, hm, i, r) ∈ cd := by
  induction cd with
  | nil => cases h
  | cons e cd ih =>
    obtain ⟨a, b, c, d, f, g⟩ := e
    unfold px_find at h
    by_cases ha : a = pc
    · rw [if_pos ha] at h
      subst ha
      cases h
      exact ⟨c, List.mem_cons_self⟩
    · rw [if_neg ha] at h
      obtain ⟨ln, h1⟩ := ih h
      exact ⟨ln, List.mem_cons_of_mem _ h1⟩
def px_isw : Instr → Bool
  | .tableswitch .. => true
  | .lookupswitch .. => true
  | _ => false
theorem px_at_spec {z pc nx : Nat} {hm : List Nat} {i : Instr} {r : List Nat} (h : px_at z pc = some (nx, hm, i, r)) : ∃ q ln, px_MT[z]? = some q ∧ decode q.2.1 pc = .ok (i, ln) ∧ pc + ln = nx ∧ (px_isw i = false → ln = px_il i) ∧ px_rchk q pc i r = true := by
  unfold px_at at h
  cases hp : px_PR[z]? with
  | none => rw [hp] at h; cases h
  | some p =>
    rw [hp] at h
    obtain ⟨ln, hmem⟩ := px_find_mem h
    have hc := px_PR_ok p (List.mem_of_getElem? hp)
    unfold px_chk at hc
    have h2 := List.all_eq_true.mp hc _ hmem
    simp only [Bool.and_eq_true, decide_eq_true_eq] at h2
    obtain ⟨⟨⟨h3, h4⟩, h5⟩, h6⟩ := h2
    refine ⟨p.1, ln, ?_, h3, h4, fun hs => ?_, h6⟩
    · rw [← px_PR_MT, List.getElem?_map, hp]; rfl
    · cases i <;> first | exact of_decide_eq_true h5 | cases hs
theorem px_tsw_mono {x : Int} {F G : Nat → Prop} (hFG : ∀ t, F t → G t) {i : Nat} {ts : List Nat} (h : px_tsw x F i ts) : px_tsw x G i ts := by
  induction ts generalizing i with
  | nil => trivial
  | cons t ts ih => exact ⟨fun c => hFG _ (h.1 c), ih h.2⟩
theorem px_lsw_mono {x : Int} {F G : Nat → Prop} (hFG : ∀ t, F t → G t) {d : Nat} : ∀ {ts : List Nat}, px_lsw x F d ts → px_lsw x G d ts
  | a :: t :: ts, h => ⟨fun c => hFG _ (h.1 c), fun c => px_lsw_mono hFG (h.2 c)⟩
  | [], h => hFG _ h
  | [_], h => hFG _ h
theorem px_WP_kn {z mc ms : Nat} {Q : Option pv → px_lay → px_mem → Nat → Nat → Prop} {pc : Nat} {ls st : List pv} {L : px_lay} {M : px_mem} {k n : Nat} (h : k ≤ mc → n ≤ ms → px_WP z mc ms Q pc ls st L M k n) : px_WP z mc ms Q pc ls st L M k n :=
  fun q p l e R s m args below meth c QF base D H locs rls hq C hk hn => h hk hn q p l e R s m args below meth c QF base D H locs rls hq C hk hn
section PF
variable {z mc ms : Nat} {Q : Option pv → px_lay → px_mem → Nat → Nat → Prop} {C : px_CT} {K : px_KT} {pc nx : Nat} {hm : List Nat} {i : Instr} {r : List Nat} {ls st : List pv} {L : px_lay} {M : px_mem} {k n : Nat}
set_option maxHeartbeats 4000000 in
theorem px_step_ok (HK : ∀ pc ls st L M k n, K pc ls st L M k n → px_WP z mc ms Q pc ls st L M k n) (HC : ∀ z as L M Q', C z as L M Q' → px_Ok z as L M Q') (hat : px_at z pc = some (nx, hm, i, r)) (h : px_step C Q mc ms K nx i r ls st L M k n) : px_WP z mc ms Q pc ls st L M k n := by
  obtain ⟨q, ln, hq, hd, hnx, hln, hr⟩ := px_at_spec hat
  subst hnx
  cases i with
  | iconst v =>
    have hl := hln rfl; subst hl
    dsimp only [px_step] at h
    cases r with
    | nil => exact pi_iconst hq hd hr (HK _ _ _ _ _ _ _ h)
    | cons _ _ => cases hr
  | bipush v =>
    have hl := hln rfl; subst hl
    dsimp only [px_step] at h
    cases r with
    | nil => exact pi_bipush hq hd hr (HK _ _ _ _ _ _ _ h)
    | cons _ _ => cases hr
  | sipush v =>
    have hl := hln rfl; subst hl
    dsimp only [px_step] at h
    cases r with
    | nil => exact pi_sipush hq hd hr (HK _ _ _ _ _ _ _ h)
    | cons _ _ => cases hr
  | lconst v =>
    have hl := hln rfl; subst hl
    dsimp only [px_step] at h
    exact pi_lconst hq hd (HK _ _ _ _ _ _ _ h)
  | aconst_null =>
    have hl := hln rfl; subst hl
    dsimp only [px_step] at h
    exact pi_null hq hd (HK _ _ _ _ _ _ _ h)
  | ldc idx =>
    have hl := hln rfl; subst hl
    dsimp only [px_step] at h
    obtain ⟨a, b, rfl, g1_⟩ := px_r2_spec h
    exact pi_ldc hq hd hr (HK _ _ _ _ _ _ _ g1_)
  | ldc_w idx =>
    have hl := hln rfl; subst hl
    dsimp only [px_step] at h
    obtain ⟨a, b, rfl, g1_⟩ := px_r2_spec h
    exact pi_ldcw hq hd hr (HK _ _ _ _ _ _ _ g1_)
  | ldc2_w idx =>
    have hl := hln rfl; subst hl
    dsimp only [px_step] at h
    obtain ⟨a, b, rfl, g1_⟩ := px_r2_spec h
    exact pi_ldc2 hq hd hr (HK _ _ _ _ _ _ _ g1_)
  | iload j =>
    have hl := hln rfl; subst hl
    dsimp only [px_step] at h
    obtain ⟨v, h1, g1_⟩ := px_ll_spec h
    exact pi_iload hq hd h1 (HK _ _ _ _ _ _ _ g1_)
  | iload_n j =>
    have hl := hln rfl; subst hl
    dsimp only [px_step] at h
    obtain ⟨v, h1, g1_⟩ := px_ll_spec h
    exact pi_iload_n hq hd h1 (HK _ _ _ _ _ _ _ g1_)
  | lload j =>
    have hl := hln rfl; subst hl
    dsimp only [px_step] at h
    obtain ⟨v, h1, g1_⟩ := px_ll_spec h
    exact pi_lload hq hd h1 (HK _ _ _ _ _ _ _ g1_)
  | lload_n j =>
    have hl := hln rfl; subst hl
    dsimp only [px_step] at h
    obtain ⟨v, h1, g1_⟩ := px_ll_spec h
    exact pi_lload_n hq hd h1 (HK _ _ _ _ _ _ _ g1_)
  | aload j =>
    have hl := hln rfl; subst hl
    dsimp only [px_step] at h
    obtain ⟨v, h1, g1_⟩ := px_ll_spec h
    exact pi_aload hq hd h1 (HK _ _ _ _ _ _ _ g1_)
  | aload_n j =>
    have hl := hln rfl; subst hl
    dsimp only [px_step] at h
    obtain ⟨v, h1, g1_⟩ := px_ll_spec h
    exact pi_aload_n hq hd h1 (HK _ _ _ _ _ _ _ g1_)
  | istore j =>
    have hl := hln rfl; subst hl
    dsimp only [px_step] at h
    obtain ⟨v, s, rfl, g1_⟩ := px_p1_spec h
    cases r with
    | nil => exact pi_istore hq hd hr (HK _ _ _ _ _ _ _ g1_)
    | cons _ _ => cases hr
  | istore_n j =>
    have hl := hln rfl; subst hl
    dsimp only [px_step] at h
    obtain ⟨v, s, rfl, g1_⟩ := px_p1_spec h
    cases r with
    | nil => exact pi_istore_n hq hd hr (HK _ _ _ _ _ _ _ g1_)
    | cons _ _ => cases hr
  | lstore j =>
    have hl := hln rfl; subst hl
    dsimp only [px_step] at h
    obtain ⟨v, s, rfl, g1_⟩ := px_p1_spec h
    cases r with
    | nil => exact pi_lstore hq hd hr (HK _ _ _ _ _ _ _ g1_)
    | cons _ _ => cases hr
  | lstore_n j =>
    have hl := hln rfl; subst hl
    dsimp only [px_step] at h
    obtain ⟨v, s, rfl, g1_⟩ := px_p1_spec h
    cases r with
    | nil => exact pi_lstore_n hq hd hr (HK _ _ _ _ _ _ _ g1_)
    | cons _ _ => cases hr
  | astore j =>
    have hl := hln rfl; subst hl
    dsimp only [px_step] at h
    obtain ⟨v, s, rfl, g1_⟩ := px_p1_spec h
    cases r with
    | nil => exact pi_astore hq hd hr (HK _ _ _ _ _ _ _ g1_)
    | cons _ _ => cases hr
  | astore_n j =>
    have hl := hln rfl; subst hl
    dsimp only [px_step] at h
    obtain ⟨v, s, rfl, g1_⟩ := px_p1_spec h
    cases r with
    | nil => exact pi_astore_n hq hd hr (HK _ _ _ _ _ _ _ g1_)
    | cons _ _ => cases hr
  | iinc j d =>
    have hl := hln rfl; subst hl
    dsimp only [px_step] at h
    obtain ⟨v, h1, h2, g1_⟩ := px_ll_spec h
    cases r with
    | nil => exact pi_iinc hq hd hr h1 h2 (HK _ _ _ _ _ _ _ g1_)
    | cons _ _ => cases hr
  | iadd =>
    have hl := hln rfl; subst hl
    dsimp only [px_step] at h
    obtain ⟨b, a, s, rfl, ob, g1_⟩ := px_p2_spec h
    exact pi_iadd hq hd ob (HK _ _ _ _ _ _ _ g1_)
  | isub =>
    have hl := hln rfl; subst hl
    dsimp only [px_step] at h
    obtain ⟨b, a, s, rfl, ob, g1_⟩ := px_p2_spec h
    exact pi_isub hq hd ob (HK _ _ _ _ _ _ _ g1_)
  | imul =>
    have hl := hln rfl; subst hl
    dsimp only [px_step] at h
    obtain ⟨b, a, s, rfl, ob, g1_⟩ := px_p2_spec h
    exact pi_imul hq hd ob (HK _ _ _ _ _ _ _ g1_)
  | idiv =>
    have hl := hln rfl; subst hl
    dsimp only [px_step] at h
    obtain ⟨b, a, s, rfl, ⟨o1, o2⟩, g1_⟩ := px_p2_spec h
    exact pi_idiv hq hd o1 o2 (HK _ _ _ _ _ _ _ g1_)
  | irem =>
    have hl := hln rfl; subst hl
    dsimp only [px_step] at h
    obtain ⟨b, a, s, rfl, ⟨o1, o2⟩, g1_⟩ := px_p2_spec h
    exact pi_irem hq hd o1 o2 (HK _ _ _ _ _ _ _ g1_)
  | iand =>
    have hl := hln rfl; subst hl
    dsimp only [px_step] at h
    obtain ⟨b, a, s, rfl, g1_⟩ := px_p2_spec h
    exact pi_iand hq hd (HK _ _ _ _ _ _ _ g1_)
  | ior =>
    have hl := hln rfl; subst hl
    dsimp only [px_step] at h
    obtain ⟨b, a, s, rfl, g1_⟩ := px_p2_spec h
    exact pi_ior hq hd (HK _ _ _ _ _ _ _ g1_)
  | ixor =>
    have hl := hln rfl; subst hl
    dsimp only [px_step] at h
    obtain ⟨b, a, s, rfl, g1_⟩ := px_p2_spec h
    exact pi_ixor hq hd (HK _ _ _ _ _ _ _ g1_)
  | ishl =>
    have hl := hln rfl; subst hl
    dsimp only [px_step] at h
    obtain ⟨b, a, s, rfl, g1_⟩ := px_p2_spec h
    exact pi_ishl hq hd (HK _ _ _ _ _ _ _ g1_)
  | ishr =>
    have hl := hln rfl; subst hl
    dsimp only [px_step] at h
    obtain ⟨b, a, s, rfl, g1_⟩ := px_p2_spec h
    exact pi_ishr hq hd (HK _ _ _ _ _ _ _ g1_)
  | iushr =>
    have hl := hln rfl; subst hl
    dsimp only [px_step] at h
    obtain ⟨b, a, s, rfl, g1_⟩ := px_p2_spec h
    exact pi_iushr hq hd (HK _ _ _ _ _ _ _ g1_)
  | land =>
    have hl := hln rfl; subst hl
    dsimp only [px_step] at h
    obtain ⟨b, a, s, rfl, g1_⟩ := px_p2_spec h
    exact pi_land hq hd (HK _ _ _ _ _ _ _ g1_)
  | lor =>
    have hl := hln rfl; subst hl
    dsimp only [px_step] at h
    obtain ⟨b, a, s, rfl, g1_⟩ := px_p2_spec h
    exact pi_lor hq hd (HK _ _ _ _ _ _ _ g1_)
  | lshl =>
    have hl := hln rfl; subst hl
    dsimp only [px_step] at h
    obtain ⟨b, a, s, rfl, g1_⟩ := px_p2_spec h
    exact pi_lshl hq hd (HK _ _ _ _ _ _ _ g1_)
  | lushr =>
    have hl := hln rfl; subst hl
    dsimp only [px_step] at h
    obtain ⟨b, a, s, rfl, g1_⟩ := px_p2_spec h
    exact pi_lushr hq hd (HK _ _ _ _ _ _ _ g1_)
  | lcmp =>
    have hl := hln rfl; subst hl
    dsimp only [px_step] at h
    obtain ⟨b, a, s, rfl, g1_⟩ := px_p2_spec h
    exact pi_lcmp hq hd (HK _ _ _ _ _ _ _ g1_)
  | l2i =>
    have hl := hln rfl; subst hl
    dsimp only [px_step] at h
    obtain ⟨a, s, rfl, g1_⟩ := px_p1_spec h
    exact pi_l2i hq hd (HK _ _ _ _ _ _ _ g1_)
  | i2l =>
    have hl := hln rfl; subst hl
    dsimp only [px_step] at h
    obtain ⟨a, s, rfl, g1_⟩ := px_p1_spec h
    exact pi_i2l hq hd (HK _ _ _ _ _ _ _ g1_)
  | i2b =>
    have hl := hln rfl; subst hl
    dsimp only [px_step] at h
    obtain ⟨a, s, rfl, g1_⟩ := px_p1_spec h
    exact pi_i2b hq hd (HK _ _ _ _ _ _ _ g1_)
  | dup =>
    have hl := hln rfl; subst hl
    dsimp only [px_step] at h
    match st, h with
    | (t, a) :: s, h => exact pi_dup hq hd h.1 (HK _ _ _ _ _ _ _ h.2)
  | dup2 =>
    have hl := hln rfl; subst hl
    dsimp only [px_step] at h
    match st, h with
    | (t, a) :: (u, b) :: s, h => exact pi_dup2 hq hd h.1.1 h.1.2 (HK _ _ _ _ _ _ _ h.2)
  | pop =>
    have hl := hln rfl; subst hl
    dsimp only [px_step] at h
    match st, h with
    | (t, a) :: s, h => exact pi_pop hq hd h.1 (HK _ _ _ _ _ _ _ h.2)
  | goto off =>
    have hl := hln rfl; subst hl
    dsimp only [px_step] at h
    obtain ⟨t, rfl, g1_⟩ := px_r1_spec h
    exact pi_goto hq hd hr (HK _ _ _ _ _ _ _ g1_)
  | if_icmp c off =>
    have hl := hln rfl; subst hl
    dsimp only [px_step] at h
    obtain ⟨t, rfl, g1_⟩ := px_r1_spec h
    obtain ⟨b, a, s, rfl, g2_⟩ := px_p2_spec g1_
    cases c with
    | eq => exact pi_icmp_eq hq hd hr (fun c => HK _ _ _ _ _ _ _ (g2_.1 c)) (fun c => HK _ _ _ _ _ _ _ (g2_.2 c))
    | ne => exact pi_icmp_ne hq hd hr (fun c => HK _ _ _ _ _ _ _ (g2_.2 c)) (fun c => HK _ _ _ _ _ _ _ (g2_.1 (Decidable.not_not.mp c)))
    | lt => exact pi_icmp_lt hq hd hr (fun c => HK _ _ _ _ _ _ _ (g2_.1 c)) (fun c => HK _ _ _ _ _ _ _ (g2_.2 c))
    | ge => exact pi_icmp_ge hq hd hr (fun c => HK _ _ _ _ _ _ _ (g2_.1 c)) (fun c => HK _ _ _ _ _ _ _ (g2_.2 c))
    | gt => exact pi_icmp_gt hq hd hr (fun c => HK _ _ _ _ _ _ _ (g2_.1 c)) (fun c => HK _ _ _ _ _ _ _ (g2_.2 c))
    | le => exact pi_icmp_le hq hd hr (fun c => HK _ _ _ _ _ _ _ (g2_.1 c)) (fun c => HK _ _ _ _ _ _ _ (g2_.2 c))
  | ifCond c off =>
    have hl := hln rfl; subst hl
    dsimp only [px_step] at h
    obtain ⟨t, rfl, g1_⟩ := px_r1_spec h
    obtain ⟨a, s, rfl, g2_⟩ := px_p1_spec g1_
    cases c with
    | eq => exact pi_if_eq hq hd hr (fun c => HK _ _ _ _ _ _ _ (g2_.1 c)) (fun c => HK _ _ _ _ _ _ _ (g2_.2 c))
    | ne => exact pi_if_ne hq hd hr (fun c => HK _ _ _ _ _ _ _ (g2_.2 c)) (fun c => HK _ _ _ _ _ _ _ (g2_.1 (Decidable.not_not.mp c)))
    | lt => exact pi_if_lt hq hd hr (fun c => HK _ _ _ _ _ _ _ (g2_.1 c)) (fun c => HK _ _ _ _ _ _ _ (g2_.2 c))
    | ge => exact pi_if_ge hq hd hr (fun c => HK _ _ _ _ _ _ _ (g2_.1 c)) (fun c => HK _ _ _ _ _ _ _ (g2_.2 c))
    | gt => exact pi_if_gt hq hd hr (fun c => HK _ _ _ _ _ _ _ (g2_.1 c)) (fun c => HK _ _ _ _ _ _ _ (g2_.2 c))
    | le => exact pi_if_le hq hd hr (fun c => HK _ _ _ _ _ _ _ (g2_.1 c)) (fun c => HK _ _ _ _ _ _ _ (g2_.2 c))
  | if_acmp c off =>
    have hl := hln rfl; subst hl
    dsimp only [px_step] at h
    obtain ⟨t, rfl, g1_⟩ := px_r1_spec h
    obtain ⟨b, a, s, rfl, g2_⟩ := px_p2_spec g1_
    cases c with
    | eq => exact pi_acmp_eq hq hd hr (fun c => HK _ _ _ _ _ _ _ (g2_.1 c)) (fun c => HK _ _ _ _ _ _ _ (g2_.2 c))
    | ne => exact g2_.elim
  | ifnull off =>
    have hl := hln rfl; subst hl
    dsimp only [px_step] at h
    obtain ⟨t, rfl, g1_⟩ := px_r1_spec h
    obtain ⟨a, s, rfl, g2_⟩ := px_p1_spec g1_
    exact pi_ifnull hq hd hr (fun c => HK _ _ _ _ _ _ _ (g2_.1 c)) (fun c => HK _ _ _ _ _ _ _ (g2_.2 c))
  | ifnonnull off =>
    have hl := hln rfl; subst hl
    dsimp only [px_step] at h
    obtain ⟨t, rfl, g1_⟩ := px_r1_spec h
    obtain ⟨a, s, rfl, g2_⟩ := px_p1_spec g1_
    exact pi_ifnonnull hq hd hr (fun c => HK _ _ _ _ _ _ _ (g2_.2 c)) (fun c => HK _ _ _ _ _ _ _ (g2_.1 (Decidable.not_not.mp c)))
  | tableswitch d lo hi offs =>
    dsimp only [px_step] at h
    match r, h, hr with
    | t :: ts, h, hr =>
      obtain ⟨x, s, rfl, h1, h2⟩ := px_p1_spec h
      exact pi_tsw hq hd hr (px_tsw_mono (fun t h => HK _ _ _ _ _ _ _ h) h1) (fun c => HK _ _ _ _ _ _ _ (h2 c))
  | lookupswitch d ps =>
    dsimp only [px_step] at h
    match r, h, hr with
    | t :: ts, h, hr =>
      obtain ⟨x, s, rfl, h1⟩ := px_p1_spec h
      exact pi_lsw hq hd hr (px_lsw_mono (fun t h => HK _ _ _ _ _ _ _ h) h1)
  | getfield idx =>
    have hl := hln rfl; subst hl
    dsimp only [px_step] at h
    obtain ⟨a, b, c, d, e, rfl, g1_⟩ := px_r5_spec h
    obtain ⟨v, s, rfl, h1, g2_⟩ := px_p1_spec g1_
    exact pi_getf hq hd hr h1 (HK _ _ _ _ _ _ _ g2_)
  | putfield idx =>
    have hl := hln rfl; subst hl
    dsimp only [px_step] at h
    obtain ⟨a, b, c, d, e, rfl, g1_⟩ := px_r5_spec h
    obtain ⟨x, v, s, rfl, ⟨h1, h2, h3, h4⟩, g2_⟩ := px_p2_spec g1_
    exact pi_putf hq hd hr h1 h2 h3 h4 (HK _ _ _ _ _ _ _ g2_)
  | iaload =>
    have hl := hln rfl; subst hl
    dsimp only [px_step] at h
    obtain ⟨j, v, s, rfl, ⟨h1, h2, h3⟩, g1_⟩ := px_p2_spec h
    exact pi_iald hq hd h1 h2 h3 (HK _ _ _ _ _ _ _ g1_)
  | laload =>
    have hl := hln rfl; subst hl
    dsimp only [px_step] at h
    obtain ⟨j, v, s, rfl, ⟨h1, h2, h3⟩, g1_⟩ := px_p2_spec h
    exact pi_lald hq hd h1 h2 h3 (HK _ _ _ _ _ _ _ g1_)
  | baload =>
    have hl := hln rfl; subst hl
    dsimp only [px_step] at h
    obtain ⟨j, v, s, rfl, ⟨h1, h2, h3⟩, g1_⟩ := px_p2_spec h
    exact pi_bald hq hd h1 h2 h3 (HK _ _ _ _ _ _ _ g1_)
  | aaload =>
    have hl := hln rfl; subst hl
    dsimp only [px_step] at h
    obtain ⟨j, v, s, rfl, ⟨h1, h2, h3⟩, g1_⟩ := px_p2_spec h
    exact pi_aald hq hd h1 h2 h3 (HK _ _ _ _ _ _ _ g1_)
  | iastore =>
    have hl := hln rfl; subst hl
    dsimp only [px_step] at h
    obtain ⟨x, j, v, s, rfl, ⟨h1, h2, h3⟩, g1_⟩ := px_p3_spec h
    exact pi_iast hq hd h1 h2 h3 (HK _ _ _ _ _ _ _ g1_)
  | lastore =>
    have hl := hln rfl; subst hl
    dsimp only [px_step] at h
    obtain ⟨x, j, v, s, rfl, ⟨h1, h2, h3⟩, g1_⟩ := px_p3_spec h
    exact pi_last hq hd h1 h2 h3 (HK _ _ _ _ _ _ _ g1_)
  | bastore =>
    have hl := hln rfl; subst hl
    dsimp only [px_step] at h
    obtain ⟨x, j, v, s, rfl, ⟨h1, h2, h3⟩, g1_⟩ := px_p3_spec h
    exact pi_bast hq hd h1 h2 h3 (HK _ _ _ _ _ _ _ g1_)
  | aastore =>
    have hl := hln rfl; subst hl
    dsimp only [px_step] at h
    obtain ⟨x, j, v, s, rfl, ⟨h1, h2, h3, h4⟩, g1_⟩ := px_p3_spec h
    exact pi_aast hq hd h1 h2 h3 h4 (HK _ _ _ _ _ _ _ g1_)
  | arraylength =>
    have hl := hln rfl; subst hl
    dsimp only [px_step] at h
    obtain ⟨v, s, rfl, ⟨h1, h2⟩, g1_⟩ := px_p1_spec h
    exact pi_alen hq hd h1 h2 (HK _ _ _ _ _ _ _ g1_)
  | new idx =>
    have hl := hln rfl; subst hl
    dsimp only [px_step] at h
    match r, h, hr with
    | [c, N, j], h, hr => exact pi_new hq hd hr h.1.1 h.1.2 (HK _ _ _ _ _ _ _ h.2)
  | newarray ty =>
    have hl := hln rfl; subst hl
    dsimp only [px_step] at h
    obtain ⟨kd, rfl, g1_⟩ := px_r1_spec h
    obtain ⟨N, s, rfl, ⟨h1, h2, h3, h4⟩, g2_⟩ := px_p1_spec g1_
    exact pi_newa hq hd hr h1 h2 h3 h4 (HK _ _ _ _ _ _ _ g2_)
  | anewarray idx =>
    have hl := hln rfl; subst hl
    dsimp only [px_step] at h
    obtain ⟨kd, rfl, g1_⟩ := px_r1_spec h
    obtain ⟨N, s, rfl, ⟨h1, h2, h3, h4⟩, g2_⟩ := px_p1_spec g1_
    exact pi_anew hq hd hr h1 h2 h3 h4 (HK _ _ _ _ _ _ _ g2_)
  | multianewarray idx d =>
    have hl := hln rfl; subst hl
    dsimp only [px_step] at h
    obtain ⟨kd, rfl, g1_⟩ := px_r1_spec h
    obtain ⟨K', N, s, rfl, ⟨h1, h2, h3, h4, h5, h6⟩, g2_⟩ := px_p2_spec g1_
    have h2d : d = 2 := by
      unfold px_rchk at hr
      simp only [Bool.and_eq_true, decide_eq_true_eq] at hr
      exact hr.1
    subst h2d
    exact pi_multi hq hd hr h1 h2 h3 h4 h5 h6 (HK _ _ _ _ _ _ _ g2_)
  | invokevirtual idx =>
    have hl := hln rfl; subst hl
    dsimp only [px_step] at h
    obtain ⟨z', na, c, j, rfl, g1_⟩ := px_r4_spec h
    obtain ⟨as, rest, e1, rfl, g2_⟩ := px_pop_spec g1_
    obtain ⟨v, s, rfl, ⟨h1, h2, h3, h4, h5⟩, g3_⟩ := px_p1_spec g2_
    rw [List.append_nil] at g3_
    have hO := HC _ _ _ _ _ g3_
    refine px_WP_kn (fun hk0 hn0 => ?_)
    exact pi_callV hq hd hr e1 h1 h2 h3 h4 h5 (mc' := 0) (ms' := 0) hk0 hn0 hO (fun r L' M' hQ => by obtain ⟨rfl, hQ⟩ := hQ; rw [px_k_eq] at hQ; exact HK _ _ _ _ _ _ _ hQ)
  | invokestatic idx =>
    have hl := hln rfl; subst hl
    dsimp only [px_step] at h
    obtain ⟨z', na, c, j, rfl, g1_⟩ := px_r4_spec h
    by_cases h7 : z' = 307
    · subst h7
      rw [if_pos rfl] at g1_
      obtain ⟨b, a, s, rfl, h1, g2_⟩ := px_p2_spec g1_
      exact pi_max hq hd hr h1 (HK _ _ _ _ _ _ _ g2_)
    · rw [if_neg h7] at g1_
      by_cases h8 : z' = 308
      · subst h8
        rw [if_pos rfl] at g1_
        obtain ⟨b, a, s, rfl, h1, g3_⟩ := px_p2_spec g1_
        exact pi_min hq hd hr h1 (HK _ _ _ _ _ _ _ g3_)
      · rw [if_neg h8] at g1_
        obtain ⟨as, s, e1, rfl, ⟨h4, h5⟩, g4_⟩ := px_pop_spec g1_
        rw [List.append_nil] at g4_
        have hO := HC _ _ _ _ _ g4_
        refine px_WP_kn (fun hk0 hn0 => ?_)
        exact pi_callS hq hd hr e1 h7 h8 h4 h5 (mc' := 0) (ms' := 0) hk0 hn0 hO (fun r L' M' hQ => by obtain ⟨rfl, hQ⟩ := hQ; rw [px_k_eq] at hQ; exact HK _ _ _ _ _ _ _ hQ)
  | invokespecial idx =>
    have hl := hln rfl; subst hl
    dsimp only [px_step] at h
    obtain ⟨z', na, c, j, rfl, g1_⟩ := px_r4_spec h
    by_cases h9 : z' = 9999
    · subst h9
      rw [if_pos rfl] at g1_
      obtain ⟨v, s, rfl, ⟨h1, rfl, h2⟩, g2_⟩ := px_p1_spec g1_
      exact pi_objI hq hd hr h1 h2 (HK _ _ _ _ _ _ _ g2_)
    · rw [if_neg h9] at g1_
      obtain ⟨as, rest, e1, rfl, g3_⟩ := px_pop_spec g1_
      obtain ⟨v, s, rfl, ⟨h1, h2, h3, h5⟩, mc', ms', ⟨g1, g2⟩, g4_⟩ := px_p1_spec g3_
      rw [List.append_nil] at g4_
      exact pi_callI hq hd hr e1 h1 h2 h3 h9 h5 g1 g2 g4_ (fun r L' M' hQ => by rw [px_k3_eq] at hQ; exact HK _ _ _ _ _ _ _ hQ)
  | ireturn =>
    have hl := hln rfl; subst hl
    dsimp only [px_step] at h
    obtain ⟨t, rfl, g1_⟩ := px_r1_spec h
    match st, g1_ with
    | [(u, v)], g1_ =>
      obtain ⟨rfl, h1, h2⟩ := g1_
      have hr2 : (t = 0 ∧ q.2.2.2.1 = some .int) ∨ (t = 4 ∧ q.2.2.2.1 = some .boolean) := of_decide_eq_true hr
      refine pi_ret (r := some (0, v)) hq hd (Or.inl ⟨rfl, v, rfl, ?_⟩) h2
      rcases hr2 with ⟨-, e⟩ | ⟨e1, e⟩
      · exact Or.inl e
      · exact Or.inr ⟨e, h1 e1⟩
  | lreturn =>
    have hl := hln rfl; subst hl
    dsimp only [px_step] at h
    match st, h with
    | [(u, v)], h =>
      obtain ⟨rfl, h2⟩ := h
      cases r with
      | nil => exact pi_ret (r := some (1, v)) hq hd (Or.inr (Or.inl ⟨rfl, v, rfl, of_decide_eq_true hr⟩)) h2
      | cons _ _ => cases hr
  | areturn =>
    have hl := hln rfl; subst hl
    dsimp only [px_step] at h
    match st, h with
    | [(u, v)], h =>
      obtain ⟨rfl, h2⟩ := h
      cases r with
      | nil =>
        refine pi_ret (r := some (2, v)) hq hd (Or.inr (Or.inr (Or.inl ⟨rfl, v, ?_⟩))) h2
        unfold px_rchk at hr
        dsimp only at hr
        split at hr
        · next t e => exact ⟨_, rfl, e, Or.inl ⟨t, rfl⟩⟩
        · next t e => exact ⟨_, rfl, e, Or.inr ⟨t, rfl⟩⟩
        · cases hr
      | cons _ _ => cases hr
  | return_ =>
    have hl := hln rfl; subst hl
    dsimp only [px_step] at h
    match st, h with
    | [], h =>
      cases r with
      | nil => exact pi_ret (r := none) hq hd (Or.inr (Or.inr (Or.inr ⟨rfl, rfl, of_decide_eq_true hr⟩))) h
      | cons _ _ => cases hr
  | _ => exact h.elim
end PF
