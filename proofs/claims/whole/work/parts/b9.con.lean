/-! the constructors, run by the kernel: a pure run over writes -/
def mm : List (Int × Int × Int) → px_mem
  | [] => fun _ _ => 0
  | (a, j, x) :: W => if j = -1 then px_nw2 (mm W) a x else px_up (mm W) a j x
theorem mm_hi {c : Int} {W : List (Int × Int × Int)} (h : ∀ w ∈ W, w.1 < c) : ∀ b i : Int, c ≤ b → mm W b i = 0 := by
  induction W with
  | nil => intro b i _; rfl
  | cons w W ih =>
    obtain ⟨a, j, x⟩ := w
    intro b i hb
    have h1 : a < c := h (a, j, x) List.mem_cons_self
    have h2 := ih (fun w hw => h w (List.mem_cons_of_mem _ hw)) b i hb
    unfold mm
    split
    · unfold px_nw2
      rw [if_neg (by omega), if_neg (by omega)]
    · unfold px_up
      rw [if_neg (by omega)]
      exact h2
def cA (L : px_lay) (W : List (Int × Int × Int)) : Bool := W.all (fun w => decide (w.1 < (L.length : Int) + 1))
theorem mm_nw {L : px_lay} {W : List (Int × Int × Int)} (h : cA L W = true) : px_nw (mm W) ((L.length : Int) + 1) = mm W := by
  have h1 : ∀ w ∈ W, w.1 < (L.length : Int) + 1 := fun w hw => of_decide_eq_true (List.all_eq_true.mp h w hw)
  funext b i
  unfold px_nw
  split
  · rfl
  · exact (mm_hi h1 b i (by omega)).symm
abbrev cS : Type := px_lay × List (Int × Int × Int) × Nat × Nat
def cs (call : Nat → List pv → px_lay → List (Int × Int × Int) → Option cS) (nxt : Nat → List pv → List pv → px_lay → List (Int × Int × Int) → Nat → Nat → Option cS) (nx : Nat) (i : Instr) (r : List Nat) (ls st : List pv) (L : px_lay) (W : List (Int × Int × Int)) (k n : Nat) : Option cS := match i with
  | .iconst v => nxt nx ls ((0, v) :: st) L W k n
  | .bipush v => nxt nx ls ((0, v) :: st) L W k n
  | .sipush v => nxt nx ls ((0, v) :: st) L W k n
  | .lconst v => nxt nx ls ((1, ((v : Nat) : Int)) :: st) L W k n
  | .aload_n j => if (px_lg ls j).1 = 2 then nxt nx ls ((2, (px_lg ls j).2) :: st) L W k n else none
  | .iload_n j => if (px_lg ls j).1 = 0 then nxt nx ls ((0, (px_lg ls j).2) :: st) L W k n else none
  | .istore_n j => (match st with | (t, v) :: s => if t = 0 then nxt nx (px_st1 ls j (0, v)) s L W k n else none | [] => none)
  | .iinc j d => if (px_lg ls j).1 = 0 ∧ -2147483648 ≤ (px_lg ls j).2 + d ∧ (px_lg ls j).2 + d < 2147483648 then nxt nx (px_st1 ls j (0, (px_lg ls j).2 + d)) st L W k n else none
  | .dup => (match st with | (t, a) :: s => if t ≠ 1 then nxt nx ls ((t, a) :: (t, a) :: s) L W k n else none | [] => none)
  | .goto _ => (match r with | [t] => nxt t ls st L W k n | _ => none)
  | .if_icmp c _ => (match c, r, st with | .ge, [t], (u, b) :: (w, a) :: s => if u = 0 ∧ w = 0 then (if b ≤ a then nxt t ls s L W k n else nxt nx ls s L W k n) else none | _, _, _ => none)
  | .getfield _ => (match r, st with | [c, f, t, _, _], (u, v) :: s => if u = 2 ∧ px_kd L v = 10 + c then nxt nx ls ((px_stk t, px_gf L (mm W) v f) :: s) L W k n else none | _, _ => none)
  | .putfield _ => (match r, st with | [c, f, t, _, _], (u, x) :: (w, v) :: s => if (u = px_stk t ∧ w = 2) ∧ px_kd L v = 10 + c ∧ (px_en L v).2.2 = [] ∧ t < 3 then nxt nx ls s L ((v, (f : Int), x) :: W) k n else none | _, _ => none)
  | .iastore => (match st with | (u, x) :: (w, j) :: (y, v) :: s => if (u = 0 ∧ w = 0 ∧ y = 2) ∧ px_kd L v = 0 ∧ 0 ≤ j ∧ j < px_ln L v then nxt nx ls s L ((v, j, x) :: W) k n else none | _ => none)
  | .aastore => (match st with | (u, x) :: (w, j) :: (y, v) :: s => if (u = 2 ∧ w = 0 ∧ y = 2) ∧ (px_kd L v = 5 ∧ px_kd L x = 12) ∧ (px_en L v).2.2 = [] ∧ 0 ≤ j ∧ j < px_ln L v then nxt nx ls s L ((v, j, x) :: W) k n else none | _ => none)
  | .new _ => (match r with | [c, N, _] => if cA L W = true then nxt nx ls ((2, (L.length : Int) + 1) :: st) (L ++ [(10 + c, N, [])]) W (k + 1) (n + N) else none | _ => none)
  | .newarray _ => (match r, st with | [kd], (u, N) :: s => if (u = 0 ∧ 0 ≤ N ∧ N < 65536) ∧ cA L W = true then nxt nx ls ((2, (L.length : Int) + 1) :: s) (L ++ [(kd, N.toNat, [])]) W (k + 1) (n + N.toNat) else none | _, _ => none)
  | .anewarray _ => (match r, st with | [_], (u, N) :: s => if (u = 0 ∧ 0 ≤ N ∧ N < 65536) ∧ cA L W = true then nxt nx ls ((2, (L.length : Int) + 1) :: s) (L ++ [(5, N.toNat, [])]) W (k + 1) (n + N.toNat) else none | _, _ => none)
  | .multianewarray _ _ => (match r, st with | [_], (u, K) :: (w, N) :: s => if (u = 0 ∧ w = 0) ∧ (0 ≤ N ∧ N < 4096 ∧ 0 ≤ K ∧ K < 4096) then nxt nx ls ((2, (L.length : Int) + 1) :: s) (L ++ (4, N.toNat, []) :: List.replicate N.toNat (0, K.toNat, [])) (((L.length : Int) + 1, -1, N) :: W) (k + 1 + N.toNat) (n + N.toNat + N.toNat * K.toNat) else none | _, _ => none)
  | .invokespecial _ => (match r with
    | [z, na, _, _] => if z = 9999 then (match st with | (u, v) :: s => if u = 2 ∧ 0 < v ∧ na = 0 ∧ px_cats s ≤ 8 then nxt nx ls s L W k n else none | [] => none)
      else if na = 0 then (match st with | (u, v) :: s => if u = 2 ∧ 0 < v ∧ z < 307 ∧ px_cats s ≤ 8 then (match call z [(2, v)] L W with | some (L1, W1, k1, n1) => nxt nx ls s L1 W1 (k + k1) (n + n1) | none => none) else none | [] => none)
      else if na = 1 then (match st with | a :: (u, v) :: s => if u = 2 ∧ 0 < v ∧ z < 307 ∧ px_cats s ≤ 8 then (match call z [(2, v), a] L W with | some (L1, W1, k1, n1) => nxt nx ls s L1 W1 (k + k1) (n + n1) | none => none) else none | _ => none)
      else none
    | _ => none)
  | .return_ => (match st with | [] => some (L, W, k, n) | _ => none)
  | _ => none
def cx : Nat → Nat → Nat → List pv → List pv → px_lay → List (Int × Int × Int) → Nat → Nat → Option cS
  | 0, _, _, _, _, _, _, _, _ => none
  | f + 1, z, pc, ls, st, L, W, k, n => match px_at z pc with
    | some (nx, _, i, r) => cs (fun z as L W => if px_cats as ≤ px_ml z then cx f z 0 (px_ent as (px_ml z)) [] L W 0 0 else none) (cx f z) nx i r ls st L W k n
    | none => none
def czk (z mc ms : Nat) (Q : Option pv → px_lay → px_mem → Nat → Nat → Prop) (P : Prop) (k n : Nat) (S : cS) : Prop := k ≤ S.2.2.1 ∧ n ≤ S.2.2.2 ∧ (S.2.2.1 ≤ mc → S.2.2.2 ≤ ms → Q none S.1 (mm S.2.1) S.2.2.1 S.2.2.2 → P)
theorem cs_call {z mc ms : Nat} {Q : Option pv → px_lay → px_mem → Nat → Nat → Prop} {call : Nat → List pv → px_lay → List (Int × Int × Int) → Option cS} {nxt : Nat → List pv → List pv → px_lay → List (Int × Int × Int) → Nat → Nat → Option cS} (hN : ∀ pc ls st L W k n S, nxt pc ls st L W k n = some S → czk z mc ms Q (px_WP z mc ms Q pc ls st L (mm W) k n) k n S)
    (hC : ∀ z' as L W S, call z' as L W = some S → z' < 307 → px_Okg z' as L (mm W) S.2.2.1 S.2.2.2 (fun r L' M' => r = none ∧ L' = S.1 ∧ M' = mm S.2.1)) {z' nx : Nat} {as ls s : List pv} {L : px_lay} {W : List (Int × Int × Int)} {k n : Nat} {S : cS} (hz : z' < 307)
    (h : (match call z' as L W with | some (L1, W1, k1, n1) => nxt nx ls s L1 W1 (k + k1) (n + n1) | none => none) = some S) : czk z mc ms Q (∃ mc' ms', (k + mc' ≤ mc ∧ n + ms' ≤ ms) ∧ px_Okg z' as L (mm W) mc' ms' (px_k3 (px_WP z mc ms Q) nx ls s (k + mc') (n + ms'))) k n S := by
  split at h
  · next L1 W1 k1 n1 hc =>
    have h1 := hC _ _ _ _ _ hc hz
    obtain ⟨g1, g2, g3⟩ := hN _ _ _ _ _ _ _ _ h
    refine ⟨by omega, by omega, fun a b c => ⟨k1, n1, ⟨by omega, by omega⟩, h1.mono ?_⟩⟩
    rintro r L' M' ⟨rfl, rfl, rfl⟩
    exact g3 a b c
  · cases h
theorem czk_to {z mc ms : Nat} {Q : Option pv → px_lay → px_mem → Nat → Nat → Prop} {P P' : Prop} {k n k' n' : Nat} {S : cS} (h : czk z mc ms Q P k n S) (hP : k ≤ mc → n ≤ ms → P → P') (hk : k' ≤ k) (hn : n' ≤ n) : czk z mc ms Q P' k' n' S :=
  ⟨Nat.le_trans hk h.1, Nat.le_trans hn h.2.1, fun a b c => hP (Nat.le_trans h.1 a) (Nat.le_trans h.2.1 b) (h.2.2 a b c)⟩
set_option maxHeartbeats 4000000 in
set_option maxRecDepth 100000 in
theorem cs_ok {z mc ms : Nat} {Q : Option pv → px_lay → px_mem → Nat → Nat → Prop} {C : px_CT} {call : Nat → List pv → px_lay → List (Int × Int × Int) → Option cS} {nxt : Nat → List pv → List pv → px_lay → List (Int × Int × Int) → Nat → Nat → Option cS} (hN : ∀ pc ls st L W k n S, nxt pc ls st L W k n = some S → czk z mc ms Q (px_WP z mc ms Q pc ls st L (mm W) k n) k n S)
    (hC : ∀ z' as L W S, call z' as L W = some S → z' < 307 → px_Okg z' as L (mm W) S.2.2.1 S.2.2.2 (fun r L' M' => r = none ∧ L' = S.1 ∧ M' = mm S.2.1)) {nx : Nat} {i : Instr} {r : List Nat} {ls st : List pv} {L : px_lay} {W : List (Int × Int × Int)} {k n : Nat} {S : cS}
    (h : cs call nxt nx i r ls st L W k n = some S) : czk z mc ms Q (px_step C Q mc ms (px_WP z mc ms Q) nx i r ls st L (mm W) k n) k n S := by
  cases i with
  | iconst v => exact hN _ _ _ _ _ _ _ _ h
  | bipush v => exact hN _ _ _ _ _ _ _ _ h
  | sipush v => exact hN _ _ _ _ _ _ _ _ h
  | lconst v => exact hN _ _ _ _ _ _ _ _ h
  | aload_n j =>
    dsimp only [cs] at h
    split at h
    · next h1 => exact czk_to (hN _ _ _ _ _ _ _ _ h) (fun _ _ g => ⟨h1, g⟩) (Nat.le_refl _) (Nat.le_refl _)
    · cases h
  | iload_n j =>
    dsimp only [cs] at h
    split at h
    · next h1 => exact czk_to (hN _ _ _ _ _ _ _ _ h) (fun _ _ g => ⟨h1, g⟩) (Nat.le_refl _) (Nat.le_refl _)
    · cases h
  | istore_n j =>
    dsimp only [cs] at h
    split at h
    · split at h
      · next h1 => exact czk_to (hN _ _ _ _ _ _ _ _ h) (fun _ _ g => ⟨h1, g⟩) (Nat.le_refl _) (Nat.le_refl _)
      · cases h
    · cases h
  | iinc j d =>
    dsimp only [cs] at h
    split at h
    · next h1 => exact czk_to (hN _ _ _ _ _ _ _ _ h) (fun _ _ g => ⟨h1.1, h1.2, g⟩) (Nat.le_refl _) (Nat.le_refl _)
    · cases h
  | dup =>
    dsimp only [cs] at h
    split at h
    · split at h
      · next h1 => exact czk_to (hN _ _ _ _ _ _ _ _ h) (fun _ _ g => ⟨h1, g⟩) (Nat.le_refl _) (Nat.le_refl _)
      · cases h
    · cases h
  | goto d =>
    dsimp only [cs] at h
    split at h
    · exact czk_to (hN _ _ _ _ _ _ _ _ h) (fun _ _ g => g) (Nat.le_refl _) (Nat.le_refl _)
    · cases h
  | if_icmp c d =>
    dsimp only [cs] at h
    split at h
    · split at h
      · next h1 =>
        obtain ⟨rfl, rfl⟩ := h1
        split at h
        · next h2 => exact czk_to (hN _ _ _ _ _ _ _ _ h) (fun _ _ g => ⟨⟨rfl, rfl⟩, fun _ => g, fun hx => absurd h2 hx⟩) (Nat.le_refl _) (Nat.le_refl _)
        · next h2 => exact czk_to (hN _ _ _ _ _ _ _ _ h) (fun _ _ g => ⟨⟨rfl, rfl⟩, fun hx => absurd hx h2, fun _ => g⟩) (Nat.le_refl _) (Nat.le_refl _)
      · cases h
    · cases h
  | getfield d =>
    dsimp only [cs] at h
    split at h
    · split at h
      · next h1 => exact czk_to (hN _ _ _ _ _ _ _ _ h) (fun _ _ g => ⟨h1.1, h1.2, g⟩) (Nat.le_refl _) (Nat.le_refl _)
      · cases h
    · cases h
  | putfield d =>
    dsimp only [cs] at h
    split at h
    · split at h
      · next h1 =>
        refine czk_to (hN _ _ _ _ _ _ _ _ h) (fun _ _ g => ⟨h1.1, ⟨h1.2.1, ?_, fun h4 => absurd h1.2.2.2 (by omega), by omega⟩, ?_⟩) (Nat.le_refl _) (Nat.le_refl _)
        · exact Or.inr ⟨by rw [h1.2.2.1]; rfl, fun _ => h1.2.2.1⟩
        · unfold mm at g; rw [if_neg (by omega)] at g; exact g
      · cases h
    · cases h
  | iastore =>
    dsimp only [cs] at h
    split at h
    · split at h
      · next h1 =>
        refine czk_to (hN _ _ _ _ _ _ _ _ h) (fun _ _ g => ⟨h1.1, h1.2, ?_⟩) (Nat.le_refl _) (Nat.le_refl _)
        unfold mm at g; rw [if_neg (by omega)] at g; exact g
      · cases h
    · cases h
  | aastore =>
    dsimp only [cs] at h
    split at h
    · split at h
      · next h1 =>
        refine czk_to (hN _ _ _ _ _ _ _ _ h) (fun _ _ g => ⟨h1.1, ⟨Or.inr h1.2.1, ?_, h1.2.2.2⟩, ?_⟩) (Nat.le_refl _) (Nat.le_refl _)
        · exact Or.inr ⟨by rw [h1.2.2.1]; rfl, fun _ => h1.2.2.1⟩
        · unfold mm at g; rw [if_neg (by omega)] at g; exact g
      · cases h
    · cases h
  | new d =>
    dsimp only [cs] at h
    split at h
    · split at h
      · next h1 =>
        refine czk_to (hN _ _ _ _ _ _ _ _ h) (fun a b g => ⟨⟨a, b⟩, ?_⟩) (Nat.le_add_right _ _) (Nat.le_add_right _ _)
        rw [mm_nw h1]; exact g
      · cases h
    · cases h
  | newarray d =>
    dsimp only [cs] at h
    split at h
    · split at h
      · next h1 =>
        refine czk_to (hN _ _ _ _ _ _ _ _ h) (fun a b g => ⟨h1.1.1, ⟨h1.1.2.1, h1.1.2.2, a, b⟩, ?_⟩) (Nat.le_add_right _ _) (Nat.le_add_right _ _)
        rw [mm_nw h1.2]; exact g
      · cases h
    · cases h
  | anewarray d =>
    dsimp only [cs] at h
    split at h
    · split at h
      · next h1 =>
        refine czk_to (hN _ _ _ _ _ _ _ _ h) (fun a b g => ⟨h1.1.1, ⟨h1.1.2.1, h1.1.2.2, a, b⟩, ?_⟩) (Nat.le_add_right _ _) (Nat.le_add_right _ _)
        rw [mm_nw h1.2]; exact g
      · cases h
    · cases h
  | multianewarray d e =>
    dsimp only [cs] at h
    split at h
    · split at h
      · next h1 =>
        refine czk_to (hN _ _ _ _ _ _ _ _ h) (fun a b g => ⟨h1.1, ⟨h1.2.1, h1.2.2.1, h1.2.2.2.1, h1.2.2.2.2, a, b⟩, ?_⟩) (by omega) (by omega)
        unfold mm at g; rw [if_pos rfl] at g; exact g
      · cases h
    · cases h
  | invokespecial d =>
    dsimp only [cs] at h
    split at h
    · next z' na c' j' =>
      dsimp only [px_step, px_r4]
      by_cases h9 : z' = 9999
      · rw [if_pos h9] at h ⊢
        split at h
        · split at h
          · next h1 => exact czk_to (hN _ _ _ _ _ _ _ _ h) (fun _ _ g => ⟨h1.1, h1.2, g⟩) (Nat.le_refl _) (Nat.le_refl _)
          · cases h
        · cases h
      · rw [if_neg h9] at h ⊢
        by_cases hna : na = 0
        · subst hna
          rw [if_pos rfl] at h
          split at h
          · split at h
            · next h1 => exact czk_to (cs_call hN hC h1.2.2.1 h) (fun _ _ g => by obtain ⟨rfl, g2, g3, g4⟩ := h1; exact ⟨rfl, ⟨g2, by omega, by omega, g4⟩, g⟩) (Nat.le_refl _) (Nat.le_refl _)
            · cases h
          · cases h
        · rw [if_neg hna] at h
          by_cases hnb : na = 1
          · subst hnb
            rw [if_pos rfl] at h
            split at h
            · split at h
              · next h1 => exact czk_to (cs_call hN hC h1.2.2.1 h) (fun _ _ g => by obtain ⟨rfl, g2, g3, g4⟩ := h1; exact ⟨rfl, ⟨g2, by omega, by omega, g4⟩, g⟩) (Nat.le_refl _) (Nat.le_refl _)
              · cases h
            · cases h
          · rw [if_neg hnb] at h; cases h
    · cases h
  | return_ =>
    dsimp only [cs] at h
    split at h
    · cases h; exact ⟨Nat.le_refl _, Nat.le_refl _, fun _ _ c => c⟩
    · cases h
  | _ => cases h
set_option maxHeartbeats 4000000 in
set_option maxRecDepth 100000 in
theorem cx_ok {f z mc ms : Nat} {Q : Option pv → px_lay → px_mem → Nat → Nat → Prop} {pc : Nat} {ls st : List pv} {L : px_lay} {W : List (Int × Int × Int)} {k n : Nat} {S : cS} (h : cx f z pc ls st L W k n = some S) : czk z mc ms Q (px_WP z mc ms Q pc ls st L (mm W) k n) k n S := by
  induction f generalizing z mc ms Q pc ls st L W k n S with
  | zero => cases h
  | succ f ih =>
    unfold cx at h
    split at h
    · next nx hm i r hat =>
      refine czk_to (cs_ok (C := px_Ok) (fun pc ls st L W k n S h => ih h) ?_ h) (fun _ _ g => px_step_ok (fun _ _ _ _ _ _ _ g => g) (fun _ _ _ _ _ g => g) hat g) (Nat.le_refl _) (Nat.le_refl _)
      intro z' as L1 W1 S1 hc hz
      split at hc
      · next hca =>
        obtain ⟨q, hq, hm2⟩ := px_mt_lt hz
        have hml : px_ml z' = q.2.2.1 := by unfold px_ml; rw [hq]
        rw [hml] at hca hc
        exact px_ok_intro hq hm2 hca ((ih hc).2.2 (Nat.le_refl _) (Nat.le_refl _) ⟨rfl, rfl, rfl⟩)
      · cases hc
    · cases h
