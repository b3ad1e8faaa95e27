/-! EditionVault.Contents: what is read of all -/
def nth (l : List Int) (k : Int) : Int := l.getD k.toNat 0
theorem nth_lst {f : Int → Int} {n k : Int} (h0 : 0 ≤ k) (h1 : k < n) : nth (lst f n) k = f k := by
  unfold nth
  rw [List.getD_eq_getElem?_getD, lst_get (by omega), Int.toNat_of_nonneg h0]
  rfl
/-- the bytes of a content: parts by number (1 length, 2 mark, 3 place, 4 kept, 5 base), row -/
def rd (ct : Int → Int → Int) (rw : Int → Int) : Nat → Int → Option (List Int)
  | 0, _ => none
  | f + 1, c =>
    if ct c 5 < 0 then some (lst (fun k => rw (ct c 3 + k)) (ct c 1))
    else match rd ct rw f (ct c 5) with
      | none => none
      | some l => dp rw (nth l) (ct (ct c 5) 1) (ct c 3 + ct c 4) (ct c 1) 401 (ct c 3) []
theorem rd_s (ct : Int → Int → Int) (rw : Int → Int) (f : Nat) (c : Int) : rd ct rw (f + 1) c =
    if ct c 5 < 0 then some (lst (fun k => rw (ct c 3 + k)) (ct c 1))
    else match rd ct rw f (ct c 5) with
      | none => none
      | some l => dp rw (nth l) (ct (ct c 5) 1) (ct c 3 + ct c 4) (ct c 1) 401 (ct c 3) [] := rfl
/-- what holds of each content that is there: depth by dd -/
def cok (ct : Int → Int → Int) (dd : Int → Int) (c : Int) : Prop :=
  dd c ≤ 3 ∧ 0 ≤ ct c 1 ∧ ct c 1 ≤ 40 ∧ 0 ≤ ct c 2 ∧ ct c 2 < 65521 ∧ 0 ≤ ct c 3 ∧ 0 ≤ ct c 4 ∧ ct c 4 ≤ ct c 1 ∧ ct c 3 + ct c 4 ≤ 400 ∧
  ((ct c 5 = -2 ∧ dd c = 0 ∧ ct c 4 = ct c 1) ∨ (0 ≤ ct c 5 ∧ ct c 5 < 40 ∧ 0 ≤ dd (ct c 5) ∧ dd c = dd (ct c 5) + 1))
def cw (ct : Int → Int → Int) (dd : Int → Int) : Prop := ∀ c, 0 ≤ c → c < 40 → 0 ≤ dd c → cok ct dd c
def bw (rw : Int → Int) : Prop := ∀ k, 0 ≤ k → k < 400 → 0 ≤ rw k ∧ rw k < 256
/-- more depth than needed changes nothing -/
theorem rd_fuel {ct : Int → Int → Int} {dd rw : Int → Int} (h : cw ct dd) : ∀ (f : Nat) (c : Int), 0 ≤ c → c < 40 → 0 ≤ dd c → dd c < f → rd ct rw (f + 1) c = rd ct rw f c := by
  intro f
  induction f with
  | zero => intro c _ _ _ h4; omega
  | succ f ih =>
    intro c h1 h2 h3 h4
    rw [rd_s ct rw (f + 1) c, rd_s ct rw f c]
    have hc := h c h1 h2 h3
    unfold cok at hc
    by_cases e : ct c 5 < 0
    · rw [if_pos e, if_pos e]
    · rw [if_neg e, if_neg e, ih (ct c 5) (by omega) (by omega) (by omega) (by omega)]
theorem rd_eq {ct : Int → Int → Int} {dd rw : Int → Int} (h : cw ct dd) {c : Int} (h1 : 0 ≤ c) (h2 : c < 40) (h3 : 0 ≤ dd c) : rd ct rw 5 c =
    if ct c 5 < 0 then some (lst (fun k => rw (ct c 3 + k)) (ct c 1))
    else match rd ct rw 5 (ct c 5) with
      | none => none
      | some l => dp rw (nth l) (ct (ct c 5) 1) (ct c 3 + ct c 4) (ct c 1) 401 (ct c 3) [] := by
  have hc := h c h1 h2 h3
  unfold cok at hc
  rw [← rd_fuel h 5 c h1 h2 h3 (by omega), rd_s]
/-- contents, as the class keeps them -/
def cC (M : px_mem) (c p : Int) : Int := M (56 + p) c
theorem cC_s (M : px_mem) (c : Int) : cC M c 1 = M 57 c ∧ cC M c 2 = M 58 c ∧ cC M c 3 = M 59 c ∧ cC M c 4 = M 60 c ∧ cC M c 5 = M 61 c := ⟨rfl, rfl, rfl, rfl, rfl⟩
/-- what is read of it is held as it is -/
def gd (M : px_mem) (c : Int) : Prop :=
  (∀ l, rd (cC M) (M 53) 5 c = some l → M 104 c = 1 ∧ lst (M (64 + c)) (M 57 c) = l ∧ (M 105 c = 0 ∨ M 105 c = 1) ∧ (M 105 c = 1 ↔ mk (M (64 + c)) (M 57 c) = M 58 c)) ∧
  (rd (cC M) (M 53) 5 c = none → M 104 c = 0 ∧ M 105 c = 0)
theorem cC_congr {M M' : px_mem} (h : ∀ b, 57 ≤ b → b ≤ 61 → M' b = M b) : ∀ c p, 1 ≤ p → p ≤ 5 → cC M' c p = cC M c p := fun c p h1 h2 => by
  unfold cC
  rw [h (56 + p) (by omega) (by omega)]
theorem rd_congr {ct ct' : Int → Int → Int} {rw : Int → Int} (h : ∀ c p, 1 ≤ p → p ≤ 5 → ct' c p = ct c p) : ∀ (f : Nat) (c : Int), rd ct' rw f c = rd ct rw f c := by
  intro f
  induction f with
  | zero => intro c; rfl
  | succ f ih =>
    intro c
    rw [rd_s, rd_s, h c 5 (by decide) (by decide), h c 3 (by decide) (by decide), h c 4 (by decide) (by decide), h c 1 (by decide) (by decide), ih, h (ct c 5) 1 (by decide) (by decide)]
theorem gd_keep {M M' : px_mem} {c : Int} (h : gd M c) (h1 : ∀ b, 57 ≤ b → b ≤ 61 → M' b = M b) (h2 : M' 53 = M 53) (h3 : M' (64 + c) = M (64 + c)) (h4 : M' 104 c = M 104 c) (h5 : M' 105 c = M 105 c) : gd M' c := by
  unfold gd
  rw [h2, h3, h4, h5, rd_congr (cC_congr h1), h1 57 (by decide) (by decide), h1 58 (by decide) (by decide)]
  exact h
theorem dp_rng {rw fb : Int → Int} {bl e L : Int} (hv : bw rw) (he : e ≤ 400) (hf : ∀ k, 0 ≤ k → k < bl → 0 ≤ fb k ∧ fb k < 256) : ∀ (f : Nat) (p : Int) (a l : List Int), 0 ≤ p → (∀ b ∈ a, 0 ≤ b ∧ b < 256) → dp rw fb bl e L f p a = some l → ∀ b ∈ l, 0 ≤ b ∧ b < 256 := by
  intro f
  induction f with
  | zero => intro p a l _ _ h; exact absurd h (by simp [dp])
  | succ f ih =>
    intro p a l hp ha h
    rw [dp_s] at h
    by_cases c1 : e ≤ p
    · rw [if_pos c1] at h
      split at h
      · injection h with h; rw [← h]; exact ha
      · exact absurd h (by simp)
    · rw [if_neg c1] at h
      by_cases c2 : rw p < 128
      · rw [if_pos c2] at h
        split at h
        · exact absurd h (by simp)
        · rename_i c3
          refine ih _ _ l (by omega) (fun b hb => ?_) h
          rcases List.mem_append.mp hb with h3 | h3
          · exact ha b h3
          · obtain ⟨k, k0, k1, rfl⟩ := lst_mem.mp h3
            exact hv _ (by omega) (by omega)
      · rw [if_neg c2] at h
        split at h
        · exact absurd h (by simp)
        · rename_i c4
          split at h
          · exact absurd h (by simp)
          · rename_i c3
            refine ih _ _ l (by omega) (fun b hb => ?_) h
            rcases List.mem_append.mp hb with h3 | h3
            · exact ha b h3
            · obtain ⟨k, k0, k1, rfl⟩ := lst_mem.mp h3
              exact hf _ (by omega) (by omega)
theorem nth_mem {l : List Int} {k : Int} (h0 : 0 ≤ k) (h : k < l.length) : nth l k ∈ l := by
  unfold nth
  rw [List.getD_eq_getElem?_getD, List.getElem?_eq_getElem (by omega)]
  exact List.getElem_mem _
theorem rd_rng {ct : Int → Int → Int} {dd rw : Int → Int} (hw : cw ct dd) (hv : bw rw) : ∀ (f : Nat) (c : Int) (l : List Int), 0 ≤ c → c < 40 → 0 ≤ dd c → rd ct rw f c = some l → (l.length : Int) = ct c 1 ∧ ∀ b ∈ l, 0 ≤ b ∧ b < 256 := by
  intro f
  induction f with
  | zero => intro c l _ _ _ h; exact absurd h (by simp [rd])
  | succ f ih =>
    intro c l h1 h2 h3 h
    have hc := hw c h1 h2 h3
    unfold cok at hc
    rw [rd_s] at h
    by_cases e : ct c 5 < 0
    · rw [if_pos e] at h
      injection h with h
      rw [← h]
      refine ⟨lst_len (by omega), fun b hb => ?_⟩
      obtain ⟨k, k0, k1, rfl⟩ := lst_mem.mp hb
      exact hv _ (by omega) (by omega)
    · rw [if_neg e] at h
      cases e2 : rd ct rw f (ct c 5) with
      | none => rw [e2] at h; exact absurd h (by simp)
      | some m =>
        rw [e2] at h
        have hm := ih (ct c 5) m (by omega) (by omega) (by omega) e2
        have h : dp rw (nth m) (ct (ct c 5) 1) (ct c 3 + ct c 4) (ct c 1) 401 (ct c 3) [] = some l := h
        exact ⟨dp_len _ _ _ _ h, dp_rng hv (by omega) (fun k k0 k1 => hm.2 _ (nth_mem k0 (by omega))) _ _ _ l (by omega) (fun b hb => absurd hb (by simp)) h⟩
theorem gd_some {M M2 : px_mem} {c : Int} {l : List Int} (hc : 0 ≤ c ∧ c < 40) (hr : rd (cC M) (M 53) 5 c = some l) (hf : ∀ b, b ≠ 64 + c → b ≠ 104 → b ≠ 105 → M2 b = M b) (h1 : M2 104 c = 1) (h2 : lst (M2 (64 + c)) (M 57 c) = l) (h3 : mk (M2 (64 + c)) (M 57 c) = M 58 c → M2 105 c = 1) (h4 : ¬ mk (M2 (64 + c)) (M 57 c) = M 58 c → M2 105 c = 0) : gd M2 c := by
  unfold gd
  rw [hf 53 (by omega) (by decide) (by decide), rd_congr (cC_congr (M := M) (fun b b0 b1 => hf b (by omega) (by omega) (by omega))), hr, hf 57 (by omega) (by decide) (by decide), hf 58 (by omega) (by decide) (by decide)]
  refine ⟨fun m hm => ?_, fun hm => absurd hm (by simp)⟩
  injection hm with hm
  rw [← hm]
  refine ⟨h1, h2, ?_, ?_⟩
  · by_cases e : mk (M2 (64 + c)) (M 57 c) = M 58 c
    · exact Or.inr (h3 e)
    · exact Or.inl (h4 e)
  · refine ⟨fun e => ?_, h3⟩
    by_cases e2 : mk (M2 (64 + c)) (M 57 c) = M 58 c
    · exact e2
    · have := h4 e2; omega
theorem gd_none {M M2 : px_mem} {c : Int} (hc : 0 ≤ c ∧ c < 40) (hr : rd (cC M) (M 53) 5 c = none) (hf : ∀ b, b ≠ 64 + c → b ≠ 104 → b ≠ 105 → M2 b = M b) (h1 : M2 104 c = 0) (h2 : M2 105 c = 0) : gd M2 c := by
  unfold gd
  rw [hf 53 (by omega) (by decide) (by decide), rd_congr (cC_congr (M := M) (fun b b0 b1 => hf b (by omega) (by omega) (by omega))), hr]
  exact ⟨fun m hm => absurd hm (by simp), fun _ => ⟨h1, h2⟩⟩
section PS
variable {M : px_mem} {Q : Option pv → px_mem → Prop}
set_option maxHeartbeats 4000000 in
set_option maxRecDepth 100000 in
theorem sp_readOne {c : Int} (hc : 0 ≤ c ∧ c < 40) (hw : cw (cC M) (M 62)) (hv : bw (M 53)) (hd : 0 ≤ M 62 c) (hg : 0 ≤ M 61 c → gd M (M 61 c)) (h : ∀ M', gd M' c → (∀ b, b ≠ 64 + c → b ≠ 104 → b ≠ 105 → M' b = M b) → (∀ x, x ≠ c → M' 104 x = M 104 x ∧ M' 105 x = M 105 x) → Q none M') : px_Ok 13 [(2, 56), (0, c)] LAY M Q := by
  have hr := row_lay (v := 64 + c) (by omega)
  have hk := hw c hc.1 hc.2 hd
  have hre := rd_eq (rw := M 53) hw hc.1 hc.2 hd
  have hs := cC_s M c
  unfold cok at hk
  simp only [hs.1, hs.2.1, hs.2.2.1, hs.2.2.2.1, hs.2.2.2.2] at hk hre
  have hne : 0 ≤ M 61 c → M 61 c ≠ c := fun h e => by rw [e] at hk; omega
  have hrg := fun l => rd_rng hw hv 5 c l hc.1 hc.2 hd
  refine px_ok_go (inl := []) (ls0 := [(2, 56), (0, c), (9, 0)]) 60 (by decide) (Nat.le_of_ble_eq_true rfl) rfl ?_
  simp only [px_go, px_Q0_at, px_sx_0, px_sx_s, px_cl, px_step, ↓px_ll, px_lg, f4_, ↓px_r1, ↓px_r2, ↓px_r4, ↓px_r5, ↓px_p1, ↓px_p2, ↓px_p3, ↓px_pop, px_k_0, px_k_s, px_k3_0, px_stk_, px_cats, px_ent, px_st1, px_st2, px_mask, ↓px_tsw, ↓px_lsw, ct_, mls_0, mls_1, mls_2, mls_3, mls_4, mls_5, kd_0, kd_1, kd_2, kd_3, ln_0, ln_1, ln_2, ln_3, gf_0, gf_1, gf_2, gf_3, gf_4, gf_7, gf_21, gf_63, dy_0, dy_1, dy_2, dy_3, dy_7, dy_21, px_brT, px_brF, true_and, and_true, and_false, false_and, and_self, true_implies, false_implies, or_true, true_or, or_false, false_or, eq_self, ne_eq, not_false_eq_true, not_true_eq_false, if_true, if_false, List.mem_cons, List.not_mem_nil, List.length_cons, List.length_nil, Nat.reduceEqDiff, Nat.reduceAdd, Nat.reduceSub, Nat.reduceLeDiff, Nat.reduceLT, Int.reduceEq, Int.reduceLT, Int.reduceLE, Int.reduceNeg, Int.reduceAdd, Int.reduceSub, Int.reduceToNat, ↓reduceIte, one_ne_zero_, zero_ne_one_, px_in32L, cd_13]
  repeat' (first | (with_reducible apply And.intro) | (with_reducible refine px_br_intro (fun _ => ?_) (fun _ => ?_)))
  all_goals (try (first | (unfold px_in32; omega) | omega))
  · rename_i c1
    have h53 : px_kd LAY 53 = 0 := rfl
    refine sp_readPieces hc (by have := hne c1; omega) (by omega) (by omega) ?_ hv (fun M' l e0 e1 e2 e3 => ?_) (fun M' e1 e3 => ?_)
    · have := hw (M 61 c) (by omega) (by omega) (by omega)
      unfold cok at this
      have hs2 := cC_s M (M 61 c)
      omega
    · have hs2 := cC_s M (M 61 c)
      have hb := (hg c1)
      unfold gd at hb
      rw [if_neg (by omega)] at hre
      have hre : rd (cC M) (M 53) 5 c = some l := by
        cases e5 : rd (cC M) (M 53) 5 (M 61 c) with
        | none => exact absurd (hb.2 e5).1 e0
        | some m =>
          rw [e5] at hre
          have hm := hb.1 m e5
          have hml := rd_rng hw hv 5 (M 61 c) m (by omega) (by omega) (by omega) e5
          rw [hre, ← e1]
          show dp _ _ _ _ _ _ _ _ = _
          rw [hs2.1] at hml ⊢
          exact dp_congr (fun _ _ _ => rfl) (fun k k0 k1 => by rw [← hm.2.1]; exact nth_lst k0 k1)
      have hlb := (hrg l hre).2
      simp only [px_go, px_Q0_at, px_sx_0, px_sx_s, px_cl, px_step, ↓px_ll, px_lg, f4_, ↓px_r1, ↓px_r2, ↓px_r4, ↓px_r5, ↓px_p1, ↓px_p2, ↓px_p3, ↓px_pop, px_k_0, px_k_s, px_k3_0, px_stk_, px_cats, px_ent, px_st1, px_st2, px_mask, ↓px_tsw, ↓px_lsw, ct_, mls_0, mls_1, mls_2, mls_3, mls_4, mls_5, kd_0, kd_1, kd_2, kd_3, ln_0, ln_1, ln_2, ln_3, gf_0, gf_1, gf_2, gf_3, gf_4, gf_7, gf_21, gf_63, dy_0, dy_1, dy_2, dy_3, dy_7, dy_21, px_brT, px_brF, true_and, and_true, and_false, false_and, and_self, true_implies, false_implies, or_true, true_or, or_false, false_or, eq_self, ne_eq, not_false_eq_true, not_true_eq_false, if_true, if_false, List.mem_cons, List.not_mem_nil, List.length_cons, List.length_nil, Nat.reduceEqDiff, Nat.reduceAdd, Nat.reduceSub, Nat.reduceLeDiff, Nat.reduceLT, Int.reduceEq, Int.reduceLT, Int.reduceLE, Int.reduceNeg, Int.reduceAdd, Int.reduceSub, Int.reduceToNat, ↓reduceIte, one_ne_zero_, zero_ne_one_, px_in32L, cd_13]
      repeat' (first | (with_reducible apply And.intro) | (with_reducible refine px_br_intro (fun _ => ?_) (fun _ => ?_)))
      all_goals (try (first | (unfold px_in32; omega) | omega))
      have f57 : px_up M' 104 c 1 57 = M 57 := by rw [row_ne (by decide), e3 57 (by omega)]
      have f58 : px_up (px_up M' 104 c 1) 105 c 1 58 = M 58 := by rw [row_ne (by decide), row_ne (by decide), e3 58 (by omega)]
      have f58b : px_up M' 104 c 1 58 = M 58 := by rw [row_ne (by decide), e3 58 (by omega)]
      have f64 : px_up M' 104 c 1 (64 + c) = M' (64 + c) := row_ne (by omega)
      rw [f57]
      refine sp_markOf (by omega) hr.1 (by omega) (by omega) (fun j j0 j1 => ?_) ?_
      · rw [f64]
        exact hlb _ (by rw [← e2]; exact lst_mem.mpr ⟨j, j0, j1, rfl⟩)
      · rw [f64]
        simp only [px_go, px_Q0_at, px_sx_0, px_sx_s, px_cl, px_step, ↓px_ll, px_lg, f4_, ↓px_r1, ↓px_r2, ↓px_r4, ↓px_r5, ↓px_p1, ↓px_p2, ↓px_p3, ↓px_pop, px_k_0, px_k_s, px_k3_0, px_stk_, px_cats, px_ent, px_st1, px_st2, px_mask, ↓px_tsw, ↓px_lsw, ct_, mls_0, mls_1, mls_2, mls_3, mls_4, mls_5, kd_0, kd_1, kd_2, kd_3, ln_0, ln_1, ln_2, ln_3, gf_0, gf_1, gf_2, gf_3, gf_4, gf_7, gf_21, gf_63, dy_0, dy_1, dy_2, dy_3, dy_7, dy_21, px_brT, px_brF, true_and, and_true, and_false, false_and, and_self, true_implies, false_implies, or_true, true_or, or_false, false_or, eq_self, ne_eq, not_false_eq_true, not_true_eq_false, if_true, if_false, List.mem_cons, List.not_mem_nil, List.length_cons, List.length_nil, Nat.reduceEqDiff, Nat.reduceAdd, Nat.reduceSub, Nat.reduceLeDiff, Nat.reduceLT, Int.reduceEq, Int.reduceLT, Int.reduceLE, Int.reduceNeg, Int.reduceAdd, Int.reduceSub, Int.reduceToNat, ↓reduceIte, one_ne_zero_, zero_ne_one_, px_in32L, cd_13]
        repeat' (first | (with_reducible apply And.intro) | (with_reducible refine px_br_intro (fun _ => ?_) (fun _ => ?_)))
        all_goals (try (first | (unfold px_in32; omega) | omega))
        · rename_i c2
          refine h _ (gd_some hc hre (fun b b0 b1 b2 => by rw [row_ne b2, row_ne b1]; exact e3 b b0) ?_ ?_ ?_ ?_) (fun b b0 b1 b2 => by rw [row_ne b2, row_ne b1]; exact e3 b b0) ?_
          all_goals grind -mbtc [row_ne, px_up_at]
        · rename_i c2
          refine h _ (gd_some hc hre (fun b b0 b1 b2 => by rw [row_ne b2, row_ne b1]; exact e3 b b0) ?_ ?_ ?_ ?_) (fun b b0 b1 b2 => by rw [row_ne b2, row_ne b1]; exact e3 b b0) ?_
          all_goals grind -mbtc [row_ne, px_up_at]
    · have hb := (hg c1)
      unfold gd at hb
      have hs2 := cC_s M (M 61 c)
      rw [if_neg (by omega)] at hre
      have hre : rd (cC M) (M 53) 5 c = none := by
        cases e5 : rd (cC M) (M 53) 5 (M 61 c) with
        | none => rw [e5] at hre; exact hre
        | some m =>
          rw [e5] at hre
          have hm := hb.1 m e5
          rw [hre]
          rcases e1 with e1 | e1
          · omega
          · rw [← e1]
            show dp _ _ _ _ _ _ _ _ = _
            rw [hs2.1]
            exact dp_congr (fun _ _ _ => rfl) (fun k k0 k1 => by rw [← hm.2.1]; exact nth_lst k0 k1)
      simp only [px_go, px_Q0_at, px_sx_0, px_sx_s, px_cl, px_step, ↓px_ll, px_lg, f4_, ↓px_r1, ↓px_r2, ↓px_r4, ↓px_r5, ↓px_p1, ↓px_p2, ↓px_p3, ↓px_pop, px_k_0, px_k_s, px_k3_0, px_stk_, px_cats, px_ent, px_st1, px_st2, px_mask, ↓px_tsw, ↓px_lsw, ct_, mls_0, mls_1, mls_2, mls_3, mls_4, mls_5, kd_0, kd_1, kd_2, kd_3, ln_0, ln_1, ln_2, ln_3, gf_0, gf_1, gf_2, gf_3, gf_4, gf_7, gf_21, gf_63, dy_0, dy_1, dy_2, dy_3, dy_7, dy_21, px_brT, px_brF, true_and, and_true, and_false, false_and, and_self, true_implies, false_implies, or_true, true_or, or_false, false_or, eq_self, ne_eq, not_false_eq_true, not_true_eq_false, if_true, if_false, List.mem_cons, List.not_mem_nil, List.length_cons, List.length_nil, Nat.reduceEqDiff, Nat.reduceAdd, Nat.reduceSub, Nat.reduceLeDiff, Nat.reduceLT, Int.reduceEq, Int.reduceLT, Int.reduceLE, Int.reduceNeg, Int.reduceAdd, Int.reduceSub, Int.reduceToNat, ↓reduceIte, one_ne_zero_, zero_ne_one_, px_in32L, cd_13]
      repeat' (first | (with_reducible apply And.intro) | (with_reducible refine px_br_intro (fun _ => ?_) (fun _ => ?_)))
      all_goals (try (first | (unfold px_in32; omega) | omega))
      refine h _ (gd_none hc hre ?_ ?_ ?_) ?_ ?_
      all_goals grind -mbtc [row_ne, px_up_at]
  · rename_i c1
    refine sp_readPlain hc (by omega) (by omega) (fun M' e2 e3 => ?_)
    rw [if_pos (by omega)] at hre
    rw [← e2] at hre
    have hlb := (hrg _ hre).2
    · simp only [px_go, px_Q0_at, px_sx_0, px_sx_s, px_cl, px_step, ↓px_ll, px_lg, f4_, ↓px_r1, ↓px_r2, ↓px_r4, ↓px_r5, ↓px_p1, ↓px_p2, ↓px_p3, ↓px_pop, px_k_0, px_k_s, px_k3_0, px_stk_, px_cats, px_ent, px_st1, px_st2, px_mask, ↓px_tsw, ↓px_lsw, ct_, mls_0, mls_1, mls_2, mls_3, mls_4, mls_5, kd_0, kd_1, kd_2, kd_3, ln_0, ln_1, ln_2, ln_3, gf_0, gf_1, gf_2, gf_3, gf_4, gf_7, gf_21, gf_63, dy_0, dy_1, dy_2, dy_3, dy_7, dy_21, px_brT, px_brF, true_and, and_true, and_false, false_and, and_self, true_implies, false_implies, or_true, true_or, or_false, false_or, eq_self, ne_eq, not_false_eq_true, not_true_eq_false, if_true, if_false, List.mem_cons, List.not_mem_nil, List.length_cons, List.length_nil, Nat.reduceEqDiff, Nat.reduceAdd, Nat.reduceSub, Nat.reduceLeDiff, Nat.reduceLT, Int.reduceEq, Int.reduceLT, Int.reduceLE, Int.reduceNeg, Int.reduceAdd, Int.reduceSub, Int.reduceToNat, ↓reduceIte, one_ne_zero_, zero_ne_one_, px_in32L, cd_13]
      repeat' (first | (with_reducible apply And.intro) | (with_reducible refine px_br_intro (fun _ => ?_) (fun _ => ?_)))
      all_goals (try (first | (unfold px_in32; omega) | omega))
      have f57 : px_up M' 104 c 1 57 = M 57 := by rw [row_ne (by decide), e3 57 (by omega)]
      have f58 : px_up (px_up M' 104 c 1) 105 c 1 58 = M 58 := by rw [row_ne (by decide), row_ne (by decide), e3 58 (by omega)]
      have f58b : px_up M' 104 c 1 58 = M 58 := by rw [row_ne (by decide), e3 58 (by omega)]
      have f64 : px_up M' 104 c 1 (64 + c) = M' (64 + c) := row_ne (by omega)
      rw [f57]
      refine sp_markOf (by omega) hr.1 (by omega) (by omega) (fun j j0 j1 => ?_) ?_
      · rw [f64]
        exact hlb _ (by exact lst_mem.mpr ⟨j, j0, j1, rfl⟩)
      · rw [f64]
        simp only [px_go, px_Q0_at, px_sx_0, px_sx_s, px_cl, px_step, ↓px_ll, px_lg, f4_, ↓px_r1, ↓px_r2, ↓px_r4, ↓px_r5, ↓px_p1, ↓px_p2, ↓px_p3, ↓px_pop, px_k_0, px_k_s, px_k3_0, px_stk_, px_cats, px_ent, px_st1, px_st2, px_mask, ↓px_tsw, ↓px_lsw, ct_, mls_0, mls_1, mls_2, mls_3, mls_4, mls_5, kd_0, kd_1, kd_2, kd_3, ln_0, ln_1, ln_2, ln_3, gf_0, gf_1, gf_2, gf_3, gf_4, gf_7, gf_21, gf_63, dy_0, dy_1, dy_2, dy_3, dy_7, dy_21, px_brT, px_brF, true_and, and_true, and_false, false_and, and_self, true_implies, false_implies, or_true, true_or, or_false, false_or, eq_self, ne_eq, not_false_eq_true, not_true_eq_false, if_true, if_false, List.mem_cons, List.not_mem_nil, List.length_cons, List.length_nil, Nat.reduceEqDiff, Nat.reduceAdd, Nat.reduceSub, Nat.reduceLeDiff, Nat.reduceLT, Int.reduceEq, Int.reduceLT, Int.reduceLE, Int.reduceNeg, Int.reduceAdd, Int.reduceSub, Int.reduceToNat, ↓reduceIte, one_ne_zero_, zero_ne_one_, px_in32L, cd_13]
        repeat' (first | (with_reducible apply And.intro) | (with_reducible refine px_br_intro (fun _ => ?_) (fun _ => ?_)))
        all_goals (try (first | (unfold px_in32; omega) | omega))
        · rename_i c2
          refine h _ (gd_some hc hre (fun b b0 b1 b2 => by rw [row_ne b2, row_ne b1]; exact e3 b b0) ?_ ?_ ?_ ?_) (fun b b0 b1 b2 => by rw [row_ne b2, row_ne b1]; exact e3 b b0) ?_
          all_goals grind -mbtc [row_ne, px_up_at]
        · rename_i c2
          refine h _ (gd_some hc hre (fun b b0 b1 b2 => by rw [row_ne b2, row_ne b1]; exact e3 b b0) ?_ ?_ ?_ ?_) (fun b b0 b1 b2 => by rw [row_ne b2, row_ne b1]; exact e3 b b0) ?_
          all_goals grind -mbtc [row_ne, px_up_at]
end PS
