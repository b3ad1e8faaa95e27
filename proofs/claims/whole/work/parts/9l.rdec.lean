/-! pieces tell what they were made of -/
theorem nth_app_r {A X : List Int} {j : Int} (j0 : 0 ≤ j) : nth (A ++ X) ((A.length : Int) + j) = nth X j := by
  unfold nth
  rw [List.getD_eq_getElem?_getD, List.getD_eq_getElem?_getD, List.getElem?_append_right (by omega)]
  congr 2
  omega
theorem nth_cons_s {a : Int} {X : List Int} {j : Int} (j0 : 0 ≤ j) : nth (a :: X) (j + 1) = nth X j := by
  unfold nth
  rw [show (j + 1).toNat = j.toNat + 1 by omega]
  rfl
theorem nth_cons_0 {a : Int} {X : List Int} : nth (a :: X) 0 = a := rfl
theorem nth_app_l {A X : List Int} {j : Int} (j0 : 0 ≤ j) (j1 : j < (A.length : Int)) : nth (A ++ X) j = nth A j := by
  unfold nth
  rw [List.getD_eq_getElem?_getD, List.getD_eq_getElem?_getD, List.getElem?_append_left (by omega)]
theorem lst_cat {f g : Int → Int} {a b : Int} (a0 : 0 ≤ a) (b0 : 0 ≤ b) (h : ∀ k, 0 ≤ k → k < b → g k = f (a + k)) : lst f a ++ lst g b = lst f (a + b) := by
  apply List.ext_getElem?
  intro i
  rw [List.getElem?_append, lst_lenN]
  by_cases q : i < a.toNat
  · rw [if_pos q, lst_get (by omega), lst_get (by omega)]
  · rw [if_neg q]
    by_cases r : (i : Int) < a + b
    · rw [lst_get (by omega), lst_get r, h _ (by omega) (by omega)]
      congr 2
      omega
    · rw [lst_get_none (by omega), lst_get_none (by omega)]
theorem lst_nth (D : List Int) : lst (nth D) (D.length : Int) = D := by
  apply List.ext_getElem?
  intro i
  by_cases q : i < D.length
  · rw [lst_get (by omega)]
    unfold nth
    rw [Int.toNat_natCast, List.getD_eq_getElem?_getD, List.getElem?_eq_getElem q]
    rfl
  · rw [lst_get_none (by omega), List.getElem?_eq_none (by omega)]
def DEC (rw fb D : Int → Int) (m e n p : Int) (o : List Int) (j : Int) : Prop := ∃ G : Nat, (G : Int) ≤ j ∧ ∀ F : Nat, dp rw fb m e n (F + G) p [] = dp rw fb m e n F (p + (o.length : Int)) (lst D j)
theorem DEC_flush {rw fb D : Int → Int} {m e n p i : Int} {o c T P : List Int} (hrw : ∀ t, 0 ≤ t → t < (P.length : Int) → rw (p + t) = nth P t) (he : e = p + (P.length : Int)) (hP : P = o ++ fl c ++ T) (hc : ∀ k, 0 ≤ k → k < (c.length : Int) → nth c k = D (i - (c.length : Int) + k)) (hi : 0 ≤ i - (c.length : Int)) (hin : i ≤ n) (hn : n ≤ 40) (h : DEC rw fb D m e n p o (i - (c.length : Int))) : DEC rw fb D m e n p (o ++ fl c) i := by
  by_cases q : c = []
  · subst q
    have e0 : o ++ fl [] = o := List.append_nil o
    rw [e0]
    have e1 : i - (([] : List Int).length : Int) = i := by simp
    rw [e1] at h
    exact h
  · obtain ⟨G, g1, g2⟩ := h
    have hcl := List.length_pos_iff.mpr q
    rw [fl_ne q] at hP ⊢
    have hPl : (P.length : Int) = (o.length : Int) + 1 + (c.length : Int) + (T.length : Int) := by
      rw [hP]
      simp only [List.length_append, List.length_cons]
      omega
    have hat : ∀ t, 0 ≤ t → t < (P.length : Int) - (o.length : Int) → rw (p + (o.length : Int) + t) = nth ((c.length : Int) :: (c ++ T)) t := fun t t0 t1 => by
      rw [Int.add_assoc, hrw _ (by omega) (by omega), hP, List.append_assoc, nth_app_r t0]
      rfl
    have r0 : rw (p + (o.length : Int)) = (c.length : Int) := by
      have := hat 0 (Int.le_refl 0) (by omega)
      rw [Int.add_zero, nth_cons_0] at this
      exact this
    have rk : ∀ k, 0 ≤ k → k < (c.length : Int) → rw (p + (o.length : Int) + 1 + k) = D (i - (c.length : Int) + k) := fun k k0 k1 => by
      have := hat (k + 1) (by omega) (by omega)
      rw [nth_cons_s k0, nth_app_l k0 k1, hc k k0 k1] at this
      rw [← this]
      congr 1; omega
    have hlen : ((lst D (i - (c.length : Int))).length : Int) = i - (c.length : Int) := lst_len hi
    refine ⟨G + 1, by omega, fun F => ?_⟩
    rw [show F + (G + 1) = (F + 1) + G by omega, g2 (F + 1), dp_s, r0, hlen, if_neg (by omega), if_pos (by omega), if_neg (by omega)]
    have e1 : lst D (i - (c.length : Int)) ++ lst (fun k => rw (p + (o.length : Int) + 1 + k)) (c.length : Int) = lst D i := by
      have := lst_cat (f := D) (g := fun k => rw (p + (o.length : Int) + 1 + k)) (a := i - (c.length : Int)) (b := (c.length : Int)) hi (by omega) (fun k k0 k1 => rk k k0 k1)
      rw [this]
      congr 1; omega
    rw [e1]
    congr 1
    simp only [List.length_append, List.length_cons]
    omega
theorem DEC_run {rw fb D B : Int → Int} {m e n p i s l : Int} {o T P : List Int} (hrw : ∀ t, 0 ≤ t → t < (P.length : Int) → rw (p + t) = nth P t) (he : e = p + (P.length : Int)) (hP : P = o ++ [128 + s, l] ++ T) (hfb : ∀ k, 0 ≤ k → k < m → fb k = B k) (hs : 0 ≤ s) (hl : 1 ≤ l) (hsm : s + l ≤ m) (i0 : 0 ≤ i) (hin : i + l ≤ n) (hB : ∀ k, 0 ≤ k → k < l → D (i + k) = B (s + k)) (h : DEC rw fb D m e n p o i) : DEC rw fb D m e n p (o ++ [128 + s, l]) (i + l) := by
  obtain ⟨G, g1, g2⟩ := h
  have hPl : (P.length : Int) = (o.length : Int) + 2 + (T.length : Int) := by
    rw [hP]
    simp only [List.length_append, List.length_cons, List.length_nil]
    omega
  have hat : ∀ t, 0 ≤ t → t < (P.length : Int) - (o.length : Int) → rw (p + (o.length : Int) + t) = nth ((128 + s) :: l :: T) t := fun t t0 t1 => by
    rw [Int.add_assoc, hrw _ (by omega) (by omega), hP, List.append_assoc, nth_app_r t0]
    rfl
  have r0 : rw (p + (o.length : Int)) = 128 + s := by
    have := hat 0 (Int.le_refl 0) (by omega)
    rw [Int.add_zero, nth_cons_0] at this
    exact this
  have r1 : rw (p + (o.length : Int) + 1) = l := by
    have := hat 1 (by decide) (by omega)
    exact this
  have hlen : ((lst D i).length : Int) = i := lst_len i0
  refine ⟨G + 1, by omega, fun F => ?_⟩
  rw [show F + (G + 1) = (F + 1) + G by omega, g2 (F + 1), dp_s, r0, r1, hlen, if_neg (by omega), if_neg (by omega), if_neg (by omega), if_neg (by omega)]
  have e1 : lst D i ++ lst (fun k => fb (128 + s - 128 + k)) l = lst D (i + l) := lst_cat i0 (by omega) (fun k k0 k1 => by rw [show 128 + s - 128 + k = s + k by omega, hfb _ (by omega) (by omega), hB k k0 k1])
  rw [e1]
  congr 1
  simp only [List.length_append, List.length_cons, List.length_nil]
  omega
theorem gN_pre (D B : Int → Int) (n m : Int) : ∀ (f : Nat) (i : Int) (o c : List Int), ∃ t, gN D B n m f i o c = o ++ t := by
  intro f
  induction f with
  | zero => intro i o c; exact ⟨fl c, rfl⟩
  | succ f ih =>
    intro i o c
    rw [gN_s]
    by_cases q : n ≤ i
    · rw [if_pos q]; exact ⟨fl c, rfl⟩
    · rw [if_neg q]
      by_cases r : 3 ≤ bsL D B n m i
      · rw [if_pos r]
        obtain ⟨t, ht⟩ := ih (i + bsL D B n m i) (o ++ fl c ++ [128 + bsP D B n m i, bsL D B n m i]) []
        exact ⟨fl c ++ [128 + bsP D B n m i, bsL D B n m i] ++ t, by rw [ht]; simp only [List.append_assoc]⟩
      · rw [if_neg r]; exact ih (i + 1) o (c ++ [D i])
theorem nth_snoc {c : List Int} {x : Int} : nth (c ++ [x]) (c.length : Int) = x := by
  have := nth_app_r (A := c) (X := [x]) (j := 0) (Int.le_refl 0)
  rw [Int.add_zero] at this
  exact this
theorem gN_dec {rw fb D B : Int → Int} {m e n p : Int} {P : List Int} (hn : n ≤ 40) (hm0 : 0 ≤ m) (hm : m ≤ 40) (hrw : ∀ t, 0 ≤ t → t < (P.length : Int) → rw (p + t) = nth P t) (he : e = p + (P.length : Int)) (hfb : ∀ k, 0 ≤ k → k < m → fb k = B k) : ∀ (f : Nat) (i : Int) (o c : List Int), 0 ≤ i → i ≤ n → n ≤ i + f → 0 ≤ i - (c.length : Int) → (∀ k, 0 ≤ k → k < (c.length : Int) → nth c k = D (i - (c.length : Int) + k)) → DEC rw fb D m e n p o (i - (c.length : Int)) → gN D B n m (f + 1) i o c = P → DEC rw fb D m e n p P n := by
  intro f
  induction f with
  | zero =>
    intro i o c i0 i1 hf hc0 hc hd hP
    rw [gN_s, if_pos (by omega)] at hP
    have ei : i = n := by omega
    have := DEC_flush (T := []) hrw he (by rw [List.append_nil]; exact hP.symm) hc hc0 i1 hn hd
    rw [hP, ei] at this
    exact this
  | succ f ih =>
    intro i o c i0 i1 hf hc0 hc hd hP
    rw [gN_s] at hP
    by_cases q : n ≤ i
    · rw [if_pos q] at hP
      have ei : i = n := by omega
      have := DEC_flush (T := []) hrw he (by rw [List.append_nil]; exact hP.symm) hc hc0 i1 hn hd
      rw [hP, ei] at this
      exact this
    · rw [if_neg q] at hP
      by_cases r : 3 ≤ bsL D B n m i
      · rw [if_pos r] at hP
        have hb := bs_spec D B n m i hm0
        obtain ⟨t, ht⟩ := gN_pre D B n m (f + 1) (i + bsL D B n m i) (o ++ fl c ++ [128 + bsP D B n m i, bsL D B n m i]) []
        rw [hP] at ht
        have hbp : 0 ≤ bsP D B n m i ∧ bsP D B n m i < m ∧ rl D B n m i (bsP D B n m i) = bsL D B n m i := by
          rcases hb.2 with y | y
          · omega
          · exact ⟨y.2.1, y.2.2.1, y.2.2.2.1⟩
        have hrl := rl_rng (D := D) (B := B) i0 i1 hn (show bsP D B n m i ≤ m by omega)
        rw [hbp.2.2] at hrl
        have h1 := DEC_flush (T := [128 + bsP D B n m i, bsL D B n m i] ++ t) hrw he (by rw [ht]; simp only [List.append_assoc]) hc hc0 i1 hn hd
        have h2 := DEC_run (B := B) hrw he ht hfb hbp.1 (by omega) hrl.2.2.1 i0 hrl.2.1 hrl.2.2.2 h1
        refine ih _ _ [] (by omega) hrl.2.1 (by omega) (by simp; omega) (fun k k0 k1 => by simp at k1; omega) ?_ hP
        have e1 : i + bsL D B n m i - (([] : List Int).length : Int) = i + bsL D B n m i := by simp
        rw [e1]; exact h2
      · rw [if_neg r] at hP
        have el : ((c ++ [D i]).length : Int) = (c.length : Int) + 1 := by rw [List.length_append]; rfl
        refine ih (i + 1) o (c ++ [D i]) (by omega) (by omega) (by omega) (by omega) (fun k k0 k1 => ?_) ?_ hP
        · rw [el] at k1 ⊢
          by_cases e2 : k = (c.length : Int)
          · rw [e2, nth_snoc]
            congr 1; omega
          · rw [nth_app_l k0 (by omega), hc k k0 (by omega)]
            congr 1; omega
        · rw [el, show i + 1 - ((c.length : Int) + 1) = i - (c.length : Int) by omega]
          exact hd
/-- what is kept by a base is read as it was -/
theorem dp_pcl {rw fb : Int → Int} {p : Int} {D B : List Int} (hD : D.length ≤ 40) (hB : B.length ≤ 40) (hrw : ∀ t, 0 ≤ t → t < ((pcl D B).length : Int) → rw (p + t) = nth (pcl D B) t) (hfb : ∀ k, 0 ≤ k → k < (B.length : Int) → fb k = nth B k) : dp rw fb (B.length : Int) (p + ((pcl D B).length : Int)) (D.length : Int) 401 p [] = some D := by
  have e0 : (0 : Int) - (([] : List Int).length : Int) = 0 := rfl
  obtain ⟨G, g1, g2⟩ := gN_dec (rw := rw) (fb := fb) (D := nth D) (B := nth B) (m := (B.length : Int)) (e := p + ((pcl D B).length : Int)) (n := (D.length : Int)) (p := p) (P := pcl D B) (by omega) (by omega) (by omega) hrw rfl hfb 40 0 [] [] (Int.le_refl 0) (by omega) (by omega) (by decide) (fun k k0 k1 => by simp at k1; omega) ⟨0, by decide, fun F => by
    show dp _ _ _ _ _ F p [] = dp _ _ _ _ _ F (p + 0) []
    rw [Int.add_zero]⟩ rfl
  have hl : lst (nth D) (D.length : Int) = D := lst_nth D
  have e1 : (401 : Nat) = ((400 - G) + 1) + G := by omega
  rw [e1, g2, dp_s, if_pos (Int.le_refl _), hl, if_pos rfl]
