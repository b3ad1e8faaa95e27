/-! the reference: kept anew, what comes of it -/
theorem kept_rd {F F' dd P : Int → Int} {c n m b l p : Int} (hr : rok F dd) (hc : 0 ≤ c ∧ c < 40 ∧ dd c < 0) (hfree : ∀ x, p ≤ x → x < p + l → ¬ occ F dd x) (hk : keptR F F' c n m b l p P) {x : Int} (x0 : 0 ≤ x) (x1 : x < 40) (x2 : 0 ≤ dd x) : rB F' x = rB F x := by
  unfold rB
  refine rd_move (dd := dd) (s := fun _ => 0) hr.1 (fun y y0 y1 y2 => ?_) (fun y y0 y1 y2 z z0 z1 => ?_) 5 x x0 x1 x2
  · have hne : ¬ y = c := fun e => by rw [e] at y2; omega
    have e : ∀ q, 0 ≤ q → q < 6 → rC F' y q = rC F y q := fun q q0 q1 => by
      have h := hk.1 y q y0 y1 q0 q1
      rw [if_neg hne] at h; exact h
    exact ⟨e 1 (by decide) (by decide), e 4 (by decide) (by decide), e 5 (by decide) (by decide), by rw [e 3 (by decide) (by decide), Int.add_zero]⟩
  · have h := hr.1 y y0 y1 y2
    unfold cok at h
    show F' (894 + (z + 0)) = F (894 + z)
    rw [Int.add_zero, hk.2.1 z (by omega) (by omega), if_neg (fun q => hfree z q.1 q.2 ⟨y, y0, y1, y2, z0, z1⟩)]
theorem kept_new {F F' dd P : Int → Int} {D : List Int} {c b l p : Int} (hr : rok F dd) (hn : D.length ≤ 40) (hc : 0 ≤ c ∧ c < 40 ∧ dd c < 0) (hb : isBB (cndR F dd) (szR F D) (D.length : Int) 40 b l) (hfree : ∀ x, p ≤ x → x < p + l → ¬ occ F dd x) (hp : 0 ≤ p) (hpl : p + l ≤ 400) (hP : lst P l = bstR F D b) (hk : keptR F F' c (D.length : Int) (mkl D) b l p P) (hr' : rok F' (ddN dd c b)) : rB F' c = some D := by
  have ef : ∀ q, 0 ≤ q → q < 6 → rC F' c q = (if q = 0 then 1 else if q = 1 then (D.length : Int) else if q = 2 then mkl D else if q = 3 then p else if q = 4 then l else b) := fun q q0 q1 => by
    have h := hk.1 c q hc.1 hc.2.1 q0 q1
    rw [if_pos rfl] at h; exact h
  have e1 : rC F' c 1 = (D.length : Int) := ef 1 (by decide) (by decide)
  have e3 : rC F' c 3 = p := ef 3 (by decide) (by decide)
  have e4 : rC F' c 4 = l := ef 4 (by decide) (by decide)
  have e5 : rC F' c 5 = b := ef 5 (by decide) (by decide)
  have hl0 : 0 ≤ l := by
    rcases hb with z | z
    · omega
    · have : 0 ≤ szR F D b := Int.natCast_nonneg _
      omega
  have hrow : ∀ k, 0 ≤ k → k < l → F' (894 + (p + k)) = P k := fun k k0 k1 => by
    rw [hk.2.1 (p + k) (by omega) (by omega), if_pos ⟨by omega, by omega⟩, show p + k - p = k by omega]
  unfold rB
  rw [rd_s, e5, e4, e3, e1]
  by_cases q : b < 0
  · rw [if_pos q]
    have hl : l = (D.length : Int) := by
      rcases hb with z | z
      · exact z.2.1
      · omega
    have hP2 : lst P l = D := by rw [hP]; unfold bstR; rw [if_pos q]
    congr 1
    rw [← hl, ← hP2]
    exact lst_congr (fun k k0 k1 => hrow k k0 k1)
  · rw [if_neg q]
    rcases hb with z | z
    · omega
    · obtain ⟨B, w1, w2⟩ := z.2.2.1.2.2
      have hB := rB_len hr z.1 z.2.1 z.2.2.1.1 w1
      have hbc : ¬ b = c := fun e => by have := z.2.2.1.1; rw [e] at this; omega
      have hdd : ddN dd c b b = dd b := if_neg hbc
      have hd3 := z.2.2.1.2.1
      have hd0 := z.2.2.1.1
      have hfu := rd_fuel (rw := fun k => F' (894 + k)) hr'.1 4 b z.1 z.2.1 (by rw [hdd]; exact hd0) (by rw [hdd]; omega)
      have hrb := kept_rd hr hc hfree hk z.1 z.2.1 hd0
      rw [w1] at hrb
      unfold rB at hrb
      rw [← hfu, hrb]
      have hl1 : rC F' b 1 = (B.length : Int) := by
        have h := hk.1 b 1 z.1 z.2.1 (by decide) (by decide)
        rw [if_neg hbc] at h
        rw [h]; exact hB.1.symm
      have hlb : rBl F b = B := by unfold rBl; rw [w1]; rfl
      have hl : l = ((pcl D B).length : Int) := by
        rw [← z.2.2.2.1]; unfold szR; rw [hlb]
      have hP2 : lst P l = pcl D B := by rw [hP]; unfold bstR; rw [if_neg q, hlb]
      show dp (fun k => F' (894 + k)) (nth B) (rC F' b 1) (p + l) (D.length : Int) 401 p [] = some D
      rw [hl1, hl]
      refine dp_pcl hn (by omega) (fun t t0 t1 => ?_) (fun k k0 k1 => rfl)
      have h1 := nth_lst (f := P) (n := l) t0 (by omega)
      rw [hP2] at h1
      rw [h1]; exact hrow t t0 (by omega)
theorem fr_full {s : Int} (s0 : 0 ≤ s) : ∀ n : Nat, fr (fun x => ¬ x < s) (n : Int) = if (n : Int) ≤ s then 0 else (n : Int) - s := by
  intro n
  induction n with
  | zero => rw [if_pos (by omega)]; rfl
  | succ n ih =>
    rw [Int.natCast_succ]
    by_cases q : (n : Int) < s
    · rw [fr_f (p := fun x => ¬ x < s) (by omega) (fun z => z q), if_pos (by omega)]
    · rw [fr_t (p := fun x => ¬ x < s) (by omega) q, ih, if_neg (show ¬ (n : Int) + 1 ≤ s by omega)]
      by_cases e : (n : Int) ≤ s
      · rw [if_pos e]; omega
      · rw [if_neg e]; omega
theorem rmF_full {s l : Int} (s0 : 0 ≤ s) (l0 : 0 ≤ l) : rmF (fun x => ¬ x < s) l = if l = 0 then 0 else if s + l ≤ 400 then s else -1 := by
  have hf : ∀ k, 0 ≤ k → fr (fun x => ¬ x < s) (k + 1) = if k + 1 ≤ s then 0 else k + 1 - s := fun k k0 => by
    have h := fr_full s0 (k + 1).toNat
    rw [Int.toNat_of_nonneg (by omega)] at h
    exact h
  unfold rmF
  by_cases e : l = 0
  · rw [if_pos e, if_pos e]
  · rw [if_neg e, if_neg e]
    by_cases q : s + l ≤ 400
    · have h : fnd 400 (fun k => fr (fun x => ¬ x < s) (k + 1) = l) = s + l - 1 := fnd_hit (by omega) (by omega) (by rw [hf _ (by omega), if_neg (by omega)]; omega) (fun j j0 j1 z => by
        rw [hf j j0] at z
        split at z <;> omega)
      rw [h, if_neg (by omega), if_pos q]; omega
    · have h : fnd 400 (fun k => fr (fun x => ¬ x < s) (k + 1) = l) = -1 := fnd_miss (fun j j0 j1 z => by
        rw [hf j j0] at z
        split at z <;> omega)
      rw [h, if_pos rfl, if_neg q]
/-- how many are chosen below a number: the slot where each is kept anew -/
noncomputable def cntS (M : px_mem) (v c : Int) : Int := sm c (fun d => b1 (selA M v d))
theorem cntS_t {M : px_mem} {v c : Int} (c0 : 0 ≤ c) (h : selA M v c) : cntS M v (c + 1) = cntS M v c + 1 := by
  unfold cntS; rw [sm_s c0, b1_t h]
theorem cntS_f {M : px_mem} {v c : Int} (c0 : 0 ≤ c) (h : ¬ selA M v c) : cntS M v (c + 1) = cntS M v c := by
  unfold cntS; rw [sm_s c0, b1_f h, Int.add_zero]
theorem cntS_rng (M : px_mem) (v : Int) {c : Int} (c0 : 0 ≤ c) : 0 ≤ cntS M v c ∧ cntS M v c ≤ c := by
  have := sm_bnd (c := 1) c0 (f := fun d => b1 (selA M v d)) (fun j _ _ => b1_rng _)
  unfold cntS
  omega
theorem cntS_lt {M : px_mem} {v d c : Int} (d0 : 0 ≤ d) (d1 : d < c) (h : selA M v d) : cntS M v d < cntS M v c := by
  have h1 := cntS_t d0 h
  have h2 := sm_mono (f := fun d => b1 (selA M v d)) (n := c) (fun j _ _ => (b1_rng _).1) (i := d + 1) (by omega) (by omega)
  have h3 : cntS M v (d + 1) ≤ cntS M v c := h2
  omega
theorem cntS_lt_iff {M : px_mem} {v d d' : Int} (d0 : 0 ≤ d) (d0' : 0 ≤ d') (h : selA M v d) (h' : selA M v d') : (cntS M v d < cntS M v d' ↔ d < d') ∧ (cntS M v d = cntS M v d' ↔ d = d') := by
  rcases (by omega : d < d' ∨ d = d' ∨ d' < d) with q | q | q
  · have := cntS_lt d0 q h; omega
  · subst q; omega
  · have := cntS_lt d0' q h'; omega
theorem cntS_ex {M : px_mem} {v : Int} : ∀ (n : Nat) (t : Int), 0 ≤ t → t < cntS M v (n : Int) → ∃ d, 0 ≤ d ∧ d < (n : Int) ∧ selA M v d ∧ cntS M v d = t := by
  intro n
  induction n with
  | zero =>
    intro t t0 t1
    have e : cntS M v ((0 : Nat) : Int) = 0 := rfl
    omega
  | succ n ih =>
    intro t t0 t1
    rw [Int.natCast_succ] at t1 ⊢
    by_cases q : selA M v (n : Int)
    · rw [cntS_t (by omega) q] at t1
      by_cases e : t < cntS M v (n : Int)
      · obtain ⟨d, d0, d1, d2⟩ := ih t t0 e
        exact ⟨d, d0, by omega, d2⟩
      · exact ⟨n, by omega, by omega, q, by omega⟩
    · rw [cntS_f (by omega) q] at t1
      obtain ⟨d, d0, d1, d2⟩ := ih t t0 t1
      exact ⟨d, d0, by omega, d2⟩
/-- those below a number are kept anew -/
def thS (Mc : px_mem) (v : Int) (D S F dd : Int → Int) (c : Int) : Prop := rok F dd ∧ rus F dd ∧ (∀ t, 0 ≤ t → t < 40 → (0 ≤ dd t ↔ t < cntS Mc v c)) ∧ (∀ d, 0 ≤ d → d < c → selA Mc v d → dd (cntS Mc v d) = D d ∧ rB F (cntS Mc v d) = some (rdC Mc d) ∧ mkl (rdC Mc d) = rC F (cntS Mc v d) 2) ∧ (∀ x, 0 ≤ x → x < 400 → (occ F dd x ↔ x < sumA Mc v S c)) ∧ sm 40 (rkp F) = sumA Mc v S c ∧ 0 ≤ sumA Mc v S c
theorem sumA_t {M : px_mem} {v k : Int} {S : Int → Int} (k0 : 0 ≤ k) (h : selA M v k) : sumA M v S (k + 1) = sumA M v S k + S k := by
  unfold sumA
  unfold selA at h
  rw [sm_s k0, if_pos h]
theorem sumA_f {M : px_mem} {v k : Int} {S : Int → Int} (k0 : 0 ≤ k) (h : ¬ selA M v k) : sumA M v S (k + 1) = sumA M v S k := by
  unfold sumA
  unfold selA at h
  rw [sm_s k0, if_neg h, Int.add_zero]
theorem th_skip {Mc : px_mem} {v c : Int} {D S F dd : Int → Int} (c0 : 0 ≤ c) (hn : ¬ selA Mc v c) (h : thS Mc v D S F dd c) : thS Mc v D S F dd (c + 1) := by
  obtain ⟨h1, h2, h3, h4, h5, h6, h7⟩ := h
  refine ⟨h1, h2, fun t t0 t1 => by rw [cntS_f c0 hn]; exact h3 t t0 t1, fun d d0 d1 d2 => h4 d d0 ?_ d2, fun x x0 x1 => by rw [sumA_f c0 hn]; exact h5 x x0 x1, by rw [sumA_f c0 hn]; exact h6, by rw [sumA_f c0 hn]; exact h7⟩
  rcases (by omega : d < c ∨ d = c) with q | q
  · exact q
  · rw [q] at d2; exact absurd d2 hn
theorem th_rBl {Mc : px_mem} {v c : Int} {D S F dd : Int → Int} (h : thS Mc v D S F dd c) {d : Int} (d0 : 0 ≤ d) (d1 : d < c) (d2 : selA Mc v d) : rBl F (cntS Mc v d) = rdC Mc d := by
  unfold rBl
  rw [(h.2.2.2.1 d d0 d1 d2).2.1]; rfl
/-- the best base in both numberings -/
theorem th_bb {Mc : px_mem} {v c b l : Int} {D S F dd : Int → Int} (hci : ci Mc) (c0 : 0 ≤ c) (c1 : c < 40) (h : thS Mc v D S F dd c) (hok : okA Mc v D S c) (hsel : selA Mc v c) (hb : isBB (cndA Mc v D c) (fun x => ((pcs Mc (64 + c) (Mc 57 c) x).length : Int)) (Mc 57 c) 40 b l) : isBB (cndR F dd) (szR F (rdC Mc c)) ((rdC Mc c).length : Int) 40 (if b < 0 then b else cntS Mc v b) l := by
  have hlen := (rdC_len hci c0 c1 hsel.1).1
  have hsz : ∀ d, 0 ≤ d → d < c → selA Mc v d → szR F (rdC Mc c) (cntS Mc v d) = ((pcs Mc (64 + c) (Mc 57 c) d).length : Int) := fun d d0 d1 d2 => by
    have k1 := cokC (hci.1 c c0 c1 hsel.1)
    have k2 := cokC (hci.1 d d0 (by omega) d2.1)
    unfold szR pcs
    rw [th_rBl h d0 d1 d2, pcl_lst k1.2.1 k2.2.1]
    rfl
  have hfw : ∀ x, 0 ≤ x → x < 40 → cndR F dd x → ∃ d, 0 ≤ d ∧ d < c ∧ selA Mc v d ∧ cntS Mc v d = x ∧ cndA Mc v D c d := fun x x0 x1 hx => by
    have h1 := (h.2.2.1 x x0 x1).mp hx.1
    have h2 := cntS_ex (M := Mc) (v := v) c.toNat x x0 (by rw [Int.toNat_of_nonneg c0]; exact h1)
    rw [Int.toNat_of_nonneg c0] at h2
    obtain ⟨d, d0, d1, d2, d3⟩ := h2
    have e := (h.2.2.2.1 d d0 d1 d2).1
    rw [d3] at e
    exact ⟨d, d0, d1, d2, d3, d1, d2, by rw [← e]; exact hx.1, by rw [← e]; exact hx.2.1, (hok d d0 d1 d2).1⟩
  have hbw : ∀ d, 0 ≤ d → cndA Mc v D c d → cndR F dd (cntS Mc v d) ∧ cntS Mc v d < 40 := fun d d0 hd => by
    have e := h.2.2.2.1 d d0 hd.1 hd.2.1
    have hr := cntS_rng Mc v d0
    have := hd.1
    exact ⟨⟨by rw [e.1]; exact hd.2.2.1, by rw [e.1]; exact hd.2.2.2.1, ⟨_, e.2.1, e.2.2⟩⟩, by omega⟩
  rcases hb with ⟨a1, a2, a3⟩ | ⟨a1, a2, a3, a4, a5, a6, a7⟩
  · rw [if_pos (by omega)]
    refine Or.inl ⟨a1, by rw [hlen]; exact a2, fun x x0 x1 hx => ?_⟩
    obtain ⟨d, d0, d1, d2, d3, d4⟩ := hfw x x0 x1 hx
    rw [← d3, hsz d d0 d1 d2, hlen]
    exact a3 d d0 (by omega) d4
  · rw [if_neg (by omega)]
    have hb1 := hbw b a1 a3
    refine Or.inr ⟨(cntS_rng Mc v a1).1, hb1.2, hb1.1, by rw [hsz b a1 a3.1 a3.2.1]; exact a4, by rw [hlen]; exact a5, fun x x0 x1 hx => ?_, fun x x0 x1 hx => ?_⟩
    · obtain ⟨d, d0, d1, d2, d3, d4⟩ := hfw x x0 x1 hx
      rw [← d3, hsz d d0 d1 d2]
      exact a6 d d0 (by omega) d4
    · obtain ⟨d, d0, d1, d2, d3, d4⟩ := hfw x x0 (by omega) hx
      rw [← d3, hsz d d0 d1 d2]
      rw [← d3] at x1
      exact a7 d d0 ((cntS_lt_iff d0 a1 d2 a3.2.1).1.mp x1) d4
/-- one more is kept anew; or it finds no room -/
theorem th_step {Mc : px_mem} {v c b' l p : Int} {D S F F' dd P : Int → Int} (hci : ci Mc) (c0 : 0 ≤ c) (c1 : c < 40) (h : thS Mc v D S F dd c) (hok : okA Mc v D S c) (hsel : selA Mc v c) (hst : stepA Mc v D S c) (hb : isBB (cndR F dd) (szR F (rdC Mc c)) ((rdC Mc c).length : Int) 40 b' l) (hp : rmF (fun x => ¬ occ F dd x) l = p) (hp0 : 0 ≤ p) (hP : lst P l = bstR F (rdC Mc c) b') (hk : keptR F F' (cntS Mc v c) ((rdC Mc c).length : Int) (mkl (rdC Mc c)) b' l p P) (hby : ∀ x ∈ rdC Mc c, 0 ≤ x ∧ x < 256) : thS Mc v D S F' (ddN dd (cntS Mc v c) b') (c + 1) ∧ (S c = 0 ∨ sumA Mc v S c + S c ≤ 400) := by
  obtain ⟨b, q2, q3⟩ := hst
  have hu := isBB_uniq hb (th_bb hci c0 c1 h hok hsel q2)
  obtain ⟨eb, el⟩ := hu
  have hlen := rdC_len hci c0 c1 hsel.1
  have hcr := cntS_rng Mc v c0
  obtain ⟨h1, h2, h3, h4, h5, h6, h7⟩ := h
  have ht : 0 ≤ cntS Mc v c ∧ cntS Mc v c < 40 ∧ dd (cntS Mc v c) < 0 := ⟨hcr.1, by omega, by
    have := h3 (cntS Mc v c) hcr.1 (by omega)
    omega⟩
  have hl0 : 0 ≤ l ∧ l ≤ 40 := by
    rcases hb with z | z
    · omega
    · have : 0 ≤ szR F (rdC Mc c) b' := Int.natCast_nonneg _
      omega
  have hrm : rmF (fun x => ¬ occ F dd x) l = if l = 0 then 0 else if sumA Mc v S c + l ≤ 400 then sumA Mc v S c else -1 := by
    rw [rmF_congr l (q := fun x => ¬ x < sumA Mc v S c) (fun j j0 j1 => by rw [h5 j j0 j1])]
    exact rmF_full h7 hl0.1
  rw [hp] at hrm
  have hpp : (l = 0 ∧ p = 0) ∨ (0 < l ∧ sumA Mc v S c + l ≤ 400 ∧ p = sumA Mc v S c) := by
    by_cases e : l = 0
    · rw [if_pos e] at hrm; exact Or.inl ⟨e, hrm⟩
    · rw [if_neg e] at hrm
      by_cases e2 : sumA Mc v S c + l ≤ 400
      · rw [if_pos e2] at hrm; exact Or.inr ⟨by omega, e2, hrm⟩
      · rw [if_neg e2] at hrm; omega
  have hfree : ∀ x, p ≤ x → x < p + l → ¬ occ F dd x := fun x x0 x1 => by
    rcases hpp with z | z
    · omega
    · intro y
      have := (h5 x (by omega) (by omega)).mp y
      omega
  have hok2 := keptR_ok h1 h2 hlen.2 hby ht hb hp hp0 hP hk
  have hnew := kept_new h1 hlen.2 ht hb hfree hp0 (by omega) hP hk hok2.1
  have hb'r : b' < 0 ∨ (0 ≤ b' ∧ b' < 40 ∧ 0 ≤ dd b') := by
    rcases hb with z | z
    · exact Or.inl (by omega)
    · exact Or.inr ⟨z.1, z.2.1, z.2.2.1.1⟩
  have hddt : ddN dd (cntS Mc v c) b' (cntS Mc v c) = if b' < 0 then 0 else dd b' + 1 := if_pos rfl
  have hddt0 : 0 ≤ ddN dd (cntS Mc v c) b' (cntS Mc v c) := by
    rw [hddt]
    by_cases e : b' < 0
    · rw [if_pos e]; exact Int.le_refl 0
    · rw [if_neg e]; omega
  have hddo : ∀ x, x ≠ cntS Mc v c → ddN dd (cntS Mc v c) b' x = dd x := fun x x0 => if_neg x0
  have hDc : ddN dd (cntS Mc v c) b' (cntS Mc v c) = D c := by
    rw [hddt, q3, eb]
    by_cases e : b < 0
    · rw [if_pos e, if_pos e, if_pos e]
    · rw [if_neg e, if_neg e]
      have hbb : cndA Mc v D c b := by
        rcases q2 with z | z
        · omega
        · exact z.2.2.1
      rw [if_neg (by have := (cntS_rng Mc v (show 0 ≤ b by omega)).1; omega), (h4 b (by omega) hbb.1 hbb.2.1).1]
  have hfo : ∀ x q, 0 ≤ x → x < 40 → x ≠ cntS Mc v c → 0 ≤ q → q < 6 → rC F' x q = rC F x q := fun x q x0 x1 x2 q0 q1 => by
    have := hk.1 x q x0 x1 q0 q1
    rw [if_neg x2] at this; exact this
  have hft : ∀ q, 0 ≤ q → q < 6 → rC F' (cntS Mc v c) q = (if q = 0 then 1 else if q = 1 then ((rdC Mc c).length : Int) else if q = 2 then mkl (rdC Mc c) else if q = 3 then p else if q = 4 then l else b') := fun q q0 q1 => by
    have := hk.1 (cntS Mc v c) q ht.1 ht.2.1 q0 q1
    rw [if_pos rfl] at this; exact this
  have f0 : rC F' (cntS Mc v c) 0 = 1 := hft 0 (by decide) (by decide)
  have f2 : rC F' (cntS Mc v c) 2 = mkl (rdC Mc c) := hft 2 (by decide) (by decide)
  have f3 : rC F' (cntS Mc v c) 3 = p := hft 3 (by decide) (by decide)
  have f4 : rC F' (cntS Mc v c) 4 = l := hft 4 (by decide) (by decide)
  refine ⟨⟨hok2.1, hok2.2, fun t t0 t1 => ?_, fun d d0 d1 d2 => ?_, fun x x0 x1 => ?_, ?_, ?_⟩, by rcases hpp with z | z <;> omega⟩
  · rw [cntS_t c0 hsel]
    by_cases e : t = cntS Mc v c
    · rw [e]; exact ⟨fun _ => by omega, fun _ => hddt0⟩
    · rw [hddo t e]
      have := h3 t t0 t1
      omega
  · by_cases e : d = c
    · subst e
      exact ⟨hDc, hnew, f2.symm⟩
    · have hlt := cntS_lt d0 (show d < c by omega) d2
      have hne : cntS Mc v d ≠ cntS Mc v c := by omega
      have a := h4 d d0 (by omega) d2
      have hdr := cntS_rng Mc v d0
      have hd9 := (h3 (cntS Mc v d) hdr.1 (by omega)).mpr hlt
      refine ⟨by rw [hddo _ hne]; exact a.1, ?_, by rw [hfo _ 2 hdr.1 (by omega) hne (by decide) (by decide)]; exact a.2.2⟩
      rw [kept_rd h1 ht hfree hk hdr.1 (by omega) hd9]
      exact a.2.1
  · rw [sumA_t c0 hsel]
    constructor
    · rintro ⟨y, y0, y1, y2, y3⟩
      by_cases e : y = cntS Mc v c
      · subst e
        unfold inC at y3
        rw [f3, f4] at y3
        rcases hpp with z | z <;> omega
      · rw [hddo y e] at y2
        unfold inC at y3
        rw [hfo y 3 y0 y1 e (by decide) (by decide), hfo y 4 y0 y1 e (by decide) (by decide)] at y3
        have := (h5 x x0 x1).mp ⟨y, y0, y1, y2, y3⟩
        omega
    · intro z
      by_cases e : x < sumA Mc v S c
      · obtain ⟨y, y0, y1, y2, y3⟩ := (h5 x x0 x1).mpr e
        have hne : y ≠ cntS Mc v c := fun q => by rw [q] at y2; omega
        refine ⟨y, y0, y1, by rw [hddo y hne]; exact y2, ?_⟩
        unfold inC at y3 ⊢
        rw [hfo y 3 y0 y1 hne (by decide) (by decide), hfo y 4 y0 y1 hne (by decide) (by decide)]
        exact y3
      · refine ⟨cntS Mc v c, ht.1, ht.2.1, hddt0, ?_⟩
        unfold inC
        rw [f3, f4]
        rcases hpp with w | w <;> omega
  · rw [sumA_t c0 hsel, ← h6]
    have hz : rkp F (cntS Mc v c) = 0 := by
      unfold rkp
      have := h2 (cntS Mc v c) ht.1 ht.2.1
      rw [if_neg (by omega)]
    have hn : rkp F' (cntS Mc v c) = l := by
      unfold rkp
      rw [if_pos f0, f4]
    rw [sm_add1 (f := rkp F) (g := rkp F') ht.1 ht.2.1 (fun d d0 d1 d2 => by
      unfold rkp
      rw [hfo d 0 d0 d1 d2 (by decide) (by decide), hfo d 4 d0 d1 d2 (by decide) (by decide)]), hn, hz]
    omega
  · rw [sumA_t c0 hsel]; omega
theorem th_fail {Mc : px_mem} {v c b' l : Int} {D S F dd : Int → Int} (hci : ci Mc) (c0 : 0 ≤ c) (c1 : c < 40) (h : thS Mc v D S F dd c) (hok : okA Mc v D S c) (hsel : selA Mc v c) (hst : stepA Mc v D S c) (hb : isBB (cndR F dd) (szR F (rdC Mc c)) ((rdC Mc c).length : Int) 40 b' l) (hp : rmF (fun x => ¬ occ F dd x) l = -1) : 400 < sumA Mc v S (c + 1) := by
  obtain ⟨b, q2, q3⟩ := hst
  obtain ⟨eb, el⟩ := isBB_uniq hb (th_bb hci c0 c1 h hok hsel q2)
  have hl0 : 0 ≤ l := by
    rcases hb with z | z
    · omega
    · have : 0 ≤ szR F (rdC Mc c) b' := Int.natCast_nonneg _
      omega
  rw [rmF_congr l (q := fun x => ¬ x < sumA Mc v S c) (fun j j0 j1 => by rw [h.2.2.2.2.1 j j0 j1]), rmF_full h.2.2.2.2.2.2 hl0] at hp
  rw [sumA_t c0 hsel]
  by_cases e : l = 0
  · rw [if_pos e] at hp; omega
  · rw [if_neg e] at hp
    by_cases e2 : sumA Mc v S c + l ≤ 400
    · rw [if_pos e2] at hp
      have := h.2.2.2.2.2.2
      omega
    · omega
