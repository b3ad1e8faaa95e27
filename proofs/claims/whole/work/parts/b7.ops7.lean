/-! both sides: drop, thin, pack, spoil, mend, cure -/
/-- what editions that go leave alone -/
def KD (M' M : px_mem) : Prop := (∀ j, j ≠ 4 → j ≠ 5 → M' 4 j = M 4 j) ∧ (∀ j, j ≠ 1 → M' 20 j = M 20 j) ∧ ∀ b, b ≠ 4 → b ≠ 20 → b ≠ 21 → b ≠ 54 → b ≠ 62 → ¬ (111 ≤ b ∧ b ≤ 114) → ¬ (22 ≤ b ∧ b < 52) → M' b = M b
theorem KD_refl (M : px_mem) : KD M M := ⟨fun _ _ _ => rfl, fun _ _ => rfl, fun _ _ _ _ _ _ _ _ => rfl⟩
theorem KD_trans {A B C : px_mem} (h : KD A B) (h2 : KD B C) : KD A C := ⟨fun j a b => (h.1 j a b).trans (h2.1 j a b), fun j a => (h.2.1 j a).trans (h2.2.1 j a), fun b a0 a1 a2 a3 a4 a5 a6 => (h.2.2 b a0 a1 a2 a3 a4 a5 a6).trans (h2.2.2 b a0 a1 a2 a3 a4 a5 a6)⟩
theorem drp_KD {M M' : px_mem} {p d : Int} (h : drpC M M' p d) : KD M' M := by
  obtain ⟨a1, a2, a3, a4, a5, a6, a7, a8, a9, a10, a11, a12⟩ := h
  refine ⟨a8, a3, fun b b0 b1 b2 b3 b4 b5 b6 => funext (fun j => a12 b j b0 b1 b2 b3 b4 b5 (Or.inr (fun z => b6 ?_)))⟩
  have := isE_m z.1
  omega
theorem thtr_KD {M : px_mem} : ∀ (k : Nat) (M' : px_mem) (p n : Int), thtr M k M' p n → KD M' M := by
  intro k
  induction k with
  | zero => intro M' p n h; rw [h.1]; exact KD_refl M
  | succ k ih =>
    intro M' p n h
    obtain ⟨M1, p1, n1, d, h1, h2, _⟩ := h
    rcases h2 with z | z
    · rw [z.2.1]; exact ih M1 p1 n1 h1
    · exact KD_trans (drp_KD z.2.1) (ih M1 p1 n1 h1)
theorem RR_dr {M M1 M2 : px_mem} {pl pl' : Int → Int → List Int} {nm nm' : Int → List Int} {N : Int} {g : Int → fe} (h : RRg M pl nm N g) (hk : KD M1 M) (hTE : TE M1 pl' nm' (M2 128)) (hnum : numI M1) (h1 : M2 128 1 = M1 4 4) (h2 : M2 128 2 = M1 4 5) (hlo : ∀ x, x < 654 → x ≠ 1 → x ≠ 2 → x ≠ 5 → M2 128 x = M 128 x) (hf : ∀ b, b ≠ 128 → M2 b = M1 b) : RR M2 := by
  obtain ⟨hC, hT, hS, hP, hrs⟩ := h
  obtain ⟨k1, k2, k3⟩ := hk
  have r : ∀ b, (b < 20 ∧ b ≠ 4) ∨ b = 118 ∨ b = 127 ∨ b = 130 → M1 b = M b := fun b hb => k3 b (by omega) (by omega) (by omega) (by omega) (by omega) (by omega) (by omega)
  have e2 := r 2 (by decide)
  have e3 := r 3 (by decide)
  have hCI : CI M1 pl' nm' N g := by
    refine ⟨?_, stC_4 hC.2.1 (k1 3 (by decide) (by decide)) (fun b b0 b1 => r b (by omega)), hC.2.2.1, hTE.2.1, hTE.1.1, hnum, by rw [r 118 (by decide)]; exact hC.2.2.2.2.2.2⟩
    have ht := hC.1
    unfold tpI at ht ⊢
    rw [e2, e3]; exact ht
  have hq : eqC M2 M1 := fun b _ b1 _ => hf b (by omega)
  refine ⟨pl', nm', N, g, CI_eq hq hCI, TE_eq hq hTE, sR_frame hS (hlo 0 (by decide) (by decide) (by decide) (by decide)) (fun x x0 x1 => hlo x x1 (by omega) (by omega) (by omega)), ?_, ?_⟩
  · unfold tpT at hP ⊢
    rw [hf 127 (by decide), hf 130 (by decide), hf 2 (by decide), hf 3 (by decide), r 127 (by decide), r 130 (by decide), e2, e3]
    exact hP
  · unfold rsT at hrs ⊢
    rw [h1, h2, hlo 3 (by decide) (by decide) (by decide) (by decide), hlo 4 (by decide) (by decide) (by decide) (by decide), hf 4 (by decide), hf 20 (by decide), hf 1 (by decide), k2 2 (by decide), r 1 (by decide)]
    exact ⟨rfl, rfl, hrs.2.2⟩
/-- contents alone are new -/
theorem RR_ct {M M1 M2 : px_mem} {pl : Int → Int → List Int} {nm : Int → List Int} {N : Int} {g : Int → fe} (h : RRg M pl nm N g) (hf : ∀ b, 1 ≤ b → b ≤ 52 → M1 b = M b) (h62 : ∀ c, 0 ≤ c → c < 40 → 0 ≤ M 62 c → 0 ≤ M1 62 c) (h118 : M1 118 = M 118) (h127 : M1 127 3 = M 127 3) (h130 : M1 130 = M 130) (hTC : tieC M1 (M2 128)) (hF : ∀ x, 0 ≤ x → x < 3154 → ¬ (654 ≤ x ∧ x < 1294) → M2 128 x = M 128 x) (ho : out M2 M1) : RR M2 := by
  obtain ⟨hC, hT, hS, hP, hrs⟩ := h
  have hed := hC.2.2.2.1
  have hw := hed.1
  have hn := hw.2.2
  have hb := fun i i0 i1 => (hw.1 i i0 i1)
  have re : ∀ i, 0 ≤ i → i < M 20 1 → M1 (M 21 i) = M (M 21 i) ∧ M1 (M 21 i + 1) = M (M 21 i + 1) ∧ M1 (M 21 i + 2) = M (M 21 i + 2) := fun i i0 i1 => by
    have h1 := hb i i0 (by omega)
    have hm := isE_m h1.1
    exact ⟨hf _ (by omega) (by omega), hf _ (by omega) (by omega), hf _ (by omega) (by omega)⟩
  have e20 := hf 20 (by decide) (by decide)
  have e21 := hf 21 (by decide) (by decide)
  have e2 := hf 2 (by decide) (by decide)
  have e3 := hf 3 (by decide) (by decide)
  have e4 := hf 4 (by decide) (by decide)
  have e1 := hf 1 (by decide) (by decide)
  have hedA : edA M1 pl nm := by
    refine ⟨?_, fun i i0 i1 => ?_⟩
    · have hw := hw
      unfold edW at hw ⊢
      rw [e20, e21]; exact hw
    · rw [e20] at i1
      have hi := hed.2 i i0 i1
      have r := re i i0 i1
      rw [e21]
      unfold edI lsC sE at hi ⊢
      rw [r.1, r.2.1, r.2.2]
      exact ⟨hi.1, hi.2.1, fun j j0 j1 => ⟨h62 _ (hi.1.2.2 j j0 j1).2.2.1 (hi.1.2.2 j j0 j1).2.2.2 (hi.2.2.1 j j0 j1).1, (hi.2.2.1 j j0 j1).2⟩, hi.2.2.2⟩
  have hnum : numI M1 := by
    obtain ⟨n1, n2, n3, n4, n5⟩ := hC.2.2.2.2.2.1
    refine ⟨by rw [e20]; exact n1, fun i i0 i1 => ?_, fun i j i0 i1 j1 => ?_, by rw [e4, e20]; exact n4, by rw [e4, e20]; exact n5⟩
    · rw [e20] at i1
      rw [e20, e21, (re i i0 i1).1]
      exact n2 i i0 i1
    · rw [e20] at j1
      rw [e21, (re i i0 (by omega)).1, (re j (by omega) j1).1]
      exact n3 i j i0 i1 j1
  have hCI : CI M1 pl nm N g := by
    refine ⟨?_, stF_frame hC.2.1 (fun b b0 b1 => hf b (by omega) (by omega)), hC.2.2.1, hedA, hTC.1, hnum, by rw [h118]; exact hC.2.2.2.2.2.2⟩
    have ht := hC.1
    unfold tpI at ht ⊢
    rw [e2, e3]; exact ht
  have hTE : TE M1 pl nm (M2 128) := by
    refine ⟨hTC, hedA, by rw [hF 5 (by decide) (by decide) (by omega), e20]; exact hT.2.2.1, fun i i0 i1 => ?_⟩
    rw [e20] at i1
    have h1 := hT.2.2.2 i i0 i1
    have h12 := (TE_e hT i0 i1).2.2.2.2.2
    have r := re i i0 i1
    rw [e21, r.1, r.2.2]
    have hG : ∀ x, 1294 ≤ x → x < 3154 → M2 128 x = M 128 x := fun x x0 x1 => hF x (by omega) x1 (by omega)
    refine ⟨?_, ⟨?_, pok_congr (fun x x0 x1 => hG _ (by omega) (by omega)) h1.2.1.2 ⟨h1.2.1.2.1, h1.2.1.2.2.2.2.1⟩⟩, fun j j0 j1 => ?_⟩
    · have a : ∀ p, 0 ≤ p → p < 18 → rE (M2 128) i p = rE (M 128) i p := fun p p0 p1 => hG _ (by omega) (by omega)
      rw [a 0 (by decide) (by decide), a 1 (by decide) (by decide), a 2 (by decide) (by decide), a 3 (by decide) (by decide), a 17 (by decide) (by decide)]
      exact h1.1
    · rw [fp_congr (fun x x0 x1 => hG _ (by omega) (by omega)) h1.2.1.2.2.2.1]; exact h1.2.1.1
    · have h2 := h1.2.2 j j0 j1
      refine ⟨?_, pok_congr (fun x x0 x1 => hG _ (by omega) (by omega)) h2.2.1 ⟨h2.2.1.1, h2.2.1.2.2.2.1⟩, ?_⟩
      · rw [← h2.1]; exact fp_congr (fun x x0 x1 => hG _ (by omega) (by omega)) h2.2.1.2.2.1
      · have a : rcf (M2 128) i j = rcf (M 128) i j := hG _ (by omega) (by omega)
        rw [a]; exact h2.2.2
  have hq : eqC M2 M1 := out_eqC ho
  refine ⟨pl, nm, N, g, CI_eq hq hCI, TE_eq hq hTE, sR_frame hS (hF 0 (by decide) (by decide) (by omega)) (fun x x0 x1 => hF x (by omega) (by omega) (by omega)), ?_, ?_⟩
  · unfold tpT at hP ⊢
    rw [ho.2.2, ho.2.1, ho.1 2 (by decide), ho.1 3 (by decide), h127, h130, e2, e3]
    exact hP
  · unfold rsT at hrs ⊢
    rw [hF 1 (by decide) (by decide) (by omega), hF 2 (by decide) (by decide) (by omega), hF 3 (by decide) (by decide) (by omega), hF 4 (by decide) (by decide) (by omega), ho.1 4 (by decide), ho.1 20 (by decide), ho.1 1 (by decide), e4, e20, e1]
    exact hrs
section PS
variable {M : px_mem}
theorem op_drop (a : Int) : opO 125 248 [(0, a)] := by
  intro M hR
  have hR2 := hR
  obtain ⟨pl, nm, N, g, hR3⟩ := hR
  have hR4 := hR3
  obtain ⟨hC, hT, hS, hP, hs⟩ := hR3
  have hed := hC.2.2.2.1
  have hnum := hC.2.2.2.2.2.1
  refine sp_drop hed hnum hC.2.2.2.2.1 (fun z => ⟨_, rfl, ?_⟩) (fun z1 z2 => ⟨_, rfl, ?_⟩) (fun M1 d z1 z2 z3 z4 => ⟨_, rfl, ?_⟩)
  · exact sp_rdrop hT hnum hs.1 hs.2.1 (fun _ => ⟨rfl, hR2⟩) (fun q1 => by exfalso; omega) (fun q1 => by exfalso; omega)
  · have h01 := slot_bd M a
    have h6 := (hed.2 (slot M a) z1 (by omega)).2.2.2.2.1
    exact sp_rdrop hT hnum hs.1 hs.2.1 (fun _ => by exfalso; omega) (fun q1 q2 => ⟨rfl, hR2⟩) (fun q1 q2 => by exfalso; omega)
  · have hk := drp_KD z4
    have e128 : M1 128 = M 128 := hk.2.2 128 (by decide) (by decide) (by decide) (by decide) (by decide) (by decide) (by decide)
    have hinv := drp_inv z4 hed hnum hC.2.2.2.2.1 ⟨z1, z2⟩
    refine sp_rdrop (Mc := M) (pl := pl) (nm := nm) (by rw [e128]; exact hT) hnum (by rw [e128]; exact hs.1) (by rw [e128]; exact hs.2.1) (fun _ => by exfalso; omega) (fun q1 q2 => by exfalso; omega) (fun q1 q2 => ⟨M1, d, z4, fun M2 q3 q4 q5 q6 q7 => ⟨rfl, ?_⟩⟩)
    exact RR_dr hR4 hk q3 hinv.2.1 q4 q5 (fun x x0 x1 x2 x3 => by rw [q6 x x0 x1 x2 x3, e128]) q7
theorem op_thin (n : Int) : opO 127 249 [(0, n)] := by
  intro M hR
  have hR2 := hR
  obtain ⟨pl, nm, N, g, hR3⟩ := hR
  have hR4 := hR3
  obtain ⟨hC, hT, hS, hP, hs⟩ := hR3
  have hed := hC.2.2.2.1
  have hnum := hC.2.2.2.2.2.1
  refine sp_thin hed hnum hC.2.2.2.2.1 (fun z => ⟨_, rfl, ?_⟩) (fun M1 p d z1 z2 z3 => ⟨_, rfl, ?_⟩)
  · exact sp_rthin hT hnum hs.1 hs.2.1 (fun _ => ⟨rfl, hR2⟩) (fun q1 => absurd q1 z)
  · have hk := thtr_KD _ _ _ _ z3
    have e128 : M1 128 = M 128 := hk.2.2 128 (by decide) (by decide) (by decide) (by decide) (by decide) (by decide) (by decide)
    refine sp_rthin (Mc := M) (pl := pl) (nm := nm) (by rw [e128]; exact hT) hnum (by rw [e128]; exact hs.1) (by rw [e128]; exact hs.2.1) (fun q => absurd z1 q) (fun q1 => ⟨M1, p, d, z3, fun M2 pl' nm' q3 q8 q4 q5 q6 q7 => ⟨rfl, ?_⟩⟩)
    exact RR_dr hR4 hk q3 q8 q4 q5 (fun x x0 x1 x2 x3 => by rw [q6 x x0 x1 x2 x3, e128]) q7
theorem op_pack : opO 132 250 [] := by
  intro M hR
  have hR2 := hR
  obtain ⟨pl, nm, N, g, hR3⟩ := hR
  have hR4 := hR3
  obtain ⟨hC, hT, hS, hP, hs⟩ := hR3
  refine sp_pack hC.2.2.2.2.1 (fun M1 z1 z2 z3 => ⟨_, rfl, ?_⟩)
  have r : ∀ b, b ≠ 53 → b ≠ 54 → b ≠ 59 → M1 b = M b := z3
  have e128 := r 128 (by decide) (by decide) (by decide)
  refine sp_rpack (Mc := M) (by rw [e128]; exact hT.1) z1 z2 r (fun M2 q1 q2 q3 => ⟨rfl, ?_⟩)
  exact RR_ct hR4 (fun b b0 b1 => r b (by omega) (by omega) (by omega)) (fun c _ _ z => by rw [r 62 (by decide) (by decide) (by decide)]; exact z) (r 118 (by decide) (by decide) (by decide)) (by rw [r 127 (by decide) (by decide) (by decide)]) (r 130 (by decide) (by decide) (by decide)) q1 (fun x _ _ x0 => by rw [q2 x x0, e128]) q3
theorem op_spoil (p v : Int) : opO 133 254 [(0, p), (0, v)] := by
  intro M hR
  have hR2 := hR
  obtain ⟨pl, nm, N, g, hR3⟩ := hR
  have hR4 := hR3
  obtain ⟨hC, hT, hS, hP, hs⟩ := hR3
  refine sp_spoil hC.2.2.2.2.1 (fun z => ⟨_, rfl, ?_⟩) (fun M1 z1 z2 z3 z4 => ⟨_, rfl, ?_⟩)
  · exact sp_rspoil hT.1 (fun _ => ⟨rfl, hR2⟩) (fun q1 => absurd q1 z)
  · have r : ∀ b, b ≠ 53 → ¬ (64 ≤ b ∧ b < 106) → M1 b = M b := z4
    have e128 := r 128 (by decide) (by decide)
    refine sp_rspoil (Mc := M) (by rw [e128]; exact hT.1) (fun q => absurd z1 q) (fun q1 => ⟨rfl, ?_⟩)
    have rF : ∀ x, px_up M1 128 (894 + p) v 128 x = if x = 894 + p then v else M 128 x := fun x => by
      rw [px_up_at, e128]
      by_cases y : x = 894 + p
      · rw [if_pos ⟨rfl, y⟩, if_pos y]
      · rw [if_neg (fun z => y z.2), if_neg y]
    have hTC : tieC M1 (px_up M1 128 (894 + p) v 128) := by
      obtain ⟨t1, t2, t3, t4⟩ := hT.1
      have rc : ∀ c q, 0 ≤ c → c < 40 → 0 ≤ q → q < 6 → rC (px_up M1 128 (894 + p) v 128) c q = rC (M 128) c q := fun c q c0 c1 q0 q1 => by
        show px_up M1 128 (894 + p) v 128 (654 + 6 * c + q) = M 128 (654 + 6 * c + q)
        rw [rF, if_neg (by omega)]
      refine ⟨z3, fun c c0 c1 => ?_, fun c q c0 c1 c2 q0 q1 => ?_, fun k k0 k1 => ?_⟩
      · rw [rc c 0 c0 c1 (by decide) (by decide), r 62 (by decide) (by decide)]; exact t2 c c0 c1
      · rw [r 62 (by decide) (by decide)] at c2
        rw [rc c q c0 c1 (by omega) (by omega), t3 c q c0 c1 c2 q0 q1]
        exact (cC_congr (fun b b0 b1 => r b (by omega) (by omega)) c q q0 q1).symm
      · rw [rF, z2 k]
        by_cases y : k = p
        · rw [if_pos (by omega), if_pos y]
        · rw [if_neg (by omega), if_neg y]; exact t4 k k0 k1
    exact RR_ct hR4 (fun b b0 b1 => r b (by omega) (by omega)) (fun c _ _ z => by rw [r 62 (by decide) (by decide)]; exact z) (r 118 (by decide) (by decide)) (by rw [r 127 (by decide) (by decide)]) (r 130 (by decide) (by decide)) hTC (fun x _ _ x0 => by rw [rF, if_neg (by omega)]) (out_128 (fun b b0 => row_ne b0))
theorem op_cure : opO 135 258 [] := by
  intro M hR
  have hR2 := hR
  obtain ⟨pl, nm, N, g, hR3⟩ := hR
  have hR4 := hR3
  obtain ⟨hC, hT, hS, hP, hs⟩ := hR3
  have hci := hC.2.2.2.2.1
  refine sp_cure hci hC.2.1 (fun M1 n z1 z2 z3 z4 => ⟨_, rfl, ?_⟩)
  have r : ∀ b, b ≠ 53 → ¬ (64 ≤ b ∧ b < 108) → M1 b = M b := z4
  have e128 := r 128 (by decide) (by decide)
  rcases z1 with ⟨k, Mk, y1, y2⟩ | y
  · have hk := (rdtr_end hci hC.2.1 k Mk n y1).1
    refine sp_rcure (Mc := M) (by rw [e128]; exact hT.1) (by rw [e128]; exact hS) hk y1 y2 (fun M2 q1 q2 q3 => ⟨rfl, ?_⟩)
    exact RR_ct hR4 (fun b b0 b1 => r b (by omega) (by omega)) (fun c _ _ z => by rw [r 62 (by decide) (by decide)]; exact z) (r 118 (by decide) (by decide)) (by rw [r 127 (by decide) (by decide)]) (r 130 (by decide) (by decide)) q1 (fun x _ _ x0 => by rw [q2 x (by omega), e128]) q3
  · have := (rdtr_end hci hC.2.1 1000 M1 n y).1
    omega
end PS
