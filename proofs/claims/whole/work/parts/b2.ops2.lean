/-! both sides: counts, names, what hangs on what -/
theorem sm_pos {n : Int} {f : Int → Int} (hf : ∀ j, 0 ≤ j → j < n → 0 ≤ f j) : 0 < sm n f ↔ ∃ j, 0 ≤ j ∧ j < n ∧ 0 < f j := by
  constructor
  · intro h
    refine Classical.byContradiction (fun z => ?_)
    have h2 : sm n f = sm n (fun _ => 0) := sm_congr (fun j j0 j1 => by
      have := hf j j0 j1
      have : ¬ 0 < f j := fun y => z ⟨j, j0, j1, y⟩
      show f j = 0
      omega)
    rw [h2, sm_zero] at h
    omega
  · rintro ⟨j, j0, j1, j2⟩
    have h1 := sm_mono hf (i := j + 1) (by omega) (by omega)
    have h2 : 0 ≤ sm j f := sm_0le (fun k k0 k1 => hf k k0 (by omega))
    rw [sm_s j0] at h1
    omega
theorem b1_pos {p : Prop} : 0 < b1 p ↔ p := by
  by_cases q : p
  · rw [b1_t q]; exact ⟨fun _ => q, fun _ => by decide⟩
  · rw [b1_f q]; exact ⟨fun z => absurd z (by decide), fun z => absurd z q⟩
theorem lsN_pos {N : Int} {nf : Int → Int} {cf : Int → Int → Int} {c : Int} : 0 < lsN N nf cf c ↔ ∃ i, 0 ≤ i ∧ i < N ∧ lsE nf cf i c := by
  unfold lsN
  rw [sm_pos (fun i _ _ => sm_0le (fun j _ _ => (b1_rng _).1))]
  constructor
  · rintro ⟨i, i0, i1, i2⟩
    obtain ⟨j, j0, j1, j2⟩ := (sm_pos (fun j _ _ => (b1_rng _).1)).mp i2
    exact ⟨i, i0, i1, j, j0, j1, b1_pos.mp j2⟩
  · rintro ⟨i, i0, i1, j, j0, j1, j2⟩
    exact ⟨i, i0, i1, (sm_pos (fun j _ _ => (b1_rng _).1)).mpr ⟨j, j0, j1, b1_pos.mpr j2⟩⟩
theorem rlsd_tie {M : px_mem} {pl : Int → Int → List Int} {nm : Int → List Int} {F : Int → Int} (hT : TE M pl nm F) (c : Int) : rlsd F c ↔ 0 < lsN (M 20 1) (nfC M) (cfC M) c := by
  rw [lsN_pos]
  have hn := TE_n hT
  constructor
  · rintro ⟨e, j, e0, e1, j0, j1, j2⟩
    rw [hn.1] at e1
    rw [(TE_e hT e0 e1).2.2.2.2.1] at j1
    have en := (TE_ent hT e0 e1 j0 j1).1.2.2
    refine ⟨e, e0, e1, j, j0, j1, ?_⟩
    rw [← j2]
    exact en.symm
  · rintro ⟨e, e0, e1, j, j0, j1, j2⟩
    have en := (TE_ent hT e0 e1 j0 j1).1.2.2
    refine ⟨e, j, e0, by rw [hn.1]; exact e1, j0, by rw [(TE_e hT e0 e1).2.2.2.2.1]; exact j1, ?_⟩
    rw [← j2]
    exact en
theorem bol_tie {M M' : px_mem} (ht : talC M M') (s : Int) : bol M' s = bolC M s := by
  have fr := ht.2.2.2.2
  unfold bol bolC
  refine sm_congr (fun c c0 c1 => ?_)
  unfold lbF
  rw [fr 62 (by decide), fr 60 (by decide)]
  have h4 := (ht.2.2.2.1 c c0 c1).2
  refine ifP_congr ⟨fun z => ⟨z.1, fun i i0 q => z.2 i i0 ((h4 i i0).mpr q)⟩, fun z => ⟨z.1, fun i i0 q => z.2 i i0 ((h4 i i0).mp q)⟩⟩ (fun _ => rfl)
theorem sea_uniq {M : px_mem} {s s' : Int} (h : seaC M s) (h' : seaC M s') : s = s' := inS_ext h.1.1 h'.1.1 (fun i i0 => by rw [h.2 i i0, h'.2 i i0])
theorem ltr_pth : ∀ (l : List Int) (b : Int), (∀ x ∈ l, sg x ≠ 0 ∧ sg x ≠ 1) → (l = [] → b ≠ 1) → pthF b l := by
  intro l
  induction l with
  | nil => intro b _ h; exact h rfl
  | cons x l ih =>
    intro b h _
    have hx := h x (List.mem_cons_self ..)
    exact ⟨hx.1, fun z => hx.2 z.1, ih (sg x) (fun y hy => h y (List.mem_cons_of_mem _ hy)) (fun _ => hx.2)⟩
theorem nm_P {l : List Int} (ho : okl l) (h47 : ∀ b ∈ l, b ≠ 47) (hne : l ≠ []) : isP l := ltr_pth l 1 (fun x hx => ⟨ho x hx, fun z => h47 x hx ((sg_1 x).mp z)⟩) (fun z => absurd z hne)
theorem nmV_t {l : List Int} (h : isP l ∧ ∀ b ∈ l, b ≠ 47) : nmV l = enc l := by unfold nmV; rw [if_pos h]
theorem nmV_f {l : List Int} (h : ¬ (isP l ∧ ∀ b ∈ l, b ≠ 47)) : nmV l = 0 := by unfold nmV; rw [if_neg h]
theorem br_tie {M : px_mem} {pl : Int → Int → List Int} {nm : Int → List Int} (hed : edA M pl nm) {P : List Int} (hl : P.length ≤ 12) : bearer M (nmV P) = brN M nm P := by
  unfold bearer brN
  by_cases h : isP P ∧ ∀ b ∈ P, b ≠ 47
  · have hok := isP_okl h.1
    have hne := isP_ne h.1
    rw [nmV_t h, if_neg (fun z => hne ((enc_0 hok hl).mp z))]
    refine fnd_congr (fun i i0 i1 => ?_)
    have hi := hed.2 i i0 i1
    rw [hi.2.2.2.2.2.2.2]
    exact ⟨fun z => ⟨hne, enc_inj hi.2.2.2.2.2.1.1 hok hi.2.2.2.2.2.1.2 hl z⟩, fun z => by rw [z.2]⟩
  · rw [nmV_f h, if_pos rfl]
    refine (fnd_miss (fun i i0 i1 z => h ?_)).symm
    have hi := hed.2 i i0 i1
    rw [← z.2]
    exact ⟨nm_P hi.2.2.2.2.2.1.1 hi.2.2.2.2.2.2.1 (by rw [z.2]; exact z.1), hi.2.2.2.2.2.2.1⟩
section PS
variable {M : px_mem}
theorem op_count0 : opO 154 288 [(0, 0)] := by
  intro M hR
  have hR2 := hR
  obtain ⟨pl, nm, N, g, hR3⟩ := hR
  have hR4 := hR3
  obtain ⟨hC, hT, hS, hP, hs⟩ := hR3
  have hed := hC.2.2.2.1
  have hci := hC.2.2.2.2.1
  have hl := edA_lsA hed
  have e : cntR M M 0 = M 4 3 := by
    rw [cntR_0]
    exact hS.1.trans hC.2.1.1.symm
  refine sp_count0 ⟨_, rfl, ?_⟩
  exact sp_rcount hT (fun M2 q4 q5 => ⟨by rw [e], ⟨pl, nm, N, g, RRg_r q4 q5 hR4⟩⟩)
theorem op_count1 : opO 154 288 [(0, 1)] := by
  intro M hR
  have hR2 := hR
  obtain ⟨pl, nm, N, g, hR3⟩ := hR
  have hR4 := hR3
  obtain ⟨hC, hT, hS, hP, hs⟩ := hR3
  have hed := hC.2.2.2.1
  have hci := hC.2.2.2.2.1
  have hl := edA_lsA hed
  have e : cntR M M 1 = M 4 4 := by
    rw [cntR_1]
    exact hs.1
  refine sp_count1 ⟨_, rfl, ?_⟩
  exact sp_rcount hT (fun M2 q4 q5 => ⟨by rw [e], ⟨pl, nm, N, g, RRg_r q4 q5 hR4⟩⟩)
theorem op_count2 : opO 154 288 [(0, 2)] := by
  intro M hR
  have hR2 := hR
  obtain ⟨pl, nm, N, g, hR3⟩ := hR
  have hR4 := hR3
  obtain ⟨hC, hT, hS, hP, hs⟩ := hR3
  have hed := hC.2.2.2.1
  have hci := hC.2.2.2.2.1
  have hl := edA_lsA hed
  have e : cntR M M 2 = M 4 5 := by
    rw [cntR_2]
    exact hs.2.1
  refine sp_count2 ⟨_, rfl, ?_⟩
  exact sp_rcount hT (fun M2 q4 q5 => ⟨by rw [e], ⟨pl, nm, N, g, RRg_r q4 q5 hR4⟩⟩)
theorem op_count3 : opO 154 288 [(0, 3)] := by
  intro M hR
  have hR2 := hR
  obtain ⟨pl, nm, N, g, hR3⟩ := hR
  have hR4 := hR3
  obtain ⟨hC, hT, hS, hP, hs⟩ := hR3
  have hed := hC.2.2.2.1
  have hci := hC.2.2.2.2.1
  have hl := edA_lsA hed
  have e : cntR M M 3 = M 20 1 := by
    rw [cntR_3]
  refine sp_count3 ⟨_, rfl, ?_⟩
  exact sp_rcount hT (fun M2 q4 q5 => ⟨by rw [e], ⟨pl, nm, N, g, RRg_r q4 q5 hR4⟩⟩)
theorem op_count4 : opO 154 288 [(0, 4)] := by
  intro M hR
  have hR2 := hR
  obtain ⟨pl, nm, N, g, hR3⟩ := hR
  have hR4 := hR3
  obtain ⟨hC, hT, hS, hP, hs⟩ := hR3
  have hed := hC.2.2.2.1
  have hci := hC.2.2.2.2.1
  have hl := edA_lsA hed
  have e : cntR M M 4 = M 20 2 := by
    rw [cntR_4]
    exact hs.2.2.1
  refine sp_count4 ⟨_, rfl, ?_⟩
  exact sp_rcount hT (fun M2 q4 q5 => ⟨by rw [e], ⟨pl, nm, N, g, RRg_r q4 q5 hR4⟩⟩)
theorem op_count5 : opO 154 288 [(0, 5)] := by
  intro M hR
  have hR2 := hR
  obtain ⟨pl, nm, N, g, hR3⟩ := hR
  have hR4 := hR3
  obtain ⟨hC, hT, hS, hP, hs⟩ := hR3
  have hed := hC.2.2.2.1
  have hci := hC.2.2.2.2.1
  have hl := edA_lsA hed
  have e : cntR M M 5 = sm 40 (fun c => b1 (0 ≤ M 62 c)) := by
    rw [cntR_5]
    exact sm_congr (fun c _ _ => by unfold cbF; rw [if_pos rfl])
  refine sp_count5 ⟨_, rfl, ?_⟩
  exact sp_rcount hT (fun M2 q4 q5 => ⟨by rw [e], ⟨pl, nm, N, g, RRg_r q4 q5 hR4⟩⟩)
theorem op_count6 : opO 154 288 [(0, 6)] := by
  intro M hR
  have hR2 := hR
  obtain ⟨pl, nm, N, g, hR3⟩ := hR
  have hR4 := hR3
  obtain ⟨hC, hT, hS, hP, hs⟩ := hR3
  have hed := hC.2.2.2.1
  have hci := hC.2.2.2.2.1
  have hl := edA_lsA hed
  have e : cntR M M 6 = sm 40 (fun c => if 0 ≤ M 62 c then M 60 c else 0) := by
    rw [cntR_6]
  refine sp_count6 (fun c c0 c1 c2 => by have := cokC (hci.1 c c0 c1 c2); omega) ⟨_, rfl, ?_⟩
  exact sp_rcount hT (fun M2 q4 q5 => ⟨by rw [e], ⟨pl, nm, N, g, RRg_r q4 q5 hR4⟩⟩)
theorem op_count7 : opO 154 288 [(0, 7)] := by
  intro M hR
  have hR2 := hR
  obtain ⟨pl, nm, N, g, hR3⟩ := hR
  have hR4 := hR3
  obtain ⟨hC, hT, hS, hP, hs⟩ := hR3
  have hed := hC.2.2.2.1
  have hci := hC.2.2.2.2.1
  have hl := edA_lsA hed
  have e : cntR M M 7 = lg (fun k => M 54 k < 0) 400 := by
    rw [cntR_7]
  refine sp_count7 ⟨_, rfl, ?_⟩
  exact sp_rcount hT (fun M2 q4 q5 => ⟨by rw [e], ⟨pl, nm, N, g, RRg_r q4 q5 hR4⟩⟩)
theorem op_count8 : opO 154 288 [(0, 8)] := by
  intro M hR
  have hR2 := hR
  obtain ⟨pl, nm, N, g, hR3⟩ := hR
  have hR4 := hR3
  obtain ⟨hC, hT, hS, hP, hs⟩ := hR3
  have hed := hC.2.2.2.1
  have hci := hC.2.2.2.2.1
  have hl := edA_lsA hed
  have e : cntR M M 8 = sm 40 (fun c => b1 (0 ≤ M 62 c ∧ M 105 c = 0)) := by
    rw [cntR_8]
    exact sm_congr (fun c _ _ => by unfold cbF; rw [if_neg (by decide), if_pos rfl])
  refine sp_count8 ⟨_, rfl, ?_⟩
  exact sp_rcount hT (fun M2 q4 q5 => ⟨by rw [e], ⟨pl, nm, N, g, RRg_r q4 q5 hR4⟩⟩)
theorem op_count9 : opO 154 288 [(0, 9)] := by
  intro M hR
  have hR2 := hR
  obtain ⟨pl, nm, N, g, hR3⟩ := hR
  have hR4 := hR3
  obtain ⟨hC, hT, hS, hP, hs⟩ := hR3
  have hed := hC.2.2.2.1
  have hci := hC.2.2.2.2.1
  have hl := edA_lsA hed
  have e : cntR M M 9 = tcN M (M 20 1) := by
    rw [cntR_9]
  refine sp_count9 hed.1 hl ⟨_, rfl, ?_⟩
  exact sp_rcount hT (fun M2 q4 q5 => ⟨by rw [e], ⟨pl, nm, N, g, RRg_r q4 q5 hR4⟩⟩)
theorem op_count10 : opO 154 288 [(0, 10)] := by
  intro M hR
  have hR2 := hR
  obtain ⟨pl, nm, N, g, hR3⟩ := hR
  have hR4 := hR3
  obtain ⟨hC, hT, hS, hP, hs⟩ := hR3
  have hed := hC.2.2.2.1
  have hci := hC.2.2.2.2.1
  have hl := edA_lsA hed
  have e : cntR M M 10 = cbN M (M 20 1) := by
    rw [cntR_10]
  refine sp_count10 hed.1 hl (fun i j i0 i1 j0 j1 => by
    have en := TE_ent hT i0 i1 j0 j1
    have := cokC (hci.1 _ en.2.2.2.1 en.2.2.2.2.1 en.2.2.2.2.2)
    have e : cfC M i j = M (M 21 i + 2) j := rfl
    rw [e]; omega) ⟨_, rfl, ?_⟩
  exact sp_rcount hT (fun M2 q4 q5 => ⟨by rw [e], ⟨pl, nm, N, g, RRg_r q4 q5 hR4⟩⟩)
theorem op_count11 : opO 154 288 [(0, 11)] := by
  intro M hR
  have hR2 := hR
  obtain ⟨pl, nm, N, g, hR3⟩ := hR
  have hR4 := hR3
  obtain ⟨hC, hT, hS, hP, hs⟩ := hR3
  have hed := hC.2.2.2.1
  have hci := hC.2.2.2.2.1
  have hl := edA_lsA hed
  have e : cntR M M 11 = M 2 1 := by
    rw [cntR_11]
    exact hP.1
  refine sp_count11 ⟨_, rfl, ?_⟩
  exact sp_rcount hT (fun M2 q4 q5 => ⟨by rw [e], ⟨pl, nm, N, g, RRg_r q4 q5 hR4⟩⟩)
theorem op_count12 : opO 154 288 [(0, 12)] := by
  intro M hR
  have hR2 := hR
  obtain ⟨pl, nm, N, g, hR3⟩ := hR
  have hR4 := hR3
  obtain ⟨hC, hT, hS, hP, hs⟩ := hR3
  have hed := hC.2.2.2.1
  have hci := hC.2.2.2.2.1
  have hl := edA_lsA hed
  have e : cntR M M 12 = sm 40 (fun c => b1 (0 ≤ M 62 c ∧ 0 ≤ M 61 c)) := by
    rw [cntR_12]
    exact sm_congr (fun c _ _ => by unfold cbF; rw [if_neg (by decide), if_neg (by decide), if_pos rfl])
  refine sp_count12 ⟨_, rfl, ?_⟩
  exact sp_rcount hT (fun M2 q4 q5 => ⟨by rw [e], ⟨pl, nm, N, g, RRg_r q4 q5 hR4⟩⟩)
theorem op_count13 : opO 154 288 [(0, 13)] := by
  intro M hR
  have hR2 := hR
  obtain ⟨pl, nm, N, g, hR3⟩ := hR
  have hR4 := hR3
  obtain ⟨hC, hT, hS, hP, hs⟩ := hR3
  have hed := hC.2.2.2.1
  have hci := hC.2.2.2.2.1
  have hl := edA_lsA hed
  have e : cntR M M 13 = mx (M 62) 40 := by
    rw [cntR_13]
  refine sp_count13 (fun c c0 c1 => by
    rcases (by omega : 0 ≤ M 62 c ∨ M 62 c < 0) with q | q
    · have h := hci.1 c c0 c1 q
      unfold cok at h; omega
    · omega) ⟨_, rfl, ?_⟩
  exact sp_rcount hT (fun M2 q4 q5 => ⟨by rw [e], ⟨pl, nm, N, g, RRg_r q4 q5 hR4⟩⟩)
theorem op_count14 : opO 154 288 [(0, 14)] := by
  intro M hR
  have hR2 := hR
  obtain ⟨pl, nm, N, g, hR3⟩ := hR
  have hR4 := hR3
  obtain ⟨hC, hT, hS, hP, hs⟩ := hR3
  have hed := hC.2.2.2.1
  have hci := hC.2.2.2.2.1
  have hl := edA_lsA hed
  have e : cntR M M 14 = M 1 10 := by
    rw [cntR_14]
    exact hs.2.2.2
  refine sp_count14 ⟨_, rfl, ?_⟩
  exact sp_rcount hT (fun M2 q4 q5 => ⟨by rw [e], ⟨pl, nm, N, g, RRg_r q4 q5 hR4⟩⟩)
theorem cntR_N (M Mc : px_mem) {w : Int} (h : w < 0 ∨ 15 ≤ w) : cntR M Mc w = -1 := by
  unfold cntR
  rw [if_neg (by omega), if_neg (by omega), if_neg (by omega), if_neg (by omega), if_neg (by omega), if_neg (by omega), if_neg (by omega), if_neg (by omega), if_neg (by omega), if_neg (by omega), if_neg (by omega), if_neg (by omega), if_neg (by omega), if_neg (by omega), if_neg (by omega)]
theorem op_countN {w : Int} (h : w < 0 ∨ 15 ≤ w) : opO 154 288 [(0, w)] := by
  intro M hR
  have hR2 := hR
  obtain ⟨pl, nm, N, g, hR3⟩ := hR
  have hR4 := hR3
  obtain ⟨hC, hT, hS, hP, hs⟩ := hR3
  have hed := hC.2.2.2.1
  have hci := hC.2.2.2.2.1
  have hl := edA_lsA hed
  refine sp_countN h ⟨_, rfl, ?_⟩
  exact sp_rcount hT (fun M2 q4 q5 => ⟨by rw [cntR_N M M h], ⟨pl, nm, N, g, RRg_r q4 q5 hR4⟩⟩)
theorem op_count (w : Int) : opO 154 288 [(0, w)] := by
  by_cases h : w < 0 ∨ 15 ≤ w
  · exact op_countN h
  · rcases (by omega : w = 0 ∨ w = 1 ∨ w = 2 ∨ w = 3 ∨ w = 4 ∨ w = 5 ∨ w = 6 ∨ w = 7 ∨ w = 8 ∨ w = 9 ∨ w = 10 ∨ w = 11 ∨ w = 12 ∨ w = 13 ∨ w = 14) with e | e | e | e | e | e | e | e | e | e | e | e | e | e | e <;> subst e
    · exact op_count0
    · exact op_count1
    · exact op_count2
    · exact op_count3
    · exact op_count4
    · exact op_count5
    · exact op_count6
    · exact op_count7
    · exact op_count8
    · exact op_count9
    · exact op_count10
    · exact op_count11
    · exact op_count12
    · exact op_count13
    · exact op_count14
theorem op_of_fr {M M1 : px_mem} {pl : Int → Int → List Int} {nm : Int → List Int} {N : Int} {g : Int → fe} (h : RRg M pl nm N g) (hf : ∀ b, ¬ scr b → M1 b = M b) : TE M pl nm (M1 128) := by
  rw [hf 128 (by unfold scr; decide)]; exact h.2.1
theorem tal_scr {M M1 : px_mem} (ht : talC M M1) : ∀ b, ¬ scr b → M1 b = M b := fun b b0 => ht.2.2.2.2 b (fun z => b0 (by unfold scr; omega))
theorem frb_out9 {A B : px_mem} (h : frb A B) : A 128 = B 128 ∧ out A B := ⟨h 128 (by decide), fun b b0 => h b (by omega), h 130 (by decide), by rw [h 127 (by decide)]⟩
theorem op_of0 (a : Int) : opO 158 290 [(0, a), (0, 0)] := by
  intro M hR
  have hR2 := hR
  obtain ⟨pl, nm, N, g, hR3⟩ := hR
  have hR4 := hR3
  obtain ⟨hC, hT, hS, hP, hs⟩ := hR3
  have hed := hC.2.2.2.1
  have hci := hC.2.2.2.2.1
  have hl := edA_lsA hed
  refine sp_of0 hed hci (fun z => ⟨_, rfl, ?_⟩) (fun z1 z2 => ⟨_, rfl, ?_⟩)
  · exact sp_rof0 hT (fun _ => ⟨rfl, hR2⟩) (fun q1 q2 => by exfalso; omega)
  · exact sp_rof0 hT (fun _ => by exfalso; omega) (fun q1 q2 => ⟨rfl, hR2⟩)
theorem op_of1 (a : Int) : opO 158 290 [(0, a), (0, 1)] := by
  intro M hR
  have hR2 := hR
  obtain ⟨pl, nm, N, g, hR3⟩ := hR
  have hR4 := hR3
  obtain ⟨hC, hT, hS, hP, hs⟩ := hR3
  have hed := hC.2.2.2.1
  have hci := hC.2.2.2.2.1
  have hl := edA_lsA hed
  refine sp_of1 hed hci (fun z => ⟨_, rfl, ?_⟩) (fun z1 z2 => ⟨_, rfl, ?_⟩)
  · exact sp_rof1 hT (fun _ => ⟨rfl, hR2⟩) (fun q1 q2 => by exfalso; omega)
  · exact sp_rof1 hT (fun _ => by exfalso; omega) (fun q1 q2 => ⟨rfl, hR2⟩)
theorem op_of2 (a : Int) : opO 158 290 [(0, a), (0, 2)] := by
  intro M hR
  have hR2 := hR
  obtain ⟨pl, nm, N, g, hR3⟩ := hR
  have hR4 := hR3
  obtain ⟨hC, hT, hS, hP, hs⟩ := hR3
  have hed := hC.2.2.2.1
  have hci := hC.2.2.2.2.1
  have hl := edA_lsA hed
  refine sp_of2 hed hci (fun z => ⟨_, rfl, ?_⟩) (fun z1 z2 => ⟨_, rfl, ?_⟩)
  · exact sp_rof2 hT (fun _ => ⟨rfl, hR2⟩) (fun q1 q2 => by exfalso; omega)
  · exact sp_rof2 hT (fun _ => by exfalso; omega) (fun q1 q2 => ⟨rfl, hR2⟩)
theorem op_of3 (a : Int) : opO 158 290 [(0, a), (0, 3)] := by
  intro M hR
  have hR2 := hR
  obtain ⟨pl, nm, N, g, hR3⟩ := hR
  have hR4 := hR3
  obtain ⟨hC, hT, hS, hP, hs⟩ := hR3
  have hed := hC.2.2.2.1
  have hci := hC.2.2.2.2.1
  have hl := edA_lsA hed
  refine sp_of3 hed hci (fun z => ⟨_, rfl, ?_⟩) (fun z1 z2 => ⟨_, rfl, ?_⟩)
  · exact sp_rof3 hT (fun _ => ⟨rfl, hR2⟩) (fun q1 q2 => by exfalso; omega)
  · exact sp_rof3 hT (fun _ => by exfalso; omega) (fun q1 q2 => ⟨rfl, hR2⟩)
theorem op_of7 (a : Int) : opO 158 290 [(0, a), (0, 7)] := by
  intro M hR
  have hR2 := hR
  obtain ⟨pl, nm, N, g, hR3⟩ := hR
  have hR4 := hR3
  obtain ⟨hC, hT, hS, hP, hs⟩ := hR3
  have hed := hC.2.2.2.1
  have hci := hC.2.2.2.2.1
  have hl := edA_lsA hed
  refine sp_of7 hed hci (fun z => ⟨_, rfl, ?_⟩) (fun z1 z2 => ⟨_, rfl, ?_⟩)
  · exact sp_rof7 hT (fun _ => ⟨rfl, hR2⟩) (fun q1 q2 => by exfalso; omega)
  · exact sp_rof7 hT (fun _ => by exfalso; omega) (fun q1 q2 => ⟨rfl, hR2⟩)
theorem op_of8 (a : Int) : opO 158 290 [(0, a), (0, 8)] := by
  intro M hR
  have hR2 := hR
  obtain ⟨pl, nm, N, g, hR3⟩ := hR
  have hR4 := hR3
  obtain ⟨hC, hT, hS, hP, hs⟩ := hR3
  have hed := hC.2.2.2.1
  have hci := hC.2.2.2.2.1
  have hl := edA_lsA hed
  refine sp_of8 hed hci (fun z => ⟨_, rfl, ?_⟩) (fun z1 z2 => ⟨_, rfl, ?_⟩)
  · exact sp_rof8 hT (fun _ => ⟨rfl, hR2⟩) (fun q1 q2 => by exfalso; omega)
  · exact sp_rof8 hT (fun _ => by exfalso; omega) (fun q1 q2 => ⟨rfl, hR2⟩)
theorem op_of4 (a : Int) : opO 158 290 [(0, a), (0, 4)] := by
  intro M hR
  have hR2 := hR
  obtain ⟨pl, nm, N, g, hR3⟩ := hR
  have hR4 := hR3
  obtain ⟨hC, hT, hS, hP, hs⟩ := hR3
  have hed := hC.2.2.2.1
  have hci := hC.2.2.2.2.1
  have hl := edA_lsA hed
  refine sp_of4 hed hci (fun z => ⟨_, rfl, ?_⟩) (fun z1 z2 M1 ht => ⟨_, rfl, ?_⟩)
  · exact sp_rof4 hT (fun _ => ⟨rfl, hR2⟩) (fun q1 q2 => by exfalso; omega)
  · have hf := tal_scr ht
    have es : setv M a = px_ishl 1 (slot M a) := by unfold setv; rw [if_neg (by omega)]
    refine sp_rof4 (Mc := M) (op_of_fr hR4 hf) (fun _ => by exfalso; omega) (fun q1 q2 M2 q3 => ⟨by rw [bol_tie ht, es], RR_fin hR4 hf (frb_out9 q3).1 (frb_out9 q3).2⟩)
theorem op_of5 (a : Int) : opO 158 290 [(0, a), (0, 5)] := by
  intro M hR
  have hR2 := hR
  obtain ⟨pl, nm, N, g, hR3⟩ := hR
  have hR4 := hR3
  obtain ⟨hC, hT, hS, hP, hs⟩ := hR3
  have hed := hC.2.2.2.1
  have hci := hC.2.2.2.2.1
  have hl := edA_lsA hed
  have hnum := hC.2.2.2.2.2.1
  refine sp_of5 hed hci hnum (fun z => ⟨_, rfl, ?_⟩) (fun z1 z2 t ht => ⟨_, rfl, ?_⟩)
  · exact sp_rof5 hT (numI_acy hnum) (fun _ => ⟨rfl, hR2⟩) (fun q1 q2 => by exfalso; omega)
  · exact sp_rof5 hT (numI_acy hnum) (fun _ => by exfalso; omega) (fun q1 q2 t' ht' => ⟨by rw [ancC_uniq ht ht'], hR2⟩)
theorem op_of6 (a : Int) : opO 158 290 [(0, a), (0, 6)] := by
  intro M hR
  have hR2 := hR
  obtain ⟨pl, nm, N, g, hR3⟩ := hR
  have hR4 := hR3
  obtain ⟨hC, hT, hS, hP, hs⟩ := hR3
  have hed := hC.2.2.2.1
  have hci := hC.2.2.2.2.1
  have hl := edA_lsA hed
  refine sp_of6 hed hci (fun z => ⟨_, rfl, ?_⟩) (fun z1 z2 M1 w4 => ⟨_, rfl, ?_⟩)
  · exact sp_rof6 hT (fun _ => ⟨rfl, hR2⟩) (fun q1 q2 => by exfalso; omega)
  · have hf : ∀ b, ¬ scr b → M1 b = M b := fun b b0 => w4 b (fun e => b0 (by rw [e]; unfold scr; decide))
    exact sp_rof6 (Mc := M) (op_of_fr hR4 hf) (fun _ => by exfalso; omega) (fun q1 q2 M2 q3 => ⟨rfl, RR_fin hR4 hf (frX_128 q3) (frX_out q3)⟩)
theorem op_ofN (a w : Int) (hw : w < 0 ∨ 9 ≤ w) : opO 158 290 [(0, a), (0, w)] := by
  intro M hR
  have hR2 := hR
  obtain ⟨pl, nm, N, g, hR3⟩ := hR
  have hR4 := hR3
  obtain ⟨hC, hT, hS, hP, hs⟩ := hR3
  have hed := hC.2.2.2.1
  have hci := hC.2.2.2.2.1
  have hl := edA_lsA hed
  refine sp_ofN hed hw ⟨_, rfl, ?_⟩
  exact sp_rofN hT hw ⟨rfl, hR2⟩
theorem op_of (a w : Int) : opO 158 290 [(0, a), (0, w)] := by
  by_cases h : w < 0 ∨ 9 ≤ w
  · exact op_ofN a w h
  · rcases (by omega : w = 0 ∨ w = 1 ∨ w = 2 ∨ w = 3 ∨ w = 4 ∨ w = 5 ∨ w = 6 ∨ w = 7 ∨ w = 8) with e | e | e | e | e | e | e | e | e <;> subst e
    · exact op_of0 a
    · exact op_of1 a
    · exact op_of2 a
    · exact op_of3 a
    · exact op_of4 a
    · exact op_of5 a
    · exact op_of6 a
    · exact op_of7 a
    · exact op_of8 a
theorem fac_tie (M : px_mem) (c : Int) {w : Int} (h : w ≠ 6) : facR M c w = fact M c w := by
  unfold facR fact
  by_cases q0 : w = 0
  · rw [if_pos q0, if_pos q0]
  rw [if_neg q0, if_neg q0]
  by_cases q1 : w = 1
  · rw [if_pos q1, if_pos q1]
  rw [if_neg q1, if_neg q1]
  by_cases q2 : w = 2
  · rw [if_pos q2, if_pos q2]
  rw [if_neg q2, if_neg q2]
  by_cases q3 : w = 3
  · rw [if_pos q3, if_pos q3]
  rw [if_neg q3, if_neg q3]
  by_cases q4 : w = 4
  · rw [if_pos q4, if_pos q4]
  rw [if_neg q4, if_neg q4]
  by_cases q5 : w = 5
  · rw [if_pos q5, if_pos q5]
  rw [if_neg q5, if_neg q5, if_neg h]
theorem op_content (c w : Int) : opO 145 295 [(0, c), (0, w)] := by
  intro M hR
  have hR2 := hR
  obtain ⟨pl, nm, N, g, hR3⟩ := hR
  have hR4 := hR3
  obtain ⟨hC, hT, hS, hP, hs⟩ := hR3
  have hed := hC.2.2.2.1
  have hci := hC.2.2.2.2.1
  have hl := edA_lsA hed
  refine sp_content hed.1 hl hci (fun z => ⟨_, rfl, ?_⟩) (fun M1 z1 z2 ht => ⟨_, rfl, ?_⟩) (fun z1 z2 => ⟨_, rfl, ?_⟩)
  · exact sp_rcontent hT (fun _ => ⟨rfl, hR2⟩) (fun M2 q1 q2 q3 v q4 => absurd q1 z)
  · have hf := tal_scr ht
    refine sp_rcontent (Mc := M) (op_of_fr hR4 hf) (fun z => absurd z1 z) (fun M2 q1 q2 q3 v q4 => ⟨?_, RR_fin hR4 hf q2 q3⟩)
    rw [q4, z2, facR_6, ht.1 c z1.1 z1.2.1]
  · refine sp_rcontent hT (fun z => absurd z1 z) (fun M2 q1 q2 q3 v q4 => ⟨?_, ⟨pl, nm, N, g, RRg_r q2 q3 hR4⟩⟩)
    rw [q4, fac_tie M c z2]
theorem op_pieces (c b : Int) : opO 144 270 [(0, c), (0, b)] := by
  intro M hR
  have hR2 := hR
  obtain ⟨pl, nm, N, g, hR3⟩ := hR
  have hR4 := hR3
  obtain ⟨hC, hT, hS, hP, hs⟩ := hR3
  have hed := hC.2.2.2.1
  have hci := hC.2.2.2.2.1
  have hl := edA_lsA hed
  refine sp_pieces hci (fun z => ⟨_, rfl, ?_⟩) (fun z1 z2 => ⟨_, rfl, ?_⟩) (fun M1 z1 z2 z3 z4 => ⟨_, rfl, ?_⟩)
  · exact sp_rpieces hT.1 (fun _ => ⟨rfl, hR2⟩) (fun M2 q1 q2 q3 q4 => absurd q1 z) (fun M2 q1 q2 q3 q4 q5 => absurd q1 z)
  · refine sp_rpieces hT.1 (fun z => absurd z1 z) (fun M2 q1 q2 q3 q4 => ⟨rfl, ⟨pl, nm, N, g, RRg_r q3 q4 hR4⟩⟩) (fun M2 q1 q2 q3 q4 q5 => ?_)
    exfalso; omega
  · have hf : ∀ b, ¬ scr b → M1 b = M b := fun b b0 => z4 b (fun e => b0 (by rw [e]; unfold scr; decide)) (fun e => b0 (by rw [e]; unfold scr; decide))
    refine sp_rpieces (Mc := M) (op_of_fr hR4 hf).1 (fun z => absurd z1 z) (fun M2 q1 q2 q3 q4 => ?_) (fun M2 q1 q2 q3 q4 q5 => ⟨rfl, RR_fin hR4 hf q4 q5⟩)
    exfalso; omega
theorem op_risk (p w : Int) : opO 140 262 [(0, p), (0, w)] := by
  intro M hR
  have hR2 := hR
  obtain ⟨pl, nm, N, g, hR3⟩ := hR
  have hR4 := hR3
  obtain ⟨hC, hT, hS, hP, hs⟩ := hR3
  have hed := hC.2.2.2.1
  have hci := hC.2.2.2.2.1
  have hl := edA_lsA hed
  refine sp_risk hed.1 hl hci (fun z => ⟨_, rfl, ?_⟩) (fun z1 z2 => ⟨_, rfl, ?_⟩) (fun M1 z1 z2 z3 ht => ⟨_, rfl, ?_⟩)
  · exact sp_rrisk hT (fun _ => ⟨rfl, hR2⟩) (fun q1 q2 => absurd q1 z) (fun q1 q2 q3 => absurd q1 z)
  · exact sp_rrisk hT (fun z => absurd z1 z) (fun q1 q2 => ⟨rfl, hR2⟩) (fun q1 q2 q3 => by exfalso; omega)
  · have hf := tal_scr ht
    refine sp_rrisk (Mc := M) (op_of_fr hR4 hf) (fun z => absurd z1 z) (fun q1 q2 => by exfalso; omega) (fun q1 q2 q3 => ⟨?_, ⟨pl, nm, N, g, RRg_c hf hR4⟩⟩)
    rcases (by omega : w = 0 ∨ w = 1) with e | e <;> subst e
    · have e9 : hgF M 0 = fun _ => 1 := by funext c; unfold hgF; rw [if_pos rfl]
      rw [if_pos rfl, ht.2.2.1 _ z2 z3, e9]
    · have e9 : hgF M 1 = lsN (M 20 1) (nfC M) (cfC M) := by funext c; unfold hgF; rw [if_neg (by decide)]
      rw [if_neg (by decide), ht.2.1 _ z2 z3, e9]
theorem op_weakest (w : Int) : opO 141 263 [(0, w)] := by
  intro M hR
  have hR2 := hR
  obtain ⟨pl, nm, N, g, hR3⟩ := hR
  have hR4 := hR3
  obtain ⟨hC, hT, hS, hP, hs⟩ := hR3
  have hed := hC.2.2.2.1
  have hci := hC.2.2.2.2.1
  have hl := edA_lsA hed
  refine sp_weakest hed.1 hl hci (fun z => ⟨_, rfl, ?_⟩) (fun M1 z1 ht => ⟨_, rfl, ?_⟩)
  · exact sp_rweakest hT (fun _ => ⟨rfl, hR2⟩) (fun m x q1 q2 => absurd q1 z)
  · have hf := tal_scr ht
    refine sp_rweakest (Mc := M) (op_of_fr hR4 hf) (fun z => absurd z1 z) (fun m x q1 q2 => ⟨?_, ⟨pl, nm, N, g, RRg_c hf hR4⟩⟩)
    have e9 : hgF M 1 = lsN (M 20 1) (nfC M) (cfC M) := by funext c; unfold hgF; rw [if_neg (by decide)]
    rw [e9] at q2
    have hsp := wkR_spec (M 54) (M1 112) 400
    have hown : ∀ k, 0 ≤ k → k < 400 → 0 ≤ M 54 k → M1 112 (M 54 k) = full (M 62) (M 61) (lsN (M 20 1) (nfC M) (cfC M)) 3 (M 54 k) := fun k k0 k1 k2 => by
      have ho := hci.2.2.1.2 k k0 k1
      exact ht.2.1 _ k2 (by omega)
    have hsp2 : wkS (M 54) (full (M 62) (M 61) (lsN (M 20 1) (nfC M) (cfC M)) 3) 400 (wkR (M 54) (M1 112) 400).1 (wkR (M 54) (M1 112) 400).2 := by
      rcases hsp with ⟨a1, a2, a3⟩ | ⟨a1, a2, a3, a4, a5, a6⟩
      · exact Or.inl ⟨a1, a2, fun k k0 k1 k2 => by rw [← hown k k0 k1 k2]; exact a3 k k0 k1 k2⟩
      · exact Or.inr ⟨a1, a2, a3, by rw [← hown _ a1 a2 a3]; exact a4, a5, fun k k0 k1 k2 => by rw [← hown k k0 k1 k2]; exact a6 k k0 k1 k2⟩
    obtain ⟨e1, e2⟩ := wkS_uniq q2 hsp2
    rw [e1, e2]
theorem op_drops (m w : Int) : opO 142 266 [(0, m), (0, w)] := by
  intro M hR
  have hR2 := hR
  obtain ⟨pl, nm, N, g, hR3⟩ := hR
  have hR4 := hR3
  obtain ⟨hC, hT, hS, hP, hs⟩ := hR3
  have hed := hC.2.2.2.1
  have hci := hC.2.2.2.2.1
  have hl := edA_lsA hed
  refine sp_drops hed.1 hl hci (fun z => ⟨_, rfl, ?_⟩) (fun M1 sea b f z1 ht z2 z3 => ⟨_, rfl, ?_⟩)
  · exact sp_rdrops hT (fun _ => ⟨rfl, hR2⟩) (fun M2 sea b f q1 q2 q3 q4 => absurd q1 z)
  · have hf := tal_scr ht
    refine sp_rdrops (Mc := M) (op_of_fr hR4 hf) (fun z => absurd z1 z) (fun M2 sea' b' f' q1 q2 q3 q4 => ⟨?_, RR_fin hR4 hf (frb_out9 q2).1 (frb_out9 q2).2⟩)
    have es := sea_uniq z2 q3
    subst es
    have ep : (fun s => px_iand s sea = 0 ∧ m ≤ bol M1 s) = (fun s => px_iand s sea = 0 ∧ m ≤ bolC M s) := funext (fun s => by rw [bol_tie ht])
    rw [ep, q4] at z3
    injection z3 with e1 e2
    rw [← e1, ← e2, bol_tie ht]
theorem op_thrift : opO 143 269 [] := by
  intro M hR
  have hR2 := hR
  obtain ⟨pl, nm, N, g, hR3⟩ := hR
  have hR4 := hR3
  obtain ⟨hC, hT, hS, hP, hs⟩ := hR3
  have hed := hC.2.2.2.1
  have hci := hC.2.2.2.2.1
  have hl := edA_lsA hed
  refine sp_thrift hed.1 hl hci (fun M1 M2 r ht z1 z2 => ⟨_, rfl, ?_⟩)
  have hf1 := tal_scr ht
  have hf : ∀ b, ¬ scr b → M2 b = M b := fun b b0 => by
    rw [z2 b (fun e => b0 (by rw [e]; unfold scr; decide)) (fun e => b0 (by rw [e]; unfold scr; decide)) (fun e => b0 (by rw [e]; unfold scr; decide))]
    exact hf1 b b0
  have e128 : M2 128 = M 128 := hf 128 (by unfold scr; decide)
  refine sp_rthrift (Mc := M1) (v := 111) (pl := pl) (nm := nm) (by rw [e128]; exact TE_eq (fun b _ _ b2 => hf1 b b2) hT) (fun c c0 c1 => ?_) z1 (fun M3 q1 q2 => ⟨rfl, RR_fin hR4 hf q1 q2⟩)
  rw [e128, rlsd_tie hT]
  unfold selA
  rw [ht.1 c c0 c1]
theorem op_named (q : Int) : opO 130 280 [(0, q)] := by
  intro M hR
  have hR2 := hR
  obtain ⟨pl, nm, N, g, hR3⟩ := hR
  have hR4 := hR3
  obtain ⟨hC, hT, hS, hP, hs⟩ := hR3
  have hed := hC.2.2.2.1
  have hci := hC.2.2.2.2.1
  have hl := edA_lsA hed
  have htb := tp_b hP hC.1
  have e3 := hP.1
  have hw : wdq M q ↔ (1 ≤ q ∧ q ≤ 12 ∧ q ≤ M 2 1) := by unfold wdq; rw [e3]
  refine sp_named hC.1 hed (fun z => ⟨_, rfl, ?_⟩) (fun z1 z2 => ⟨_, rfl, ?_⟩) (fun z1 z2 z3 => ⟨_, rfl, ?_⟩)
  · exact sp_rnamed htb hT (fun _ => ⟨rfl, hR2⟩) (fun M2 q1 q2 q3 q4 => absurd (hw.mp q1) z) (fun M2 q1 q2 q3 q4 q5 => absurd (hw.mp q1) z)
  · have et := tp_w0 hP z1.2.2
    have eb := br_tie hed (P := lst (M 3) q) (by rw [lst_lenN]; omega)
    refine sp_rnamed htb hT (fun z => absurd (hw.mpr z1) z) (fun M2 q1 q2 q3 q4 => ⟨rfl, ⟨pl, nm, N, g, RRg_r q3 q4 hR4⟩⟩) (fun M2 q1 q2 q3 q4 q5 => ?_)
    rw [et] at q2; exfalso; omega
  · have et := tp_w0 hP z1.2.2
    have eb := br_tie hed (P := lst (M 3) q) (by rw [lst_lenN]; omega)
    refine sp_rnamed htb hT (fun z => absurd (hw.mpr z1) z) (fun M2 q1 q2 q3 q4 => ?_) (fun M2 q1 q2 q3 q4 q5 => ⟨by rw [et, eb], ⟨pl, nm, N, g, RRg_r q4 q5 hR4⟩⟩)
    rw [et] at q2; exfalso; omega
theorem op_nameByte (a k : Int) : opO 131 281 [(0, a), (0, k)] := by
  intro M hR
  have hR2 := hR
  obtain ⟨pl, nm, N, g, hR3⟩ := hR
  have hR4 := hR3
  obtain ⟨hC, hT, hS, hP, hs⟩ := hR3
  have hed := hC.2.2.2.1
  have hci := hC.2.2.2.2.1
  have hl := edA_lsA hed
  refine sp_nameByte hed (fun z => ⟨_, rfl, ?_⟩) (fun z1 z2 => ⟨_, rfl, ?_⟩)
  · exact sp_rnameByte hT (fun _ => ⟨rfl, hR2⟩) (fun q1 q2 q3 => by exfalso; omega)
  · refine sp_rnameByte hT (fun z => by exfalso; omega) (fun q1 q2 q3 => ⟨?_, hR2⟩)
    rw [usg_at (hed.2 _ q1 q2).2.2.2.2.2.1.1 z2]
end PS
