set_option maxRecDepth 100000 in
/-- X12_fileAt -/
theorem cd_214 : px_at 214 0 = some (2, [], .bipush 6, []) ∧ px_at 214 2 = some (4, [], .bipush 54, []) ∧ px_at 214 4 = some (5, [], .iload_n 1, []) ∧ px_at 214 5 = some (6, [], .imul, []) ∧ px_at 214 6 = some (7, [], .iadd, []) ∧ px_at 214 7 = some (8, [], .ireturn, [0]) := ⟨rfl, rfl, rfl, rfl, rfl, rfl⟩
set_option maxRecDepth 100000 in
/-- X12_copiesFile -/
theorem cd_215 : px_at 215 0 = some (1, [], .iconst 0, []) ∧ px_at 215 1 = some (2, [], .istore_n 3, []) ∧ px_at 215 2 = some (3, [1, 1, 1, 1], .iload_n 3, []) ∧ px_at 215 3 = some (5, [], .bipush 54, []) ∧ px_at 215 5 = some (8, [], .if_icmp .ge 25, [30]) ∧ px_at 215 8 = some (9, [], .aload_n 0, []) ∧ px_at 215 9 = some (12, [], .getfield 7, [11, 0, 2, 1, 125]) ∧ px_at 215 12 = some (13, [], .iload_n 2, []) ∧ px_at 215 13 = some (14, [], .iload_n 3, []) ∧ px_at 215 14 = some (15, [], .iadd, []) ∧ px_at 215 15 = some (16, [], .aload_n 0, []) ∧ px_at 215 16 = some (19, [], .getfield 7, [11, 0, 2, 1, 125]) ∧ px_at 215 19 = some (20, [], .iload_n 1, []) ∧ px_at 215 20 = some (21, [], .iload_n 3, []) ∧ px_at 215 21 = some (22, [], .iadd, []) ∧ px_at 215 22 = some (23, [], .iaload, []) ∧ px_at 215 23 = some (24, [], .iastore, []) ∧ px_at 215 24 = some (27, [], .iinc 3 1, []) ∧ px_at 215 27 = some (30, [], .goto (-25), [2]) ∧ px_at 215 30 = some (31, [], .return_, []) := ⟨rfl, rfl, rfl, rfl, rfl, rfl, rfl, rfl, rfl, rfl, rfl, rfl, rfl, rfl, rfl, rfl, rfl, rfl, rfl, rfl⟩
set_option maxRecDepth 100000 in
/-- X12_stageFind -/
theorem cd_216 : px_at 216 0 = some (1, [], .iconst 0, []) ∧ px_at 216 1 = some (2, [], .istore_n 3, []) ∧ px_at 216 2 = some (3, [1, 1, 1, 1], .iload_n 3, []) ∧ px_at 216 3 = some (4, [], .aload_n 0, []) ∧ px_at 216 4 = some (7, [], .getfield 7, [11, 0, 2, 1, 125]) ∧ px_at 216 7 = some (8, [], .iconst 0, []) ∧ px_at 216 8 = some (9, [], .iaload, []) ∧ px_at 216 9 = some (12, [], .if_icmp .ge 28, [37]) ∧ px_at 216 12 = some (13, [], .aload_n 0, []) ∧ px_at 216 13 = some (16, [], .getfield 7, [11, 0, 2, 1, 125]) ∧ px_at 216 16 = some (17, [], .aload_n 0, []) ∧ px_at 216 17 = some (18, [], .iload_n 3, []) ∧ px_at 216 18 = some (21, [], .invokevirtual 196, [214, 1, 11, 229]) ∧ px_at 216 21 = some (22, [], .aload_n 1, []) ∧ px_at 216 22 = some (23, [], .iload_n 2, []) ∧ px_at 216 23 = some (26, [], .invokestatic 183, [182, 4, 11, 230]) ∧ px_at 216 26 = some (29, [], .ifCond .ne 5, [31]) ∧ px_at 216 29 = some (30, [], .iload_n 3, []) ∧ px_at 216 30 = some (31, [], .ireturn, [0]) ∧ px_at 216 31 = some (34, [], .iinc 3 1, []) ∧ px_at 216 34 = some (37, [], .goto (-32), [2]) ∧ px_at 216 37 = some (38, [], .iconst (-1), []) ∧ px_at 216 38 = some (39, [], .ireturn, [0]) := ⟨rfl, rfl, rfl, rfl, rfl, rfl, rfl, rfl, rfl, rfl, rfl, rfl, rfl, rfl, rfl, rfl, rfl, rfl, rfl, rfl, rfl, rfl, rfl⟩
set_option maxRecDepth 100000 in
/-- X12_opens -/
theorem cd_217 : px_at 217 0 = some (1, [], .aload_n 0, []) ∧ px_at 217 1 = some (4, [], .getfield 7, [11, 0, 2, 1, 125]) ∧ px_at 217 4 = some (5, [], .iconst 0, []) ∧ px_at 217 5 = some (6, [], .iaload, []) ∧ px_at 217 6 = some (7, [], .istore_n 3, []) ∧ px_at 217 7 = some (8, [1, 1, 1, 1], .iload_n 3, []) ∧ px_at 217 8 = some (11, [], .ifCond .le 45, [53]) ∧ px_at 217 11 = some (12, [], .aload_n 0, []) ∧ px_at 217 12 = some (15, [], .getfield 7, [11, 0, 2, 1, 125]) ∧ px_at 217 15 = some (16, [], .aload_n 0, []) ∧ px_at 217 16 = some (17, [], .iload_n 3, []) ∧ px_at 217 17 = some (18, [], .iconst 1, []) ∧ px_at 217 18 = some (19, [], .isub, []) ∧ px_at 217 19 = some (22, [], .invokevirtual 196, [214, 1, 11, 229]) ∧ px_at 217 22 = some (23, [], .aload_n 1, []) ∧ px_at 217 23 = some (24, [], .iload_n 2, []) ∧ px_at 217 24 = some (27, [], .invokestatic 183, [182, 4, 11, 230]) ∧ px_at 217 27 = some (30, [], .ifCond .le 26, [53]) ∧ px_at 217 30 = some (31, [], .aload_n 0, []) ∧ px_at 217 31 = some (32, [], .aload_n 0, []) ∧ px_at 217 32 = some (33, [], .iload_n 3, []) ∧ px_at 217 33 = some (34, [], .iconst 1, []) ∧ px_at 217 34 = some (35, [], .isub, []) ∧ px_at 217 35 = some (38, [], .invokevirtual 196, [214, 1, 11, 229]) ∧ px_at 217 38 = some (39, [], .aload_n 0, []) ∧ px_at 217 39 = some (40, [], .iload_n 3, []) ∧ px_at 217 40 = some (43, [], .invokevirtual 196, [214, 1, 11, 229]) ∧ px_at 217 43 = some (46, [], .invokevirtual 199, [215, 2, 11, 235]) ∧ px_at 217 46 = some (47, [], .iload_n 3, []) ∧ px_at 217 47 = some (48, [], .iconst 1, []) ∧ px_at 217 48 = some (49, [], .isub, []) ∧ px_at 217 49 = some (50, [], .istore_n 3, []) ∧ px_at 217 50 = some (53, [], .goto (-43), [7]) ∧ px_at 217 53 = some (54, [], .aload_n 1, []) ∧ px_at 217 54 = some (55, [], .iload_n 2, []) ∧ px_at 217 55 = some (56, [], .aload_n 0, []) ∧ px_at 217 56 = some (59, [], .getfield 7, [11, 0, 2, 1, 125]) ∧ px_at 217 59 = some (60, [], .aload_n 0, []) ∧ px_at 217 60 = some (61, [], .iload_n 3, []) ∧ px_at 217 61 = some (64, [], .invokevirtual 196, [214, 1, 11, 229]) ∧ px_at 217 64 = some (67, [], .invokestatic 203, [185, 4, 11, 236]) ∧ px_at 217 67 = some (68, [], .aload_n 0, []) ∧ px_at 217 68 = some (71, [], .getfield 7, [11, 0, 2, 1, 125]) ∧ px_at 217 71 = some (72, [], .iconst 0, []) ∧ px_at 217 72 = some (73, [], .aload_n 0, []) ∧ px_at 217 73 = some (76, [], .getfield 7, [11, 0, 2, 1, 125]) ∧ px_at 217 76 = some (77, [], .iconst 0, []) ∧ px_at 217 77 = some (78, [], .iaload, []) ∧ px_at 217 78 = some (79, [], .iconst 1, []) ∧ px_at 217 79 = some (80, [], .iadd, []) ∧ px_at 217 80 = some (81, [], .iastore, []) ∧ px_at 217 81 = some (82, [], .iload_n 3, []) ∧ px_at 217 82 = some (83, [], .ireturn, [0]) := ⟨rfl, rfl, rfl, rfl, rfl, rfl, rfl, rfl, rfl, rfl, rfl, rfl, rfl, rfl, rfl, rfl, rfl, rfl, rfl, rfl, rfl, rfl, rfl, rfl, rfl, rfl, rfl, rfl, rfl, rfl, rfl, rfl, rfl, rfl, rfl, rfl, rfl, rfl, rfl, rfl, rfl, rfl, rfl, rfl, rfl, rfl, rfl, rfl, rfl, rfl, rfl, rfl, rfl⟩
/-! the reference: files of the stage -/
/-- a file at a place of the reference's stage -/
def fR (F : Int → Int) (i : Int) (x : fe) : Prop := okp x.1 ∧ x.1 ≠ [] ∧ pok F (6 + 54 * i) 3154 ∧ fp F (6 + 54 * i) = x.1 ∧ F (6 + 54 * i + 13) = (x.2.length : Int) ∧ x.2.length ≤ 40 ∧ lst (fun k => F (6 + 54 * i + 14 + k)) (x.2.length : Int) = x.2 ∧ ∀ b ∈ x.2, 0 ≤ b ∧ b < 256
def sR (F : Int → Int) (n : Int) (g : Int → fe) : Prop := F 0 = n ∧ 0 ≤ n ∧ n ≤ 12 ∧ ∀ i, 0 ≤ i → i < n → fR F i (g i)
/-- all else than the files is as it was -/
def frf (F' F : Int → Int) : Prop := ∀ x, x ≠ 0 → ¬ (6 ≤ x ∧ x < 654) → F' x = F x
theorem frf_refl (F : Int → Int) : frf F F := fun _ _ _ => rfl
theorem frf_trans {A B C : Int → Int} (h : frf A B) (h2 : frf B C) : frf A C := fun x x0 x1 => (h x x0 x1).trans (h2 x x0 x1)
theorem fR_move {F' F : Int → Int} {i j : Int} {x : fe} (h : fR F i x) (hj : 0 ≤ j ∧ j < 12) (he : ∀ y, 0 ≤ y → y < 54 → F' (6 + 54 * j + y) = F (6 + 54 * i + y)) : fR F' j x := by
  obtain ⟨a1, a2, a3, a4, a5, a6, a7, a8⟩ := h
  refine ⟨a1, a2, pok_congr (fun y y0 y1 => he y y0 (by omega)) a3 (by omega), ?_, ?_, a6, ?_, a8⟩
  · rw [fp_congr (fun y y0 y1 => he y y0 (by omega)) a3.2.2.1]; exact a4
  · rw [he 13 (by decide) (by decide)]; exact a5
  · rw [← a7]
    rw [lst_len (by omega)]
    exact lst_congr (fun k k0 k1 => by rw [show 6 + 54 * j + 14 + k = 6 + 54 * j + (14 + k) by omega, show 6 + 54 * i + 14 + k = 6 + 54 * i + (14 + k) by omega]; exact he (14 + k) (by omega) (by omega))
theorem fR_at {F' F : Int → Int} {i : Int} {x : fe} (h : fR F i x) (hi : 0 ≤ i ∧ i < 12) (he : ∀ y, 6 + 54 * i ≤ y → y < 6 + 54 * i + 54 → F' y = F y) : fR F' i x :=
  fR_move h hi (fun y y0 y1 => he _ (by omega) (by omega))
theorem fR_pos {F : Int → Int} {i : Int} {x : fe} (h : fR F i x) : 0 < F (6 + 54 * i) := fp_pos (by rw [h.2.2.2.1]; exact h.2.1)
theorem fR_len {F : Int → Int} {i : Int} {x : fe} (h : fR F i x) : F (6 + 54 * i) = (x.1.length : Int) := by
  rw [← h.2.2.2.1, fp_len h.2.2.1.2.1]
theorem sR_congr {F : Int → Int} {n : Int} {g h : Int → fe} (hs : sR F n g) (he : ∀ i, 0 ≤ i → i < n → h i = g i) : sR F n h := ⟨hs.1, hs.2.1, hs.2.2.1, fun i i0 i1 => by rw [he i i0 i1]; exact hs.2.2.2 i i0 i1⟩
theorem sR_frame {F' F : Int → Int} {n : Int} {g : Int → fe} (hs : sR F n g) (h0 : F' 0 = F 0) (he : ∀ x, 6 ≤ x → x < 654 → F' x = F x) : sR F' n g :=
  ⟨by rw [h0]; exact hs.1, hs.2.1, hs.2.2.1, fun i i0 i1 => fR_at (hs.2.2.2 i i0 i1) ⟨i0, by have := hs.2.2.1; omega⟩ (fun y y0 y1 => he y (by omega) (by have := hs.2.2.1; omega))⟩
theorem enc_tri {a b : List Int} (ha : okp a) (hb : okp b) {r : Int} (h1 : r < 0 ↔ lxlt a b) (h2 : r = 0 ↔ a = b) : (r < 0 ↔ enc a < enc b) ∧ (0 < r ↔ enc b < enc a) := by
  have e := enc_lt ha.1 hb.1 ha.2 hb.2
  have i : enc a = enc b ↔ a = b := ⟨enc_inj ha.1 hb.1 ha.2 hb.2, fun z => by rw [z]⟩
  have k1 : r < 0 ↔ enc a < enc b := h1.trans e.symm
  have k2 : r = 0 ↔ enc a = enc b := h2.trans i.symm
  omega
/-- one comes in at its place -/
def insF (g : Int → fe) (i : Int) (x : fe) : Int → fe := fun j => if j < i then g j else if j = i then x else g (j - 1)
theorem insF_isM {n i : Int} {g : Int → fe} {x : fe} (i0 : 0 ≤ i) (i1 : i ≤ n) (y : fe) : isM (n + 1) (insF g i x) y ↔ (isM n g y ∨ y = x) := by
  unfold isM insF
  constructor
  · rintro ⟨j, j0, j1, j2⟩
    by_cases q : j < i
    · rw [if_pos q] at j2; exact Or.inl ⟨j, j0, by omega, j2⟩
    · rw [if_neg q] at j2
      by_cases q2 : j = i
      · rw [if_pos q2] at j2; exact Or.inr j2.symm
      · rw [if_neg q2] at j2; exact Or.inl ⟨j - 1, by omega, by omega, j2⟩
  · rintro (⟨j, j0, j1, j2⟩ | e)
    · by_cases q : j < i
      · exact ⟨j, j0, by omega, by rw [if_pos q]; exact j2⟩
      · exact ⟨j + 1, by omega, by omega, by rw [if_neg (by omega), if_neg (by omega), show j + 1 - 1 = j by omega]; exact j2⟩
    · exact ⟨i, i0, by omega, by rw [if_neg (by omega), if_pos rfl]; exact e.symm⟩
theorem insF_srt {n i : Int} {g : Int → fe} {x : fe} (i0 : 0 ≤ i) (i1 : i ≤ n) (hs : srt n g) (h1 : ∀ j, 0 ≤ j → j < i → j < n → enc (g j).1 < enc x.1) (h2 : ∀ j, 0 ≤ j → i ≤ j → j < n → enc x.1 < enc (g j).1) : srt (n + 1) (insF g i x) := by
  intro a b a0 a1 b1
  unfold insF
  by_cases p : b < i
  · rw [if_pos p, if_pos (by omega)]
    exact hs a b a0 a1 (by omega)
  · rw [if_neg p]
    by_cases p2 : b = i
    · rw [if_pos p2, if_pos (by omega)]
      exact h1 a a0 (by omega) (by omega)
    · rw [if_neg p2]
      by_cases q : a < i
      · rw [if_pos q]
        exact hs a (b - 1) a0 (by omega) (by omega)
      · rw [if_neg q]
        by_cases q2 : a = i
        · rw [if_pos q2]; exact h2 (b - 1) (by omega) (by omega) (by omega)
        · rw [if_neg q2]; exact hs (a - 1) (b - 1) (by omega) (by omega) (by omega)
/-- a place is opened: files behind it moved on, a path there -/
def opn (F' F : Int → Int) (n i : Int) (P : Int → Int) : Prop := F' 0 = n + 1 ∧ (∀ j y, 0 ≤ j → j < i → 0 ≤ y → y < 54 → F' (6 + 54 * j + y) = F (6 + 54 * j + y)) ∧ (∀ j y, i ≤ j → j < n → 0 ≤ y → y < 54 → F' (6 + 54 * (j + 1) + y) = F (6 + 54 * j + y)) ∧ (∀ y, 0 ≤ y → y < 13 → F' (6 + 54 * i + y) = P y) ∧ frf F' F
/-- its bytes are put there -/
def slf (F2 F1 : Int → Int) (i : Int) (l : List Int) : Prop := (∀ y, ¬ (6 + 54 * i + 13 ≤ y ∧ y < 6 + 54 * i + 54) → F2 y = F1 y) ∧ F2 (6 + 54 * i + 13) = (l.length : Int) ∧ lst (fun k => F2 (6 + 54 * i + 14 + k)) (l.length : Int) = l
theorem ins_ok {F F1 F2 P : Int → Int} {n i : Int} {g : Int → fe} {x : fe} (hs : sR F n g) (hn : n < 12) (i0 : 0 ≤ i) (i1 : i ≤ n) (ho : opn F1 F n i P) (hl : slf F2 F1 i x.2) (hx : okp x.1 ∧ x.1 ≠ [] ∧ x.2.length ≤ 40 ∧ ∀ b ∈ x.2, 0 ≤ b ∧ b < 256) (hp : pok P 0 13) (hp2 : fp P 0 = x.1) : sR F2 (n + 1) (insF g i x) ∧ frf F2 F := by
  obtain ⟨o1, o2, o3, o4, o5⟩ := ho
  obtain ⟨l1, l2, l3⟩ := hl
  refine ⟨⟨by rw [l1 0 (by omega)]; exact o1, by omega, by omega, fun j j0 j1 => ?_⟩, fun y y0 y1 => by rw [l1 y (by omega)]; exact o5 y y0 y1⟩
  unfold insF
  by_cases q : j < i
  · rw [if_pos q]
    exact fR_move (hs.2.2.2 j j0 (by omega)) ⟨j0, by omega⟩ (fun y y0 y1 => by rw [l1 _ (by omega)]; exact o2 j y j0 q y0 y1)
  · rw [if_neg q]
    by_cases q2 : j = i
    · rw [if_pos q2, q2]
      have he : ∀ y, 0 ≤ y → y < 13 → F2 (6 + 54 * i + y) = P (0 + y) := fun y y0 y1 => by rw [l1 _ (by omega), Int.zero_add]; exact o4 y y0 y1
      refine ⟨hx.1, hx.2.1, pok_congr he hp (by omega), ?_, l2, hx.2.2.1, l3, hx.2.2.2⟩
      rw [fp_congr he hp.2.2.1]; exact hp2
    · rw [if_neg q2]
      refine fR_move (hs.2.2.2 (j - 1) (by omega) (by omega)) ⟨j0, by omega⟩ (fun y y0 y1 => ?_)
      rw [l1 _ (by omega)]
      have := o3 (j - 1) y (by omega) (by omega) y0 y1
      rw [show j - 1 + 1 = j by omega] at this
      exact this
section PS
variable {M : px_mem} {Q : Option pv → px_mem → Prop}
set_option maxHeartbeats 600000 in
set_option maxRecDepth 100000 in
theorem lp_copiesFile {M0 : px_mem} {a b : Int} (ha : 0 ≤ a ∧ a + 54 ≤ 3154) (hb : 0 ≤ b ∧ b + 54 ≤ 3154) (hd : a + 54 ≤ b ∨ b + 54 ≤ a) (h : ∀ M', (∀ x, M' 128 x = if b ≤ x ∧ x < b + 54 then M0 128 (a + (x - b)) else M0 128 x) → (∀ c, c ≠ 128 → M' c = M0 c) → Q none M') (k : Int) (hk_k : k ≤ 54) : ∀ (M : px_mem), 0 ≤ k → (∀ x, M 128 x = if b ≤ x ∧ x < b + k then M0 128 (a + (x - b)) else M0 128 x) → (∀ c, c ≠ 128 → M c = M0 c) → px_WP 215 0 0 (px_Q0 LAY Q) 2 [(2, 127), (0, a), (0, b), (0, k)] [] LAY M 0 0 := by
  refine up_ind (P := fun k => ∀ (M : px_mem), 0 ≤ k → (∀ x, M 128 x = if b ≤ x ∧ x < b + k then M0 128 (a + (x - b)) else M0 128 x) → (∀ c, c ≠ 128 → M c = M0 c) → px_WP 215 0 0 (px_Q0 LAY Q) 2 [(2, 127), (0, a), (0, b), (0, k)] [] LAY M 0 0) (54) (fun k hk_k ih => ?_) k hk_k
  intro M k0 hv hf
  refine px_go_ok (inl := []) 60 ?_
  simp only [px_go, px_Q0_at, px_sx_0, px_sx_s, px_cl, px_step, ↓px_ll, px_lg, f4_, ↓px_r1, ↓px_r2, ↓px_r4, ↓px_r5, ↓px_p1, ↓px_p2, ↓px_p3, ↓px_pop, px_k_0, px_k_s, px_k3_0, px_stk_, px_cats, px_ent, px_st1, px_st2, px_mask, ↓px_tsw, ↓px_lsw, ct_, mls_0, mls_1, mls_2, mls_3, mls_4, mls_5, kd_0, kd_1, kd_2, kd_3, ln_0, ln_1, ln_2, ln_3, gf_0, gf_1, gf_2, gf_3, gf_4, gf_7, gf_21, gf_63, dy_0, dy_1, dy_2, dy_3, dy_7, dy_21, px_brT, px_brF, true_and, and_true, and_false, false_and, and_self, true_implies, false_implies, or_true, true_or, or_false, false_or, eq_self, ne_eq, not_false_eq_true, not_true_eq_false, if_true, if_false, List.mem_cons, List.not_mem_nil, List.length_cons, List.length_nil, Nat.reduceEqDiff, Nat.reduceAdd, Nat.reduceSub, Nat.reduceLeDiff, Nat.reduceLT, Int.reduceEq, Int.reduceLT, Int.reduceLE, Int.reduceNeg, Int.reduceAdd, Int.reduceSub, Int.reduceToNat, ↓reduceIte, one_ne_zero_, zero_ne_one_, px_in32L, cd_215]
  repeat' (first | (with_reducible apply And.intro) | (with_reducible refine px_br_intro (fun _ => ?_) (fun _ => ?_)))
  all_goals (try (first | (unfold px_in32; omega) | omega))
  · rename_i c1
    rw [show k = 54 by omega] at hv
    exact h M hv hf
  · rename_i c1
    refine ih (by omega) _ (by omega) (fun x => ?_) (fun c c0 => by rw [row_ne c0]; exact hf c c0)
    have hsrc : M 128 (a + k) = M0 128 (a + k) := by rw [hv, if_neg (by omega)]
    rw [px_up_at, hsrc, hv x]
    by_cases q : x = b + k
    · rw [if_pos ⟨rfl, q⟩, if_pos (by omega), show a + (x - b) = a + k by omega]
    · rw [if_neg (fun z => q z.2)]
      by_cases r : b ≤ x ∧ x < b + k
      · rw [if_pos r, if_pos (by omega)]
      · rw [if_neg r, if_neg (by omega)]
set_option maxHeartbeats 600000 in
set_option maxRecDepth 100000 in
theorem sp_copiesFile {a b : Int} (ha : 0 ≤ a ∧ a + 54 ≤ 3154) (hb : 0 ≤ b ∧ b + 54 ≤ 3154) (hd : a + 54 ≤ b ∨ b + 54 ≤ a) (h : ∀ M', (∀ x, M' 128 x = if b ≤ x ∧ x < b + 54 then M 128 (a + (x - b)) else M 128 x) → (∀ c, c ≠ 128 → M' c = M c) → Q none M') : px_Ok 215 [(2, 127), (0, a), (0, b)] LAY M Q := by
  refine px_ok_go (inl := []) (ls0 := [(2, 127), (0, a), (0, b), (9, 0)]) 60 (by decide) (Nat.le_of_ble_eq_true rfl) rfl ?_
  simp only [px_go, px_Q0_at, px_sx_0, px_sx_s, px_cl, px_step, ↓px_ll, px_lg, f4_, ↓px_r1, ↓px_r2, ↓px_r4, ↓px_r5, ↓px_p1, ↓px_p2, ↓px_p3, ↓px_pop, px_k_0, px_k_s, px_k3_0, px_stk_, px_cats, px_ent, px_st1, px_st2, px_mask, ↓px_tsw, ↓px_lsw, ct_, mls_0, mls_1, mls_2, mls_3, mls_4, mls_5, kd_0, kd_1, kd_2, kd_3, ln_0, ln_1, ln_2, ln_3, gf_0, gf_1, gf_2, gf_3, gf_4, gf_7, gf_21, gf_63, dy_0, dy_1, dy_2, dy_3, dy_7, dy_21, px_brT, px_brF, true_and, and_true, and_false, false_and, and_self, true_implies, false_implies, or_true, true_or, or_false, false_or, eq_self, ne_eq, not_false_eq_true, not_true_eq_false, if_true, if_false, List.mem_cons, List.not_mem_nil, List.length_cons, List.length_nil, Nat.reduceEqDiff, Nat.reduceAdd, Nat.reduceSub, Nat.reduceLeDiff, Nat.reduceLT, Int.reduceEq, Int.reduceLT, Int.reduceLE, Int.reduceNeg, Int.reduceAdd, Int.reduceSub, Int.reduceToNat, ↓reduceIte, one_ne_zero_, zero_ne_one_, px_in32L, cd_215]
  repeat' (first | (with_reducible apply And.intro) | (with_reducible refine px_br_intro (fun _ => ?_) (fun _ => ?_)))
  all_goals (try (first | (unfold px_in32; omega) | omega))
  exact lp_copiesFile (M0 := M) ha hb hd h 0 (by decide) M (Int.le_refl 0) (fun x => by rw [if_neg (by omega)]) (fun _ _ => rfl)
set_option maxHeartbeats 600000 in
set_option maxRecDepth 100000 in
theorem lp_stageFind {n v a : Int} {g : Int → fe} (hst : sR (M 128) n g) (hkv : px_kd LAY v = 0) (ha : pok (M v) a (px_ln LAY v)) (hln : px_ln LAY v < 10000) (h : Q (some (0, fnd n (fun i => (g i).1 = fp (M v) a))) M) (k : Int) (hk_k : k ≤ n) : 0 ≤ k → (∀ j, 0 ≤ j → j < k → ¬ (g j).1 = fp (M v) a) → px_WP 216 0 0 (px_Q0 LAY Q) 2 [(2, 127), (2, v), (0, a), (0, k)] [] LAY M 0 0 := by
  refine up_ind (P := fun k => 0 ≤ k → (∀ j, 0 ≤ j → j < k → ¬ (g j).1 = fp (M v) a) → px_WP 216 0 0 (px_Q0 LAY Q) 2 [(2, 127), (2, v), (0, a), (0, k)] [] LAY M 0 0) (n) (fun k hk_k ih => ?_) k hk_k
  intro k0 hj
  have h1 := hst.1
  have h2 := hst.2.1
  have h3 := hst.2.2.1
  refine px_go_ok (inl := [214]) 60 ?_
  simp only [px_go, px_Q0_at, px_sx_0, px_sx_s, px_cl, px_step, ↓px_ll, px_lg, f4_, ↓px_r1, ↓px_r2, ↓px_r4, ↓px_r5, ↓px_p1, ↓px_p2, ↓px_p3, ↓px_pop, px_k_0, px_k_s, px_k3_0, px_stk_, px_cats, px_ent, px_st1, px_st2, px_mask, ↓px_tsw, ↓px_lsw, ct_, mls_0, mls_1, mls_2, mls_3, mls_4, mls_5, kd_0, kd_1, kd_2, kd_3, ln_0, ln_1, ln_2, ln_3, gf_0, gf_1, gf_2, gf_3, gf_4, gf_7, gf_21, gf_63, dy_0, dy_1, dy_2, dy_3, dy_7, dy_21, px_brT, px_brF, true_and, and_true, and_false, false_and, and_self, true_implies, false_implies, or_true, true_or, or_false, false_or, eq_self, ne_eq, not_false_eq_true, not_true_eq_false, if_true, if_false, List.mem_cons, List.not_mem_nil, List.length_cons, List.length_nil, Nat.reduceEqDiff, Nat.reduceAdd, Nat.reduceSub, Nat.reduceLeDiff, Nat.reduceLT, Int.reduceEq, Int.reduceLT, Int.reduceLE, Int.reduceNeg, Int.reduceAdd, Int.reduceSub, Int.reduceToNat, ↓reduceIte, one_ne_zero_, zero_ne_one_, px_in32L, cd_216, cd_214, h1]
  repeat' (first | (with_reducible apply And.intro) | (with_reducible refine px_br_intro (fun _ => ?_) (fun _ => ?_)))
  all_goals (try (first | (unfold px_in32; omega) | omega))
  · rename_i c1
    rw [fnd_miss (fun j j0 j1 => hj j j0 (by omega))] at h
    exact h
  · rename_i c1
    have f := hst.2.2.2 k k0 (by omega)
    refine sp_against rfl hkv f.2.2.1 ha ⟨by decide, hln⟩ (fun r r1 r2 => ?_)
    rw [f.2.2.2.1] at r2
    simp only [px_go, px_Q0_at, px_sx_0, px_sx_s, px_cl, px_step, ↓px_ll, px_lg, f4_, ↓px_r1, ↓px_r2, ↓px_r4, ↓px_r5, ↓px_p1, ↓px_p2, ↓px_p3, ↓px_pop, px_k_0, px_k_s, px_k3_0, px_stk_, px_cats, px_ent, px_st1, px_st2, px_mask, ↓px_tsw, ↓px_lsw, ct_, mls_0, mls_1, mls_2, mls_3, mls_4, mls_5, kd_0, kd_1, kd_2, kd_3, ln_0, ln_1, ln_2, ln_3, gf_0, gf_1, gf_2, gf_3, gf_4, gf_7, gf_21, gf_63, dy_0, dy_1, dy_2, dy_3, dy_7, dy_21, px_brT, px_brF, true_and, and_true, and_false, false_and, and_self, true_implies, false_implies, or_true, true_or, or_false, false_or, eq_self, ne_eq, not_false_eq_true, not_true_eq_false, if_true, if_false, List.mem_cons, List.not_mem_nil, List.length_cons, List.length_nil, Nat.reduceEqDiff, Nat.reduceAdd, Nat.reduceSub, Nat.reduceLeDiff, Nat.reduceLT, Int.reduceEq, Int.reduceLT, Int.reduceLE, Int.reduceNeg, Int.reduceAdd, Int.reduceSub, Int.reduceToNat, ↓reduceIte, one_ne_zero_, zero_ne_one_, px_in32L, cd_216, cd_214]
    repeat' (first | (with_reducible apply And.intro) | (with_reducible refine px_br_intro (fun _ => ?_) (fun _ => ?_)))
    all_goals (try (first | (unfold px_in32; omega) | omega))
    · rename_i c2
      rw [fnd_hit k0 (by omega) (r2.mp c2) hj] at h
      exact h
    · rename_i c2
      refine ih (by omega) (by omega) (fun j j0 j1 => ?_)
      by_cases q : j = k
      · rw [q]; exact fun z => c2 (r2.mpr z)
      · exact hj j j0 (by omega)
set_option maxHeartbeats 600000 in
set_option maxRecDepth 100000 in
theorem sp_stageFind {n v a : Int} {g : Int → fe} (hst : sR (M 128) n g) (hkv : px_kd LAY v = 0) (ha : pok (M v) a (px_ln LAY v)) (hln : px_ln LAY v < 10000) (h : Q (some (0, fnd n (fun i => (g i).1 = fp (M v) a))) M) : px_Ok 216 [(2, 127), (2, v), (0, a)] LAY M Q := by
  refine px_ok_go (inl := []) (ls0 := [(2, 127), (2, v), (0, a), (9, 0)]) 60 (by decide) (Nat.le_of_ble_eq_true rfl) rfl ?_
  simp only [px_go, px_Q0_at, px_sx_0, px_sx_s, px_cl, px_step, ↓px_ll, px_lg, f4_, ↓px_r1, ↓px_r2, ↓px_r4, ↓px_r5, ↓px_p1, ↓px_p2, ↓px_p3, ↓px_pop, px_k_0, px_k_s, px_k3_0, px_stk_, px_cats, px_ent, px_st1, px_st2, px_mask, ↓px_tsw, ↓px_lsw, ct_, mls_0, mls_1, mls_2, mls_3, mls_4, mls_5, kd_0, kd_1, kd_2, kd_3, ln_0, ln_1, ln_2, ln_3, gf_0, gf_1, gf_2, gf_3, gf_4, gf_7, gf_21, gf_63, dy_0, dy_1, dy_2, dy_3, dy_7, dy_21, px_brT, px_brF, true_and, and_true, and_false, false_and, and_self, true_implies, false_implies, or_true, true_or, or_false, false_or, eq_self, ne_eq, not_false_eq_true, not_true_eq_false, if_true, if_false, List.mem_cons, List.not_mem_nil, List.length_cons, List.length_nil, Nat.reduceEqDiff, Nat.reduceAdd, Nat.reduceSub, Nat.reduceLeDiff, Nat.reduceLT, Int.reduceEq, Int.reduceLT, Int.reduceLE, Int.reduceNeg, Int.reduceAdd, Int.reduceSub, Int.reduceToNat, ↓reduceIte, one_ne_zero_, zero_ne_one_, px_in32L, cd_216]
  repeat' (first | (with_reducible apply And.intro) | (with_reducible refine px_br_intro (fun _ => ?_) (fun _ => ?_)))
  all_goals (try (first | (unfold px_in32; omega) | omega))
  exact lp_stageFind hst hkv ha hln h 0 hst.2.1 (Int.le_refl 0) (fun j j0 j1 => by omega)
set_option maxHeartbeats 600000 in
set_option maxRecDepth 100000 in
theorem lp_opens {M0 : px_mem} {n v a : Int} {g : Int → fe} (hst : sR (M0 128) n g) (hs : srt n g) (hn : n < 12) (hkv : px_kd LAY v = 0) (ha : pok (M0 v) a (px_ln LAY v)) (hln : px_ln LAY v < 10000) (hv : v ≠ 128 ∨ 654 ≤ a) (hok : okp (fp (M0 v) a)) (h : ∀ M' i, 0 ≤ i → i ≤ n → (∀ j, 0 ≤ j → j < i → enc (g j).1 ≤ enc (fp (M0 v) a)) → (∀ j, i ≤ j → j < n → enc (fp (M0 v) a) < enc (g j).1) → opn (M' 128) (M0 128) n i (fun y => M0 v (a + y)) → (∀ b, b ≠ 128 → M' b = M0 b) → Q (some (0, i)) M') (i : Int) (hk_i : 0 ≤ i) : ∀ (M : px_mem), i ≤ n → M 128 0 = n → (∀ j y, 0 ≤ j → j < i → 0 ≤ y → y < 54 → M 128 (6 + 54 * j + y) = M0 128 (6 + 54 * j + y)) → (∀ j y, i ≤ j → j < n → 0 ≤ y → y < 54 → M 128 (6 + 54 * (j + 1) + y) = M0 128 (6 + 54 * j + y)) → (∀ j, i ≤ j → j < n → enc (fp (M0 v) a) < enc (g j).1) → frf (M 128) (M0 128) → (∀ b, b ≠ 128 → M b = M0 b) → px_WP 217 0 0 (px_Q0 LAY Q) 7 [(2, 127), (2, v), (0, a), (0, i)] [] LAY M 0 0 := by
  refine dn_ind (P := fun i => ∀ (M : px_mem), i ≤ n → M 128 0 = n → (∀ j y, 0 ≤ j → j < i → 0 ≤ y → y < 54 → M 128 (6 + 54 * j + y) = M0 128 (6 + 54 * j + y)) → (∀ j y, i ≤ j → j < n → 0 ≤ y → y < 54 → M 128 (6 + 54 * (j + 1) + y) = M0 128 (6 + 54 * j + y)) → (∀ j, i ≤ j → j < n → enc (fp (M0 v) a) < enc (g j).1) → frf (M 128) (M0 128) → (∀ b, b ≠ 128 → M b = M0 b) → px_WP 217 0 0 (px_Q0 LAY Q) 7 [(2, 127), (2, v), (0, a), (0, i)] [] LAY M 0 0) (0) (fun i hk_i ih => ?_) i hk_i
  intro M in1 hF0 hlo hhi hgt hff hf
  have hav : ∀ y, 0 ≤ y → y < 13 → M v (a + y) = M0 v (a + y) := fun y y0 y1 => by
    by_cases q : v = 128
    · rw [q]; exact hff _ (by omega) (by omega)
    · rw [hf v q]
  have hpk : pok (M v) a (px_ln LAY v) := pok_congr hav ha ⟨ha.1, ha.2.2.2.1⟩
  have hfp : fp (M v) a = fp (M0 v) a := fp_congr hav ha.2.2.1
  have ha0 := ha.1
  have ha3 := ha.2.2.2.1
  have hend : (∀ j, 0 ≤ j → j < i → enc (g j).1 ≤ enc (fp (M0 v) a)) → ∀ M1 : px_mem, (∀ x, M1 128 x = if 6 + 54 * i ≤ x ∧ x < 6 + 54 * i + 13 then M v (a + (x - (6 + 54 * i))) else M 128 x) → (∀ c, c ≠ 128 → M1 c = M c) → Q (some (0, i)) (px_up M1 128 0 (n + 1)) := fun hle M1 q1 q2 => by
    refine h _ i hk_i in1 hle hgt ⟨by rw [px_up_at, if_pos ⟨rfl, rfl⟩], fun j y j0 j1 y0 y1 => ?_, fun j y j0 j1 y0 y1 => ?_, fun y y0 y1 => ?_, fun x x0 x1 => ?_⟩ (fun b b0 => by rw [row_ne b0, q2 b b0, hf b b0])
    · rw [px_up_at, if_neg (by omega), q1, if_neg (by omega)]; exact hlo j y j0 j1 y0 y1
    · rw [px_up_at, if_neg (by omega), q1, if_neg (by omega)]; exact hhi j y j0 j1 y0 y1
    · rw [px_up_at, if_neg (by omega), q1, if_pos (by omega), show 6 + 54 * i + y - (6 + 54 * i) = y by omega]; exact hav y y0 y1
    · rw [px_up_at, if_neg (by omega), q1, if_neg (by omega)]; exact hff x x0 x1
  refine px_go_ok (inl := [214]) 60 ?_
  simp only [px_go, px_Q0_at, px_sx_0, px_sx_s, px_cl, px_step, ↓px_ll, px_lg, f4_, ↓px_r1, ↓px_r2, ↓px_r4, ↓px_r5, ↓px_p1, ↓px_p2, ↓px_p3, ↓px_pop, px_k_0, px_k_s, px_k3_0, px_stk_, px_cats, px_ent, px_st1, px_st2, px_mask, ↓px_tsw, ↓px_lsw, ct_, mls_0, mls_1, mls_2, mls_3, mls_4, mls_5, kd_0, kd_1, kd_2, kd_3, ln_0, ln_1, ln_2, ln_3, gf_0, gf_1, gf_2, gf_3, gf_4, gf_7, gf_21, gf_63, dy_0, dy_1, dy_2, dy_3, dy_7, dy_21, px_brT, px_brF, true_and, and_true, and_false, false_and, and_self, true_implies, false_implies, or_true, true_or, or_false, false_or, eq_self, ne_eq, not_false_eq_true, not_true_eq_false, if_true, if_false, List.mem_cons, List.not_mem_nil, List.length_cons, List.length_nil, Nat.reduceEqDiff, Nat.reduceAdd, Nat.reduceSub, Nat.reduceLeDiff, Nat.reduceLT, Int.reduceEq, Int.reduceLT, Int.reduceLE, Int.reduceNeg, Int.reduceAdd, Int.reduceSub, Int.reduceToNat, ↓reduceIte, one_ne_zero_, zero_ne_one_, px_in32L, cd_217, cd_214, hF0]
  repeat' (first | (with_reducible apply And.intro) | (with_reducible refine px_br_intro (fun _ => ?_) (fun _ => ?_)))
  all_goals (try (first | (unfold px_in32; omega) | omega))
  · rename_i c1
    refine sp_copiesPath hkv rfl ⟨ha0, ha3⟩ ⟨by omega, by rw [show px_ln LAY 128 = 3154 from rfl]; omega⟩ ⟨hln, by decide⟩ (by omega) (fun M1 q1 q2 => ?_)
    have q0 : M1 128 0 = n := by rw [q1, if_neg (by omega)]; exact hF0
    simp only [px_go, px_Q0_at, px_sx_0, px_sx_s, px_cl, px_step, ↓px_ll, px_lg, f4_, ↓px_r1, ↓px_r2, ↓px_r4, ↓px_r5, ↓px_p1, ↓px_p2, ↓px_p3, ↓px_pop, px_k_0, px_k_s, px_k3_0, px_stk_, px_cats, px_ent, px_st1, px_st2, px_mask, ↓px_tsw, ↓px_lsw, ct_, mls_0, mls_1, mls_2, mls_3, mls_4, mls_5, kd_0, kd_1, kd_2, kd_3, ln_0, ln_1, ln_2, ln_3, gf_0, gf_1, gf_2, gf_3, gf_4, gf_7, gf_21, gf_63, dy_0, dy_1, dy_2, dy_3, dy_7, dy_21, px_brT, px_brF, true_and, and_true, and_false, false_and, and_self, true_implies, false_implies, or_true, true_or, or_false, false_or, eq_self, ne_eq, not_false_eq_true, not_true_eq_false, if_true, if_false, List.mem_cons, List.not_mem_nil, List.length_cons, List.length_nil, Nat.reduceEqDiff, Nat.reduceAdd, Nat.reduceSub, Nat.reduceLeDiff, Nat.reduceLT, Int.reduceEq, Int.reduceLT, Int.reduceLE, Int.reduceNeg, Int.reduceAdd, Int.reduceSub, Int.reduceToNat, ↓reduceIte, one_ne_zero_, zero_ne_one_, px_in32L, cd_217, cd_214, q0]
    repeat' (first | (with_reducible apply And.intro) | (with_reducible refine px_br_intro (fun _ => ?_) (fun _ => ?_)))
    all_goals (try (first | (unfold px_in32; omega) | omega))
    exact hend (fun j j0 j1 => by omega) M1 q1 q2
  · rename_i c1
    have f := hst.2.2.2 (i - 1) (by omega) (by omega)
    have f' : fR (M 128) (i - 1) (g (i - 1)) := fR_move f ⟨by omega, by omega⟩ (fun y y0 y1 => hlo (i - 1) y (by omega) (by omega) y0 y1)
    refine sp_against rfl hkv f'.2.2.1 hpk ⟨by decide, hln⟩ (fun r r1 r2 => ?_)
    rw [f'.2.2.2.1, hfp] at r1 r2
    have tri := enc_tri f.1 hok r1 r2
    simp only [px_go, px_Q0_at, px_sx_0, px_sx_s, px_cl, px_step, ↓px_ll, px_lg, f4_, ↓px_r1, ↓px_r2, ↓px_r4, ↓px_r5, ↓px_p1, ↓px_p2, ↓px_p3, ↓px_pop, px_k_0, px_k_s, px_k3_0, px_stk_, px_cats, px_ent, px_st1, px_st2, px_mask, ↓px_tsw, ↓px_lsw, ct_, mls_0, mls_1, mls_2, mls_3, mls_4, mls_5, kd_0, kd_1, kd_2, kd_3, ln_0, ln_1, ln_2, ln_3, gf_0, gf_1, gf_2, gf_3, gf_4, gf_7, gf_21, gf_63, dy_0, dy_1, dy_2, dy_3, dy_7, dy_21, px_brT, px_brF, true_and, and_true, and_false, false_and, and_self, true_implies, false_implies, or_true, true_or, or_false, false_or, eq_self, ne_eq, not_false_eq_true, not_true_eq_false, if_true, if_false, List.mem_cons, List.not_mem_nil, List.length_cons, List.length_nil, Nat.reduceEqDiff, Nat.reduceAdd, Nat.reduceSub, Nat.reduceLeDiff, Nat.reduceLT, Int.reduceEq, Int.reduceLT, Int.reduceLE, Int.reduceNeg, Int.reduceAdd, Int.reduceSub, Int.reduceToNat, ↓reduceIte, one_ne_zero_, zero_ne_one_, px_in32L, cd_217, cd_214]
    refine px_br_intro (fun c2 => ?_) (fun c2 => ?_)
    · repeat' (first | (with_reducible apply And.intro) | (with_reducible refine px_br_intro (fun _ => ?_) (fun _ => ?_)))
      all_goals (try (first | (unfold px_in32; omega) | omega))
      refine sp_copiesPath hkv rfl ⟨ha0, ha3⟩ ⟨by omega, by rw [show px_ln LAY 128 = 3154 from rfl]; omega⟩ ⟨hln, by decide⟩ (by omega) (fun M1 q1 q2 => ?_)
      have q0 : M1 128 0 = n := by rw [q1, if_neg (by omega)]; exact hF0
      simp only [px_go, px_Q0_at, px_sx_0, px_sx_s, px_cl, px_step, ↓px_ll, px_lg, f4_, ↓px_r1, ↓px_r2, ↓px_r4, ↓px_r5, ↓px_p1, ↓px_p2, ↓px_p3, ↓px_pop, px_k_0, px_k_s, px_k3_0, px_stk_, px_cats, px_ent, px_st1, px_st2, px_mask, ↓px_tsw, ↓px_lsw, ct_, mls_0, mls_1, mls_2, mls_3, mls_4, mls_5, kd_0, kd_1, kd_2, kd_3, ln_0, ln_1, ln_2, ln_3, gf_0, gf_1, gf_2, gf_3, gf_4, gf_7, gf_21, gf_63, dy_0, dy_1, dy_2, dy_3, dy_7, dy_21, px_brT, px_brF, true_and, and_true, and_false, false_and, and_self, true_implies, false_implies, or_true, true_or, or_false, false_or, eq_self, ne_eq, not_false_eq_true, not_true_eq_false, if_true, if_false, List.mem_cons, List.not_mem_nil, List.length_cons, List.length_nil, Nat.reduceEqDiff, Nat.reduceAdd, Nat.reduceSub, Nat.reduceLeDiff, Nat.reduceLT, Int.reduceEq, Int.reduceLT, Int.reduceLE, Int.reduceNeg, Int.reduceAdd, Int.reduceSub, Int.reduceToNat, ↓reduceIte, one_ne_zero_, zero_ne_one_, px_in32L, cd_217, cd_214, q0]
      repeat' (first | (with_reducible apply And.intro) | (with_reducible refine px_br_intro (fun _ => ?_) (fun _ => ?_)))
      all_goals (try (first | (unfold px_in32; omega) | omega))
      refine hend (fun j j0 j1 => ?_) M1 q1 q2
      by_cases q : j = i - 1
      · rw [q]; omega
      · have := hs j (i - 1) j0 (by omega) (by omega); omega
    · repeat' (first | (with_reducible apply And.intro) | (with_reducible refine px_br_intro (fun _ => ?_) (fun _ => ?_)))
      all_goals (try (first | (unfold px_in32; omega) | omega))
      refine sp_copiesFile ⟨by omega, by omega⟩ ⟨by omega, by omega⟩ (by omega) (fun M1 q1 q2 => ?_)
      simp only [px_go, px_Q0_at, px_sx_0, px_sx_s, px_cl, px_step, ↓px_ll, px_lg, f4_, ↓px_r1, ↓px_r2, ↓px_r4, ↓px_r5, ↓px_p1, ↓px_p2, ↓px_p3, ↓px_pop, px_k_0, px_k_s, px_k3_0, px_stk_, px_cats, px_ent, px_st1, px_st2, px_mask, ↓px_tsw, ↓px_lsw, ct_, mls_0, mls_1, mls_2, mls_3, mls_4, mls_5, kd_0, kd_1, kd_2, kd_3, ln_0, ln_1, ln_2, ln_3, gf_0, gf_1, gf_2, gf_3, gf_4, gf_7, gf_21, gf_63, dy_0, dy_1, dy_2, dy_3, dy_7, dy_21, px_brT, px_brF, true_and, and_true, and_false, false_and, and_self, true_implies, false_implies, or_true, true_or, or_false, false_or, eq_self, ne_eq, not_false_eq_true, not_true_eq_false, if_true, if_false, List.mem_cons, List.not_mem_nil, List.length_cons, List.length_nil, Nat.reduceEqDiff, Nat.reduceAdd, Nat.reduceSub, Nat.reduceLeDiff, Nat.reduceLT, Int.reduceEq, Int.reduceLT, Int.reduceLE, Int.reduceNeg, Int.reduceAdd, Int.reduceSub, Int.reduceToNat, ↓reduceIte, one_ne_zero_, zero_ne_one_, px_in32L, cd_217, cd_214]
      repeat' (first | (with_reducible apply And.intro) | (with_reducible refine px_br_intro (fun _ => ?_) (fun _ => ?_)))
      all_goals (try (first | (unfold px_in32; omega) | omega))
      refine ih (by omega) M1 (by omega) (by rw [q1, if_neg (by omega)]; exact hF0) (fun j y j0 j1 y0 y1 => ?_) (fun j y j0 j1 y0 y1 => ?_) (fun j j0 j1 => ?_) (fun x x0 x1 => ?_) (fun b b0 => by rw [q2 b b0, hf b b0])
      · rw [q1, if_neg (by omega)]; exact hlo j y j0 (by omega) y0 y1
      · by_cases q : j = i - 1
        · rw [q1, if_pos (by omega), q, show 6 + 54 * (i - 1) + (6 + 54 * (i - 1 + 1) + y - (6 + 54 * i)) = 6 + 54 * (i - 1) + y by omega]
          exact hlo (i - 1) y (by omega) (by omega) y0 y1
        · rw [q1, if_neg (by omega)]; exact hhi j y (by omega) j1 y0 y1
      · by_cases q : j = i - 1
        · rw [q]; omega
        · exact hgt j (by omega) j1
      · rw [q1, if_neg (by omega)]; exact hff x x0 x1
set_option maxHeartbeats 600000 in
set_option maxRecDepth 100000 in
theorem sp_opens {n v a : Int} {g : Int → fe} (hst : sR (M 128) n g) (hs : srt n g) (hn : n < 12) (hkv : px_kd LAY v = 0) (ha : pok (M v) a (px_ln LAY v)) (hln : px_ln LAY v < 10000) (hv : v ≠ 128 ∨ 654 ≤ a) (hok : okp (fp (M v) a)) (h : ∀ M' i, 0 ≤ i → i ≤ n → (∀ j, 0 ≤ j → j < i → enc (g j).1 ≤ enc (fp (M v) a)) → (∀ j, i ≤ j → j < n → enc (fp (M v) a) < enc (g j).1) → opn (M' 128) (M 128) n i (fun y => M v (a + y)) → (∀ b, b ≠ 128 → M' b = M b) → Q (some (0, i)) M') : px_Ok 217 [(2, 127), (2, v), (0, a)] LAY M Q := by
  have h1 := hst.1
  refine px_ok_go (inl := []) (ls0 := [(2, 127), (2, v), (0, a), (9, 0)]) 60 (by decide) (Nat.le_of_ble_eq_true rfl) rfl ?_
  simp only [px_go, px_Q0_at, px_sx_0, px_sx_s, px_cl, px_step, ↓px_ll, px_lg, f4_, ↓px_r1, ↓px_r2, ↓px_r4, ↓px_r5, ↓px_p1, ↓px_p2, ↓px_p3, ↓px_pop, px_k_0, px_k_s, px_k3_0, px_stk_, px_cats, px_ent, px_st1, px_st2, px_mask, ↓px_tsw, ↓px_lsw, ct_, mls_0, mls_1, mls_2, mls_3, mls_4, mls_5, kd_0, kd_1, kd_2, kd_3, ln_0, ln_1, ln_2, ln_3, gf_0, gf_1, gf_2, gf_3, gf_4, gf_7, gf_21, gf_63, dy_0, dy_1, dy_2, dy_3, dy_7, dy_21, px_brT, px_brF, true_and, and_true, and_false, false_and, and_self, true_implies, false_implies, or_true, true_or, or_false, false_or, eq_self, ne_eq, not_false_eq_true, not_true_eq_false, if_true, if_false, List.mem_cons, List.not_mem_nil, List.length_cons, List.length_nil, Nat.reduceEqDiff, Nat.reduceAdd, Nat.reduceSub, Nat.reduceLeDiff, Nat.reduceLT, Int.reduceEq, Int.reduceLT, Int.reduceLE, Int.reduceNeg, Int.reduceAdd, Int.reduceSub, Int.reduceToNat, ↓reduceIte, one_ne_zero_, zero_ne_one_, px_in32L, cd_217, h1]
  repeat' (first | (with_reducible apply And.intro) | (with_reducible refine px_br_intro (fun _ => ?_) (fun _ => ?_)))
  all_goals (try (first | (unfold px_in32; omega) | omega))
  exact lp_opens (M0 := M) hst hs hn hkv ha hln hv hok h n hst.2.1 M (Int.le_refl n) h1 (fun _ _ _ _ _ _ => rfl) (fun j y j0 j1 _ _ => by omega) (fun j j0 j1 => by omega) (frf_refl _) (fun _ _ => rfl)
end PS
