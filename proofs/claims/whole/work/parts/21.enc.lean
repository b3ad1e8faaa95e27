/-! paths as lists of bytes, and as one number: five bits a sign, the first sign highest -/
def sg (b : Int) : Int := if b = 47 then 1 else if 97 ≤ b ∧ b ≤ 122 then b - 95 else 0
theorem sg_rng (b : Int) : 0 ≤ sg b ∧ sg b ≤ 27 := by unfold sg; split <;> (try split) <;> omega
theorem sg_0 (b : Int) : sg b = 0 ↔ ¬ (b = 47 ∨ (97 ≤ b ∧ b ≤ 122)) := by unfold sg; split <;> (try split) <;> omega
theorem sg_1 (b : Int) : sg b = 1 ↔ b = 47 := by unfold sg; split <;> (try split) <;> omega
theorem sg_inj {a b : Int} (h : sg a = sg b) (h0 : sg a ≠ 0) : a = b := by
  unfold sg at h h0
  split at h <;> split at h <;> (try split at h) <;> (try split at h) <;> (try omega)
  all_goals (first | omega | (simp_all; omega) | simp_all)
theorem sg_lt {a b : Int} (ha : sg a ≠ 0) (hb : sg b ≠ 0) : sg a < sg b ↔ a < b := by
  have h1 := sg_0 a
  have h2 := sg_0 b
  unfold sg at ha hb ⊢
  split <;> split <;> (try split) <;> (try split) <;> omega
def P32 (d : Nat) : Int := 32 ^ d
theorem P32_s (d : Nat) : P32 (d + 1) = 32 * P32 d := by unfold P32; rw [Int.pow_succ, Int.mul_comm]
theorem P32_pos (d : Nat) : 0 < P32 d := by
  induction d with
  | zero => decide
  | succ d ih => rw [P32_s]; omega
theorem P32_12 : P32 12 = 1152921504606846976 := by decide
theorem P32_2 (d : Nat) : P32 d = 2 ^ (5 * d) := by
  induction d with
  | zero => rfl
  | succ d ih => rw [P32_s, ih, show 5 * (d + 1) = 5 * d + 5 by omega, Int.pow_add, Int.mul_comm]; rfl
theorem P32_add (a b : Nat) : P32 (a + b) = P32 a * P32 b := by unfold P32; rw [Int.pow_add]
def encF : Nat → List Int → Int
  | 0, _ => 0
  | _ + 1, [] => 0
  | d + 1, b :: l => sg b * P32 d + encF d l
def enc (l : List Int) : Int := encF 12 l
theorem encF_nil (d : Nat) : encF d [] = 0 := by cases d <;> rfl
theorem encF_rng (d : Nat) (l : List Int) : 0 ≤ encF d l ∧ encF d l < P32 d := by
  induction d generalizing l with
  | zero => exact ⟨Int.le_refl _, P32_pos 0⟩
  | succ d ih => cases l with
    | nil => exact ⟨Int.le_refl _, P32_pos _⟩
    | cons b l =>
      obtain ⟨h1, h2⟩ := ih l
      obtain ⟨h3, h4⟩ := sg_rng b
      have h5 := P32_pos d
      show 0 ≤ sg b * P32 d + encF d l ∧ sg b * P32 d + encF d l < P32 (d + 1)
      rw [P32_s]
      have h6 : 0 ≤ sg b * P32 d := Int.mul_nonneg h3 (Int.le_of_lt h5)
      have h7 : sg b * P32 d ≤ 27 * P32 d := Int.mul_le_mul_of_nonneg_right h4 (Int.le_of_lt h5)
      omega
theorem enc_rng (l : List Int) : 0 ≤ enc l ∧ enc l < 1152921504606846976 := by
  have := encF_rng 12 l
  rw [P32_12] at this
  exact this
/-- all its bytes are signs -/
def okl (l : List Int) : Prop := ∀ b ∈ l, sg b ≠ 0
theorem okl_cons {b : Int} {l : List Int} : okl (b :: l) ↔ sg b ≠ 0 ∧ okl l := by simp [okl]
theorem okl_nil : okl [] := by simp [okl]
theorem okl_drop {l : List Int} (h : okl l) (n : Nat) : okl (l.drop n) := fun b hb => h b (List.mem_of_mem_drop hb)
theorem okl_app {a b : List Int} : okl (a ++ b) ↔ okl a ∧ okl b := by
  unfold okl
  constructor
  · intro h; exact ⟨fun x hx => h x (by simp [hx]), fun x hx => h x (by simp [hx])⟩
  · rintro ⟨h1, h2⟩ x hx
    rcases List.mem_append.mp hx with h | h
    · exact h1 x h
    · exact h2 x h
theorem mulP_div (s P e : Int) (hP : 0 < P) (h0 : 0 ≤ e) (h1 : e < P) : (s * P + e) / P = s ∧ (s * P + e) % P = e := by
  constructor
  · rw [Int.add_comm, Int.add_mul_ediv_right _ _ (by omega), Int.ediv_eq_zero_of_lt h0 h1]; omega
  · rw [Int.add_comm, Int.add_mul_emod_self_right, Int.emod_eq_of_lt h0 h1]
theorem encF_0 {d : Nat} {l : List Int} (hl : okl l) (hd : l.length ≤ d) : encF d l = 0 ↔ l = [] := by
  cases l with
  | nil => simp [encF_nil]
  | cons b l =>
    cases d with
    | zero => simp at hd
    | succ d =>
      have h1 := encF_rng d l
      have h2 := (okl_cons.mp hl).1
      have h3 := sg_rng b
      have h5 := P32_pos d
      have h6 : 1 * P32 d ≤ sg b * P32 d := Int.mul_le_mul_of_nonneg_right (by omega) (Int.le_of_lt h5)
      constructor
      · intro h
        have h7 : sg b * P32 d + encF d l = 0 := h
        omega
      · intro h; cases h
theorem enc_0 {l : List Int} (hl : okl l) (hd : l.length ≤ 12) : enc l = 0 ↔ l = [] := encF_0 hl hd
/-- order, byte by byte -/
def lxlt : List Int → List Int → Prop
  | _, [] => False
  | [], _ :: _ => True
  | a :: l, b :: m => a < b ∨ (a = b ∧ lxlt l m)
theorem encF_lt {d : Nat} {l m : List Int} (hl : okl l) (hm : okl m) (h1 : l.length ≤ d) (h2 : m.length ≤ d) : encF d l < encF d m ↔ lxlt l m := by
  induction d generalizing l m with
  | zero =>
    have e1 : l = [] := List.length_eq_zero_iff.mp (by omega)
    have e2 : m = [] := List.length_eq_zero_iff.mp (by omega)
    subst e1; subst e2
    simp [encF, lxlt]
  | succ d ih => cases m with
    | nil =>
      have := encF_rng (d + 1) l
      simp only [encF_nil, lxlt, iff_false]
      omega
    | cons b m => cases l with
      | nil =>
        have h3 : ¬ encF (d + 1) (b :: m) = 0 := fun h => by have := (encF_0 hm h2).mp h; cases this
        have h4 := encF_rng (d + 1) (b :: m)
        simp only [encF_nil, lxlt, iff_true]
        omega
      | cons a l =>
        simp only [List.length_cons] at h1 h2
        have hh := ih (okl_cons.mp hl).2 (okl_cons.mp hm).2 (by omega) (by omega)
        have r1 := encF_rng d l
        have r2 := encF_rng d m
        have hP := P32_pos d
        have hs := sg_lt (okl_cons.mp hl).1 (okl_cons.mp hm).1
        show sg a * P32 d + encF d l < sg b * P32 d + encF d m ↔ a < b ∨ (a = b ∧ lxlt l m)
        rcases (by omega : sg a < sg b ∨ sg a = sg b ∨ sg b < sg a) with h | h | h
        · have h5 : (sg a + 1) * P32 d ≤ sg b * P32 d := Int.mul_le_mul_of_nonneg_right (by omega) (Int.le_of_lt hP)
          rw [Int.add_mul, Int.one_mul] at h5
          exact ⟨fun _ => Or.inl (hs.mp h), fun _ => by omega⟩
        · have e := sg_inj h (okl_cons.mp hl).1
          subst e
          rw [← hh]
          exact ⟨fun h => Or.inr ⟨rfl, by omega⟩, fun h => by rcases h with h | h <;> omega⟩
        · have h5 : (sg b + 1) * P32 d ≤ sg a * P32 d := Int.mul_le_mul_of_nonneg_right (by omega) (Int.le_of_lt hP)
          rw [Int.add_mul, Int.one_mul] at h5
          refine ⟨fun _ => by omega, fun hx => ?_⟩
          rcases hx with hx | ⟨rfl, -⟩
          · have := hs.mpr hx; omega
          · omega
theorem encF_inj {d : Nat} {l m : List Int} (hl : okl l) (hm : okl m) (h1 : l.length ≤ d) (h2 : m.length ≤ d) (h : encF d l = encF d m) : l = m := by
  induction d generalizing l m with
  | zero => rw [List.length_eq_zero_iff.mp (by omega : l.length = 0), List.length_eq_zero_iff.mp (by omega : m.length = 0)]
  | succ d ih => cases m with
    | nil => rw [encF_nil] at h; exact (encF_0 hl h1).mp h
    | cons b m => cases l with
      | nil => rw [encF_nil] at h; have := (encF_0 hm h2).mp h.symm; cases this
      | cons a l =>
        simp only [List.length_cons] at h1 h2
        have r1 := encF_rng d l
        have r2 := encF_rng d m
        have hP := P32_pos d
        have h3 : sg a * P32 d + encF d l = sg b * P32 d + encF d m := h
        have q1 := mulP_div (sg a) (P32 d) (encF d l) hP r1.1 r1.2
        have q2 := mulP_div (sg b) (P32 d) (encF d m) hP r2.1 r2.2
        rw [h3] at q1
        have e1 : sg a = sg b := q1.1.symm.trans q2.1
        have e2 : encF d l = encF d m := q1.2.symm.trans q2.2
        rw [sg_inj e1 (okl_cons.mp hl).1, ih (okl_cons.mp hl).2 (okl_cons.mp hm).2 (by omega) (by omega) e2]
theorem enc_lt {l m : List Int} (hl : okl l) (hm : okl m) (h1 : l.length ≤ 12) (h2 : m.length ≤ 12) : enc l < enc m ↔ lxlt l m := encF_lt hl hm h1 h2
theorem enc_inj {l m : List Int} (hl : okl l) (hm : okl m) (h1 : l.length ≤ 12) (h2 : m.length ≤ 12) (h : enc l = enc m) : l = m := encF_inj hl hm h1 h2 h
/-- the k-th sign -/
theorem encF_dig {d : Nat} (l : List Int) {k : Nat} (hk : k < d) : encF d l / P32 (d - 1 - k) % 32 = (match l[k]? with | some b => sg b | none => 0) := by
  induction k generalizing d l with
  | zero => cases d with
    | zero => omega
    | succ d => cases l with
      | nil => simp [encF_nil]
      | cons b l =>
        have r1 := encF_rng d l
        have hP := P32_pos d
        have q1 := mulP_div (sg b) (P32 d) (encF d l) hP r1.1 r1.2
        have h3 := sg_rng b
        show (sg b * P32 d + encF d l) / P32 (d + 1 - 1 - 0) % 32 = sg b
        rw [show d + 1 - 1 - 0 = d by omega, q1.1]
        omega
  | succ k ih => cases d with
    | zero => omega
    | succ d => cases l with
      | nil => simp [encF_nil]
      | cons b l =>
        have h1 := ih (d := d) l (by omega)
        show (sg b * P32 d + encF d l) / P32 (d + 1 - 1 - (k + 1)) % 32 = (match l[k]? with | some b => sg b | none => 0)
        rw [← h1, show d + 1 - 1 - (k + 1) = d - 1 - k by omega]
        have hd : P32 d = 32 * P32 k * P32 (d - 1 - k) := by
          rw [show d = 1 + k + (d - 1 - k) by omega, P32_add, P32_add, show P32 1 = 32 from by decide, show 1 + k + (d - 1 - k) - 1 - k = d - 1 - k by omega]
        have hP := P32_pos (d - 1 - k)
        rw [hd, ← Int.mul_assoc, Int.add_comm, Int.add_mul_ediv_right _ _ (by omega), ← Int.mul_assoc, Int.mul_comm (sg b) 32, Int.mul_assoc, Int.add_mul_emod_self_left]
theorem encF_pad {d : Nat} {l : List Int} (h : l.length ≤ d) : encF (d + 1) l = 32 * encF d l := by
  induction d generalizing l with
  | zero =>
    have e1 : l = [] := List.length_eq_zero_iff.mp (by omega)
    subst e1; rfl
  | succ d ih => cases l with
    | nil => rfl
    | cons b l =>
      simp only [List.length_cons] at h
      show sg b * P32 (d + 1) + encF (d + 1) l = 32 * (sg b * P32 d + encF d l)
      rw [ih (by omega), P32_s, Int.mul_add, ← Int.mul_assoc, Int.mul_comm (sg b) 32, Int.mul_assoc]
theorem encF_shl {d : Nat} {l : List Int} (h : l.length ≤ d) (j : Nat) : encF d l * P32 j % P32 d = encF d (l.drop j) := by
  induction j generalizing l with
  | zero =>
    have := encF_rng d l
    rw [show P32 0 = 1 from rfl, Int.mul_one, Int.emod_eq_of_lt this.1 this.2]
    rfl
  | succ j ih => cases d with
    | zero =>
      show 0 * _ % _ = 0
      rw [Int.zero_mul, Int.zero_emod]
    | succ d => cases l with
      | nil => rw [encF_nil, Int.zero_mul, Int.zero_emod]; simp [encF_nil]
      | cons b l =>
        simp only [List.length_cons] at h
        have h1 := ih (l := l) (by omega)
        show (sg b * P32 d + encF d l) * P32 (j + 1) % P32 (d + 1) = encF (d + 1) (l.drop j)
        rw [← h1, encF_pad (show l.length ≤ d by omega)]
        rw [P32_s j, Int.add_mul, show sg b * P32 d * (32 * P32 j) = P32 (d + 1) * (sg b * P32 j) by rw [P32_s]; ac_rfl, Int.add_comm, Int.add_mul_emod_self_left]
        congr 1
        ac_rfl
theorem encF_app {d : Nat} {a b : List Int} (h : a.length ≤ d) : encF d (a ++ b) = encF d a + encF (d - a.length) b := by
  induction a generalizing d with
  | nil => rw [encF_nil]; simp
  | cons x a ih => cases d with
    | zero => simp at h
    | succ d =>
      simp only [List.length_cons] at h
      show sg x * P32 d + encF d (a ++ b) = sg x * P32 d + encF d a + _
      rw [ih (by omega), List.length_cons, show d + 1 - (a.length + 1) = d - a.length by omega]
      omega
theorem encF_up {d : Nat} {l : List Int} (j : Nat) (h : l.length ≤ d) : encF (d + j) l = encF d l * P32 j := by
  induction j with
  | zero => rw [show P32 0 = 1 from rfl, Int.mul_one]; rfl
  | succ j ih =>
    rw [show d + (j + 1) = d + j + 1 by omega, encF_pad (by omega), ih, P32_s]
    ac_rfl
/-- the first n signs -/
theorem encF_top {d : Nat} (l : List Int) {n : Nat} (hn : n ≤ d) : encF d l / P32 (d - n) = encF n (l.take n) := by
  induction n generalizing d l with
  | zero =>
    have := encF_rng d l
    rw [Nat.sub_zero, Int.ediv_eq_zero_of_lt this.1 this.2]
    rfl
  | succ n ih => cases d with
    | zero => omega
    | succ d => cases l with
      | nil => simp [encF_nil]
      | cons b l =>
        have h1 := ih (d := d) l (by omega)
        show (sg b * P32 d + encF d l) / P32 (d + 1 - (n + 1)) = sg b * P32 n + encF n (l.take n)
        rw [← h1, show d + 1 - (n + 1) = d - n by omega]
        have hd : P32 d = P32 n * P32 (d - n) := by rw [← P32_add, show n + (d - n) = d by omega]
        have hP := P32_pos (d - n)
        rw [hd, ← Int.mul_assoc, Int.add_comm, Int.add_mul_ediv_right _ _ (by omega), Int.add_comm]
/-- or, where no bit meets one -/
theorem lor_add {a b : Int} {n : Nat} (ha : 0 ≤ a) (ha2 : a < 9223372036854775808) (hd : a % 2 ^ n = 0) (hb : 0 ≤ b) (hb2 : b < 2 ^ n) (hn : n ≤ 62) : px_lor a b = a + b := by
  have hp := p2_pos n
  have hle := p2_le hn
  have e62 : (2 : Int) ^ 62 = 4611686018427387904 := rfl
  obtain ⟨c, hc⟩ := Int.dvd_of_emod_eq_zero hd
  have hc0 : 0 ≤ c := by
    rcases Int.lt_or_le c 0 with h | h
    · have : 2 ^ n * c < 0 := Int.mul_neg_of_pos_of_neg hp h
      omega
    · exact h
  obtain ⟨cn, rfl⟩ := Int.eq_ofNat_of_zero_le hc0
  obtain ⟨bn, rfl⟩ := Int.eq_ofNat_of_zero_le hb
  have hbn : bn < 2 ^ n := by
    have h9 : (bn : Int) < ((2 ^ n : Nat) : Int) := by rw [p2_cast]; exact hb2
    omega
  have han : a.toNat = 2 ^ n * cn := by
    have : a = ((2 ^ n * cn : Nat) : Int) := by rw [hc, Int.natCast_mul, p2_cast]
    rw [this, Int.toNat_natCast]
  have hor : a.toNat ||| bn = a.toNat + bn := by
    rw [han, Nat.two_pow_add_eq_or_of_lt hbn]
  have hsum : a + (bn : Int) < 9223372036854775808 := by
    rcases Nat.lt_or_ge n 62 with h | h
    · rw [hc] at ha2 ⊢
      have e63 : (9223372036854775808 : Int) = 2 ^ n * 2 ^ (63 - n) := by rw [← Int.pow_add, show n + (63 - n) = 63 by omega]; rfl
      rw [e63] at ha2 ⊢
      have h5 : (cn : Int) < 2 ^ (63 - n) := Int.lt_of_mul_lt_mul_left ha2 (Int.le_of_lt hp)
      have h6 : 2 ^ n * ((cn : Int) + 1) ≤ 2 ^ n * 2 ^ (63 - n) := Int.mul_le_mul_of_nonneg_left (by omega) (Int.le_of_lt hp)
      rw [Int.mul_add, Int.mul_one] at h6
      omega
    · have hn2 : n = 62 := by omega
      subst hn2
      omega
  unfold px_lor
  rw [← Int64.toInt_toBitVec, Int64.toBitVec_or, Int64.toBitVec_ofInt, Int64.toBitVec_ofInt, BitVec.toInt_eq_toNat_bmod, BitVec.toNat_or, ofInt64_nat, ofInt64_nat, Int.emod_eq_of_lt ha (by omega), Int.emod_eq_of_lt hb (by omega), Int.toNat_natCast, hor]
  rw [Int.natCast_add, Int.toNat_of_nonneg ha]
  exact Int.bmod_eq_of_le (by omega) (by omega)
