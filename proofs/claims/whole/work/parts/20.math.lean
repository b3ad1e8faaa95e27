/-! numbers: least, sums; bits as divisions -/
theorem up_ind {P : Int → Prop} (n : Int) (h : ∀ i, i ≤ n → (i < n → P (i + 1)) → P i) (i : Int) (hi : i ≤ n) : P i := by
  have key : ∀ (k : Nat) (i : Int), i ≤ n → n - i ≤ k → P i := by
    intro k
    induction k with
    | zero => intro i h1 h2; exact h i h1 (fun h3 => by omega)
    | succ k ih => intro i h1 h2; exact h i h1 (fun h3 => ih (i + 1) (by omega) (by omega))
  exact key (n - i).toNat i hi (by omega)
theorem dn_ind {P : Int → Prop} (n : Int) (h : ∀ i, n ≤ i → (n < i → P (i - 1)) → P i) (i : Int) (hi : n ≤ i) : P i := by
  have key : ∀ (k : Nat) (i : Int), n ≤ i → i - n ≤ k → P i := by
    intro k
    induction k with
    | zero => intro i h1 h2; exact h i h1 (fun h3 => by omega)
    | succ k ih => intro i h1 h2; exact h i h1 (fun h3 => ih (i - 1) (by omega) (by omega))
  exact key (i - n).toNat i hi (by omega)
/-- the least of the first n that is so; else -1 -/
noncomputable def fndN (p : Int → Prop) : Nat → Int → Int
  | 0, _ => -1
  | k + 1, i => by
    classical
    exact if p i then i else fndN p k (i + 1)
noncomputable def fnd (n : Int) (p : Int → Prop) : Int := fndN p n.toNat 0
theorem fndN_spec (p : Int → Prop) : ∀ (k : Nat) (i : Int), (fndN p k i = -1 ∧ ∀ j, i ≤ j → j < i + k → ¬ p j) ∨ (i ≤ fndN p k i ∧ fndN p k i < i + k ∧ p (fndN p k i) ∧ ∀ j, i ≤ j → j < fndN p k i → ¬ p j) := by
  intro k
  induction k with
  | zero => intro i; left; exact ⟨rfl, fun j h1 h2 => by omega⟩
  | succ k ih =>
    intro i
    unfold fndN
    by_cases hp : p i
    · right
      rw [if_pos hp]
      exact ⟨Int.le_refl _, by omega, hp, fun j h1 h2 => by omega⟩
    · rw [if_neg hp]
      rcases ih (i + 1) with ⟨h1, h2⟩ | ⟨h1, h2, h3, h4⟩
      · left
        refine ⟨h1, fun j a b => ?_⟩
        by_cases hj : j = i
        · rw [hj]; exact hp
        · exact h2 j (by omega) (by omega)
      · right
        refine ⟨by omega, by omega, h3, fun j a b => ?_⟩
        by_cases hj : j = i
        · rw [hj]; exact hp
        · exact h4 j (by omega) (by omega)
theorem fnd_spec (n : Int) (p : Int → Prop) : (fnd n p = -1 ∧ ∀ j, 0 ≤ j → j < n → ¬ p j) ∨ (0 ≤ fnd n p ∧ fnd n p < n ∧ p (fnd n p) ∧ ∀ j, 0 ≤ j → j < fnd n p → ¬ p j) := by
  rcases fndN_spec p n.toNat 0 with ⟨h1, h2⟩ | ⟨h1, h2, h3, h4⟩
  · left; exact ⟨h1, fun j a b => h2 j a (by omega)⟩
  · right; exact ⟨h1, by unfold fnd; omega, h3, h4⟩
theorem fnd_hit {n i : Int} {p : Int → Prop} (h0 : 0 ≤ i) (h1 : i < n) (hp : p i) (hl : ∀ j, 0 ≤ j → j < i → ¬ p j) : fnd n p = i := by
  rcases fnd_spec n p with ⟨a1, a2⟩ | ⟨a1, a2, a3, a4⟩
  · exact absurd hp (a2 i h0 h1)
  · rcases (by omega : fnd n p < i ∨ i < fnd n p ∨ fnd n p = i) with h | h | h
    · exact absurd a3 (hl _ a1 h)
    · exact absurd hp (a4 i h0 h)
    · exact h
theorem fnd_miss {n : Int} {p : Int → Prop} (hl : ∀ j, 0 ≤ j → j < n → ¬ p j) : fnd n p = -1 := by
  rcases fnd_spec n p with ⟨a1, a2⟩ | ⟨a1, a2, a3, a4⟩
  · exact a1
  · exact absurd a3 (hl _ a1 a2)
theorem fnd_congr {n : Int} {p q : Int → Prop} (h : ∀ j, 0 ≤ j → j < n → (p j ↔ q j)) : fnd n p = fnd n q := by
  rcases fnd_spec n p with ⟨h1, h2⟩ | ⟨h1, h2, h3, h4⟩
  · rw [h1, fnd_miss (fun j a b c => h2 j a b ((h j a b).mpr c))]
  · exact (fnd_hit h1 h2 ((h _ h1 h2).mp h3) (fun j a b c => h4 j a b ((h j a (by omega)).mpr c))).symm
/-- sums -/
def smN : Nat → (Int → Int) → Int
  | 0, _ => 0
  | k + 1, f => smN k f + f k
def sm (n : Int) (f : Int → Int) : Int := smN n.toNat f
theorem sm_0 (f : Int → Int) : sm 0 f = 0 := rfl
theorem sm_s {i : Int} (h : 0 ≤ i) (f : Int → Int) : sm (i + 1) f = sm i f + f i := by
  unfold sm
  rw [show (i + 1).toNat = i.toNat + 1 by omega]
  show smN i.toNat f + f (i.toNat : Int) = _
  rw [Int.toNat_of_nonneg h]
theorem sm_congr {n : Int} {f g : Int → Int} (h : ∀ j, 0 ≤ j → j < n → f j = g j) : sm n f = sm n g := by
  unfold sm
  have key : ∀ k : Nat, (k : Int) ≤ n ∨ k = 0 → smN k f = smN k g := by
    intro k
    induction k with
    | zero => intro _; rfl
    | succ k ih =>
      intro hk
      show smN k f + f k = smN k g + g k
      rw [ih (Or.inl (by omega)), h k (by omega) (by omega)]
  exact key _ (by omega)
theorem sm_le {n : Int} {f g : Int → Int} (h : ∀ j, 0 ≤ j → j < n → f j ≤ g j) : sm n f ≤ sm n g := by
  unfold sm
  have key : ∀ k : Nat, (k : Int) ≤ n ∨ k = 0 → smN k f ≤ smN k g := by
    intro k
    induction k with
    | zero => intro _; exact Int.le_refl _
    | succ k ih =>
      intro hk
      show smN k f + f k ≤ smN k g + g k
      exact Int.add_le_add (ih (Or.inl (by omega))) (h k (by omega) (by omega))
  exact key _ (by omega)
theorem sm_const (n c : Int) (h : 0 ≤ n) : sm n (fun _ => c) = n * c := by
  unfold sm
  have key : ∀ k : Nat, smN k (fun _ => c) = (k : Int) * c := by
    intro k
    induction k with
    | zero => simp [smN]
    | succ k ih =>
      show smN k (fun _ => c) + c = _
      rw [ih, Int.natCast_succ, Int.add_mul, Int.one_mul]
  rw [key, Int.toNat_of_nonneg h]
theorem sm_0le {n : Int} {f : Int → Int} (h : ∀ j, 0 ≤ j → j < n → 0 ≤ f j) : 0 ≤ sm n f := by
  have h1 := sm_le (n := n) (f := fun _ => 0) (g := f) h
  have h2 : sm n (fun _ => 0) = 0 := by
    by_cases hn : 0 ≤ n
    · rw [sm_const n 0 hn]; simp
    · unfold sm; rw [show n.toNat = 0 by omega]; rfl
  omega
theorem sm_bnd {n c : Int} {f : Int → Int} (hn : 0 ≤ n) (h : ∀ j, 0 ≤ j → j < n → 0 ≤ f j ∧ f j ≤ c) : 0 ≤ sm n f ∧ sm n f ≤ n * c := by
  refine ⟨sm_0le (fun j a b => (h j a b).1), ?_⟩
  rw [← sm_const n c hn]
  exact sm_le (fun j a b => (h j a b).2)
/-- and of ones and noughts -/
theorem p2_pos (k : Nat) : (0 : Int) < 2 ^ k := by
  have := Nat.pow_pos (a := 2) (n := k) (by decide)
  exact_mod_cast this
theorem p2_cast (k : Nat) : ((2 ^ k : Nat) : Int) = (2 : Int) ^ k := by
  induction k with
  | zero => rfl
  | succ k ih => rw [Nat.pow_succ, Int.pow_succ, ← ih]; rfl
theorem p2_le {j k : Nat} (h : j ≤ k) : (2 : Int) ^ j ≤ 2 ^ k := by
  rw [← p2_cast, ← p2_cast]
  exact_mod_cast Nat.pow_le_pow_right (by decide) h
theorem ofInt32_nat (a : Int) : (BitVec.ofInt 32 a).toNat = (a % 4294967296).toNat := by
  rw [BitVec.toNat_ofInt]; rfl
theorem ofInt64_nat (a : Int) : (BitVec.ofInt 64 a).toNat = (a % 18446744073709551616).toNat := by
  rw [BitVec.toNat_ofInt]; rfl
theorem and_mask (a : Int) (k : Nat) (hk : k < 31) : px_iand a (2 ^ k - 1) = a % 2 ^ k := by
  have hp := p2_le (show k ≤ 30 by omega)
  have hp0 := p2_pos k
  have hm : ((2 : Int) ^ k - 1) % 4294967296 = 2 ^ k - 1 := Int.emod_eq_of_lt (by omega) (by omega)
  have hmn : ((2 : Int) ^ k - 1).toNat = 2 ^ k - 1 := by rw [← p2_cast]; omega
  unfold px_iand
  rw [← Int32.toInt_toBitVec, Int32.toBitVec_and, Int32.toBitVec_ofInt, Int32.toBitVec_ofInt, BitVec.toInt_eq_toNat_bmod, BitVec.toNat_and, ofInt32_nat, ofInt32_nat, hm, hmn, Nat.and_two_pow_sub_one_eq_mod]
  have h1 : (((a % 4294967296).toNat % 2 ^ k : Nat) : Int) = a % 2 ^ k := by
    rw [Int.natCast_emod, p2_cast, Int.toNat_of_nonneg (Int.emod_nonneg _ (by decide))]
    have hd : (2 : Int) ^ k ∣ 4294967296 := by
      refine ⟨2 ^ (32 - k), ?_⟩
      rw [← Int.pow_add, show k + (32 - k) = 32 by omega]
      rfl
    exact Int.emod_emod_of_dvd a hd
  rw [h1]
  have h2 := Int.emod_nonneg a (show (2 : Int) ^ k ≠ 0 by omega)
  have h3 := Int.emod_lt_of_pos a hp0
  exact Int.bmod_eq_of_le (by omega) (by omega)
theorem and_1 (a : Int) : px_iand a 1 = a % 2 := and_mask a 1 (by decide)
theorem and_31 (a : Int) : px_iand a 31 = a % 32 := and_mask a 5 (by decide)
theorem and_63 (a : Int) : px_iand a 63 = a % 64 := and_mask a 6 (by decide)
theorem and_255 (a : Int) : px_iand a 255 = a % 256 := and_mask a 8 (by decide)
theorem shl_amt : ∀ b : Nat, b < 64 → ((Int32.ofInt (b : Int)).toInt64 &&& 63).toBitVec.smod 64 = BitVec.ofNat 64 b := by decide +kernel
theorem shr_amt : ∀ b : Nat, b < 64 → ((Int32.ofInt (b : Int)).toInt64.toUInt64 &&& Int64.toUInt64 63).toBitVec % 64 = BitVec.ofNat 64 b := by decide +kernel
theorem lshl_eq {a b : Int} (h0 : 0 ≤ b) (h1 : b < 64) (ha : 0 ≤ a) (ha2 : a < 9223372036854775808) : px_lshl a b = Int.bmod (a * 2 ^ b.toNat) 18446744073709551616 := by
  obtain ⟨n, rfl⟩ := Int.eq_ofNat_of_zero_le h0
  unfold px_lshl
  rw [← Int64.toInt_toBitVec, Int64.toBitVec_shiftLeft, shl_amt n (by omega), BitVec.shiftLeft_eq', BitVec.toInt_shiftLeft, Int64.toBitVec_ofInt, ofInt64_nat, BitVec.toNat_ofNat, Nat.mod_eq_of_lt (by omega), Int.emod_eq_of_lt ha (by omega), Int.toNat_natCast]
  rw [Nat.shiftLeft_eq, Int.natCast_mul, p2_cast, Int.toNat_of_nonneg ha]
theorem lushr_eq {a b : Int} (h0 : 0 ≤ b) (h1 : b < 64) (ha : 0 ≤ a) (ha2 : a < 9223372036854775808) : px_lushr a b = a / 2 ^ b.toNat := by
  obtain ⟨n, rfl⟩ := Int.eq_ofNat_of_zero_le h0
  unfold px_lushr
  rw [← Int64.toInt_toBitVec, UInt64.toBitVec_toInt64, UInt64.toBitVec_shiftRight, shr_amt n (by omega), Int64.toBitVec_toUInt64, Int64.toBitVec_ofInt, BitVec.ushiftRight_eq', BitVec.toNat_ofNat, Nat.mod_eq_of_lt (by omega), BitVec.toInt_eq_toNat_bmod, BitVec.toNat_ushiftRight, ofInt64_nat, Int.emod_eq_of_lt ha (by omega), Int.toNat_natCast]
  rw [Nat.shiftRight_eq_div_pow, Int.natCast_ediv, p2_cast, Int.toNat_of_nonneg ha]
  have hp := p2_pos n
  have h2 : a / 2 ^ n ≤ a := Int.ediv_le_self _ ha
  have h3 : 0 ≤ a / 2 ^ n := Int.ediv_nonneg ha (Int.le_of_lt hp)
  exact Int.bmod_eq_of_le (by omega) (by omega)
theorem land_low {a : Int} : px_land a 1152921504606846975 = a % 1152921504606846976 := by
  unfold px_land
  rw [← Int64.toInt_toBitVec, Int64.toBitVec_and, Int64.toBitVec_ofInt, Int64.toBitVec_ofInt, BitVec.toInt_eq_toNat_bmod, BitVec.toNat_and, ofInt64_nat, ofInt64_nat, show ((1152921504606846975 : Int) % 18446744073709551616).toNat = 2 ^ 60 - 1 from rfl, Nat.and_two_pow_sub_one_eq_mod]
  have h1 : (((a % 18446744073709551616).toNat % 2 ^ 60 : Nat) : Int) = a % 1152921504606846976 := by
    rw [Int.natCast_emod, Int.toNat_of_nonneg (Int.emod_nonneg _ (by decide))]
    show a % 18446744073709551616 % 1152921504606846976 = _
    omega
  rw [h1]
  exact Int.bmod_eq_of_le (by omega) (by omega)
theorem l2i_31 (a : Int) : px_iand (px_l2i a) 31 = a % 32 := by
  rw [and_31]
  unfold px_l2i
  rw [← Int32.toInt_toBitVec, Int64.toBitVec_toInt32, Int64.toBitVec_ofInt, BitVec.signExtend_eq_setWidth_of_le _ (by decide), BitVec.toInt_eq_toNat_bmod, BitVec.toNat_setWidth, ofInt64_nat]
  rw [Int.natCast_emod, Int.toNat_of_nonneg (Int.emod_nonneg _ (by decide))]
  unfold Int.bmod
  dsimp only
  omega
theorem lcmp_lt (a b : Int) : (px_lcmp a b < 0 ↔ a < b) ∧ (px_lcmp a b = 0 ↔ a = b) ∧ (0 ≤ px_lcmp a b ↔ b ≤ a) ∧ (0 < px_lcmp a b ↔ b < a) ∧ (px_lcmp a b ≤ 0 ↔ a ≤ b) := by
  unfold px_lcmp
  split
  · omega
  · split <;> omega
theorem iushr_nat : ∀ b : Nat, b < 32 → ((Int32.ofInt (b : Int)).toUInt32 &&& Int32.toUInt32 31).toBitVec % 32 = BitVec.ofNat 32 b := by decide +kernel
theorem iushr_255 {a : Int} {b : Nat} (hb : b ≤ 24) : px_iand (px_iushr a b) 255 = a / 2 ^ b % 256 := by
  rw [and_255]
  unfold px_iushr
  rw [← Int32.toInt_toBitVec, UInt32.toBitVec_toInt32, UInt32.toBitVec_shiftRight, iushr_nat b (by omega), Int32.toBitVec_toUInt32, Int32.toBitVec_ofInt, BitVec.ushiftRight_eq', BitVec.toNat_ofNat, Nat.mod_eq_of_lt (by omega), BitVec.toInt_eq_toNat_bmod, BitVec.toNat_ushiftRight, ofInt32_nat]
  rw [Nat.shiftRight_eq_div_pow, Int.natCast_ediv, p2_cast, Int.toNat_of_nonneg (Int.emod_nonneg _ (by decide))]
  have hm : ∀ x : Int, Int.bmod x (2 ^ 32) % 256 = x % 256 := by
    intro x
    unfold Int.bmod
    dsimp only
    omega
  rw [hm]
  have key : ∀ n : Nat, n ≤ 24 → a % 4294967296 / 2 ^ n % 256 = a / 2 ^ n % 256 := by
    intro n hn
    have hd : (4294967296 : Int) = 2 ^ n * 2 ^ (32 - n) := by
      rw [← Int.pow_add, show n + (32 - n) = 32 by omega]; rfl
    have hp := p2_pos n
    have hq : (2 : Int) ^ (32 - n) = 256 * 2 ^ (24 - n) := by
      rw [show (256 : Int) = 2 ^ 8 from rfl, ← Int.pow_add, show 8 + (24 - n) = 32 - n by omega]
    have h1 : a % 4294967296 = a - 2 ^ n * (2 ^ (32 - n) * (a / 4294967296)) := by
      have h9 := Int.emod_def a 4294967296
      rw [h9, ← Int.mul_assoc, ← hd]
    rw [h1, Int.sub_mul_ediv_left _ _ (by omega)]
    rw [hq, Int.mul_assoc]
    omega
  exact key b hb
theorem ishr_nat : ∀ b : Nat, b < 32 → ((Int32.ofInt (b : Int)) &&& 31).toBitVec.smod 32 = BitVec.ofNat 32 b := by decide +kernel
theorem ishr_eq {a : Int} {b : Int} (h0 : 0 ≤ b) (h1 : b < 32) (ha : px_in32 a) : px_ishr a b = a / 2 ^ b.toNat := by
  obtain ⟨n, rfl⟩ := Int.eq_ofNat_of_zero_le h0
  unfold px_ishr
  rw [← Int32.toInt_toBitVec, Int32.toBitVec_shiftRight, ishr_nat n (by omega), BitVec.sshiftRight_eq', BitVec.toNat_ofNat, Nat.mod_eq_of_lt (by omega), BitVec.toInt_sshiftRight, Int32.toInt_toBitVec, px_t32 ha, Int.shiftRight_eq_div_pow, Int.toNat_natCast, p2_cast]
theorem ishl_eq {b : Int} (h0 : 0 ≤ b) (h1 : b < 31) : px_ishl 1 b = 2 ^ b.toNat := by
  obtain ⟨n, rfl⟩ := Int.eq_ofNat_of_zero_le h0
  have key : ∀ n : Nat, n < 31 → px_ishl 1 (n : Int) = 2 ^ (n : Int).toNat := by decide +kernel
  exact key n (by omega)
theorem ishl2_eq {b : Int} (h0 : 0 ≤ b) (h1 : b < 30) : px_ishl 2 b = 2 ^ (b.toNat + 1) := by
  obtain ⟨n, rfl⟩ := Int.eq_ofNat_of_zero_le h0
  have key : ∀ n : Nat, n < 30 → px_ishl 2 (n : Int) = 2 ^ ((n : Int).toNat + 1) := by decide +kernel
  exact key n (by omega)
theorem i2b_255 (a : Int) : px_iand (px_i2b a) 255 = a % 256 ∧ -128 ≤ px_i2b a ∧ px_i2b a < 128 := by
  rw [and_255]
  unfold px_i2b
  rw [Int8.toInt_toInt32, Int32.toInt_toInt8, Int32.toInt_ofInt]
  unfold Int.bmod
  dsimp only
  refine ⟨?_, ?_, ?_⟩ <;> show _ <;> simp only [Int32.size] <;> omega
