/-! sets of small numbers, as bits -/
def inS (s i : Int) : Prop := Nat.testBit s.toNat i.toNat = true
theorem bv_nn {n : Nat} (h : n < 2147483648) : Int.bmod (n : Int) (2 ^ 32) = n := Int.bmod_eq_of_le (by omega) (by omega)
theorem ior_nat {a b : Int} (ha : 0 ≤ a ∧ a < 2147483648) (hb : 0 ≤ b ∧ b < 2147483648) : px_ior a b = ((a.toNat ||| b.toNat : Nat) : Int) := by
  have h1 : a.toNat ||| b.toNat < 2 ^ 31 := Nat.or_lt_two_pow (by omega) (by omega)
  unfold px_ior
  rw [← Int32.toInt_toBitVec, Int32.toBitVec_or, Int32.toBitVec_ofInt, Int32.toBitVec_ofInt, BitVec.toInt_eq_toNat_bmod, BitVec.toNat_or, ofInt32_nat, ofInt32_nat, Int.emod_eq_of_lt ha.1 (by omega), Int.emod_eq_of_lt hb.1 (by omega)]
  exact bv_nn h1
theorem iand_nat {a b : Int} (ha : 0 ≤ a ∧ a < 2147483648) (hb : 0 ≤ b ∧ b < 2147483648) : px_iand a b = ((a.toNat &&& b.toNat : Nat) : Int) := by
  have h1 : a.toNat &&& b.toNat < 2 ^ 31 := Nat.and_lt_two_pow _ (by omega)
  unfold px_iand
  rw [← Int32.toInt_toBitVec, Int32.toBitVec_and, Int32.toBitVec_ofInt, Int32.toBitVec_ofInt, BitVec.toInt_eq_toNat_bmod, BitVec.toNat_and, ofInt32_nat, ofInt32_nat, Int.emod_eq_of_lt ha.1 (by omega), Int.emod_eq_of_lt hb.1 (by omega)]
  exact bv_nn h1
theorem iushr_nn {a b : Int} (h0 : 0 ≤ b) (h1 : b < 32) (ha : 0 ≤ a) (ha2 : a < 2147483648) : px_iushr a b = a / 2 ^ b.toNat := by
  obtain ⟨n, rfl⟩ := Int.eq_ofNat_of_zero_le h0
  unfold px_iushr
  rw [← Int32.toInt_toBitVec, UInt32.toBitVec_toInt32, UInt32.toBitVec_shiftRight, iushr_nat n (by omega), Int32.toBitVec_toUInt32, Int32.toBitVec_ofInt, BitVec.ushiftRight_eq', BitVec.toNat_ofNat, Nat.mod_eq_of_lt (by omega), BitVec.toInt_eq_toNat_bmod, BitVec.toNat_ushiftRight, ofInt32_nat, Int.emod_eq_of_lt ha (by omega), Int.toNat_natCast]
  rw [Nat.shiftRight_eq_div_pow, Int.natCast_ediv, p2_cast, Int.toNat_of_nonneg ha]
  have hp := p2_pos n
  have h2 : a / 2 ^ n ≤ a := Int.ediv_le_self _ ha
  have h3 : 0 ≤ a / 2 ^ n := Int.ediv_nonneg ha (Int.le_of_lt hp)
  exact Int.bmod_eq_of_le (by omega) (by omega)
theorem div_bit {a b : Int} (ha : 0 ≤ a) : (a / 2 ^ b.toNat) % 2 = b1 (inS a b) := by
  obtain ⟨n, rfl⟩ := Int.eq_ofNat_of_zero_le ha
  have e : ((n : Int) / 2 ^ b.toNat) % 2 = ((n / 2 ^ b.toNat % 2 : Nat) : Int) := by
    rw [Int.natCast_emod, Int.natCast_ediv, p2_cast]; rfl
  have hi : inS (n : Int) b ↔ n / 2 ^ b.toNat % 2 = 1 := by
    unfold inS
    rw [Int.toNat_natCast, Nat.testBit_eq_decide_div_mod_eq, decide_eq_true_eq]
  rw [e]
  by_cases h : n / 2 ^ b.toNat % 2 = 1
  · rw [h, b1_t (hi.mpr h)]; rfl
  · have : n / 2 ^ b.toNat % 2 = 0 := by omega
    rw [this, b1_f (fun q => h (hi.mp q))]; rfl
theorem bit_u {a b : Int} (h0 : 0 ≤ b) (h1 : b < 32) (ha : 0 ≤ a ∧ a < 2147483648) : px_iand (px_iushr a b) 1 = b1 (inS a b) := by
  rw [iushr_nn h0 h1 ha.1 ha.2, and_1, div_bit ha.1]
theorem bit_s {a b : Int} (h0 : 0 ≤ b) (h1 : b < 32) (ha : 0 ≤ a ∧ a < 2147483648) : px_iand (px_ishr a b) 1 = b1 (inS a b) := by
  rw [ishr_eq h0 h1 ⟨by omega, ha.2⟩, and_1, div_bit ha.1]
theorem bit_u0 {a b : Int} (h0 : 0 ≤ b) (h1 : b < 32) (ha : 0 ≤ a ∧ a < 2147483648) : px_iand (px_iushr a b) 1 = 0 ↔ ¬ inS a b := by
  rw [bit_u h0 h1 ha]
  by_cases h : inS a b
  · rw [b1_t h]; exact ⟨fun q => absurd q (by decide), fun q => absurd h q⟩
  · rw [b1_f h]; exact ⟨fun _ => h, fun _ => rfl⟩
theorem bit_s1 {a b : Int} (h0 : 0 ≤ b) (h1 : b < 32) (ha : 0 ≤ a ∧ a < 2147483648) : px_iand (px_ishr a b) 1 = 1 ↔ inS a b := by
  rw [bit_s h0 h1 ha]
  by_cases h : inS a b
  · rw [b1_t h]; exact ⟨fun _ => h, fun _ => rfl⟩
  · rw [b1_f h]; exact ⟨fun q => absurd q (by decide), fun q => absurd q h⟩
theorem ior_in {a b : Int} (ha : 0 ≤ a ∧ a < 2147483648) (hb : 0 ≤ b ∧ b < 2147483648) (i : Int) : inS (px_ior a b) i ↔ inS a i ∨ inS b i := by
  unfold inS
  rw [ior_nat ha hb, Int.toNat_natCast, Nat.testBit_or, Bool.or_eq_true]
theorem iand_in {a b : Int} (ha : 0 ≤ a ∧ a < 2147483648) (hb : 0 ≤ b ∧ b < 2147483648) (i : Int) : inS (px_iand a b) i ↔ inS a i ∧ inS b i := by
  unfold inS
  rw [iand_nat ha hb, Int.toNat_natCast, Nat.testBit_and, Bool.and_eq_true]
theorem ior_lt {a b : Int} {n : Nat} (hn : n ≤ 31) (ha : 0 ≤ a ∧ a < 2 ^ n) (hb : 0 ≤ b ∧ b < 2 ^ n) : 0 ≤ px_ior a b ∧ px_ior a b < 2 ^ n := by
  have hp := p2_le hn
  have e31 : (2 : Int) ^ 31 = 2147483648 := rfl
  rw [ior_nat ⟨ha.1, by omega⟩ ⟨hb.1, by omega⟩]
  have h1 : a.toNat ||| b.toNat < 2 ^ n := Nat.or_lt_two_pow (by have := ha.2; rw [← p2_cast] at this; omega) (by have := hb.2; rw [← p2_cast] at this; omega)
  rw [← p2_cast]
  omega
theorem iand_lt {a b : Int} {n : Nat} (hn : n ≤ 31) (ha : 0 ≤ a ∧ a < 2 ^ n) (hb : 0 ≤ b ∧ b < 2 ^ n) : 0 ≤ px_iand a b ∧ px_iand a b < 2 ^ n := by
  have hp := p2_le hn
  have e31 : (2 : Int) ^ 31 = 2147483648 := rfl
  rw [iand_nat ⟨ha.1, by omega⟩ ⟨hb.1, by omega⟩]
  have h1 : a.toNat &&& b.toNat < 2 ^ n := Nat.and_lt_two_pow _ (by have := hb.2; rw [← p2_cast] at this; omega)
  rw [← p2_cast]
  omega
theorem p2_in {k : Nat} {i : Int} (h0 : 0 ≤ i) : inS ((2 : Int) ^ k) i ↔ i = (k : Int) := by
  unfold inS
  rw [← p2_cast, Int.toNat_natCast, Nat.testBit_two_pow]
  simp only [decide_eq_true_eq]
  omega
theorem ishl_in {k i : Int} (h0 : 0 ≤ k) (h1 : k < 31) (hi : 0 ≤ i) : inS (px_ishl 1 k) i ↔ i = k := by
  rw [ishl_eq h0 h1, p2_in hi, Int.toNat_of_nonneg h0]
theorem ishl_lt {k : Int} {n : Nat} (h0 : 0 ≤ k) (h1 : k < n) (hn : n ≤ 31) : 0 ≤ px_ishl 1 k ∧ px_ishl 1 k < 2 ^ n := by
  rw [ishl_eq h0 (by omega)]
  have := p2_pos k.toNat
  have h2 : (2 : Int) ^ (k.toNat + 1) ≤ 2 ^ n := p2_le (by omega)
  rw [Int.pow_succ] at h2
  omega
theorem ishl2_in {k i : Int} (h0 : 0 ≤ k) (h1 : k < 30) (hi : 0 ≤ i) : inS (px_ishl 2 k) i ↔ i = k + 1 := by
  rw [ishl2_eq h0 h1, p2_in hi]; omega
theorem ishl2_lt {k : Int} {n : Nat} (h0 : 0 ≤ k) (h1 : k + 1 < n) (hn : n ≤ 31) : 0 ≤ px_ishl 2 k ∧ px_ishl 2 k < 2 ^ n := by
  rw [ishl2_eq h0 (by omega)]
  have := p2_pos (k.toNat + 1)
  have h2 : (2 : Int) ^ (k.toNat + 1 + 1) ≤ 2 ^ n := p2_le (by omega)
  rw [Int.pow_succ] at h2
  omega
theorem zero_in (i : Int) : ¬ inS 0 i := by unfold inS; simp
theorem one_in {i : Int} (h : 0 ≤ i) : inS 1 i ↔ i = 0 := p2_in (k := 0) h
theorem inS_lt {a i : Int} {n : Nat} (ha : 0 ≤ a ∧ a < 2 ^ n) (h0 : 0 ≤ i) (h : inS a i) : i < n := by
  unfold inS at h
  rcases Int.lt_or_le i n with q | q
  · exact q
  · have h2 : a.toNat < 2 ^ i.toNat := by
      have h3 : (2 : Int) ^ n ≤ 2 ^ i.toNat := p2_le (by omega)
      have h4 : ((2 ^ i.toNat : Nat) : Int) = 2 ^ i.toNat := p2_cast _
      omega
    rw [Nat.testBit_lt_two_pow h2] at h
    exact absurd h (by decide)
/-- sets with the same members are the same -/
theorem inS_ext {a b : Int} (ha : 0 ≤ a) (hb : 0 ≤ b) (h : ∀ i, 0 ≤ i → (inS a i ↔ inS b i)) : a = b := by
  have : a.toNat = b.toNat := Nat.eq_of_testBit_eq (fun i => by
    have := h (i : Int) (by omega)
    unfold inS at this
    rw [Int.toNat_natCast] at this
    rw [Bool.eq_iff_iff]
    exact this)
  omega
theorem iand_0 {a b : Int} (ha : 0 ≤ a ∧ a < 2147483648) (hb : 0 ≤ b ∧ b < 2147483648) : px_iand a b = 0 ↔ ∀ i, 0 ≤ i → ¬ (inS a i ∧ inS b i) := by
  constructor
  · intro h i i0 q
    rw [← iand_in ha hb, h] at q
    exact zero_in i q
  · intro h
    have hn : 0 ≤ px_iand a b := by rw [iand_nat ha hb]; exact Int.natCast_nonneg _
    exact inS_ext hn (Int.le_refl 0) (fun i i0 => by
      rw [iand_in ha hb]
      exact ⟨fun q => absurd q (h i i0), fun q => absurd q (zero_in i)⟩)
