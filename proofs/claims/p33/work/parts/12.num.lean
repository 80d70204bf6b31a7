/-! numbers: rests, bits -/
theorem ab_tme (a b : Int) (hb : 0 < b) : (0 ≤ a → a.tmod b = a % b) ∧ (a < 0 → a.tmod b = -((-a) % b)) := by
  refine ⟨fun h => Int.tmod_eq_emod_of_nonneg h, fun h => ?_⟩
  have e : a.tmod b = -((-a).tmod b) := by rw [Int.neg_tmod]; omega
  rw [e, Int.tmod_eq_emod_of_nonneg (by omega)]
theorem ab_tde (a b : Int) (hb : 0 < b) : (0 ≤ a → a.tdiv b = a / b) ∧ (a < 0 → a.tdiv b = -((-a) / b)) := by
  refine ⟨fun h => Int.tdiv_eq_ediv_of_nonneg h, fun h => ?_⟩
  have e : a.tdiv b = -((-a).tdiv b) := by rw [Int.neg_tdiv]; omega
  rw [e, Int.tdiv_eq_ediv_of_nonneg (by omega)]
theorem ab_natbv {a : Int} (h0 : 0 ≤ a) (h1 : a ≤ 2147483647) : (Int32.ofInt a).toBitVec.toNat = a.toNat := by
  show (BitVec.ofInt 32 a).toNat = _
  rw [BitVec.toNat_ofInt]
  omega
theorem ab_bvint {x : Int32} {n : Nat} (h : x.toBitVec.toNat = n) (hn : n < 2147483648) : x.toInt = (n : Int) := by
  show x.toBitVec.toInt = _
  rw [BitVec.toInt_eq_toNat_of_lt (by omega), h]
theorem ab_ior_nat {a b : Int} (ha : 0 ≤ a) (ha1 : a ≤ 2147483647) (hb : 0 ≤ b) (hb1 : b ≤ 2147483647) : ab_ior a b = ((a.toNat ||| b.toNat : Nat) : Int) := by
  unfold ab_ior
  apply ab_bvint
  · show ((Int32.ofInt a).toBitVec ||| (Int32.ofInt b).toBitVec).toNat = _
    rw [BitVec.toNat_or, ab_natbv ha ha1, ab_natbv hb hb1]
  · exact Nat.or_lt_two_pow (n := 31) (by omega) (by omega)
theorem ab_iand_nat {a b : Int} (ha : 0 ≤ a) (ha1 : a ≤ 2147483647) (hb : 0 ≤ b) (hb1 : b ≤ 2147483647) : ab_iand a b = ((a.toNat &&& b.toNat : Nat) : Int) := by
  unfold ab_iand
  apply ab_bvint
  · show ((Int32.ofInt a).toBitVec &&& (Int32.ofInt b).toBitVec).toNat = _
    rw [BitVec.toNat_and, ab_natbv ha ha1, ab_natbv hb hb1]
  · exact Nat.lt_of_le_of_lt Nat.and_le_left (by omega)
/-- the bit k of a -/
def bit_at (a : Nat) (k : Nat) : Int := if a.testBit k then 1 else 0
theorem ab_bit {a k : Int} (ha : 0 ≤ a) (ha1 : a ≤ 2147483647) : ab_iand (a / 2 ^ k.toNat) 1 = bit_at a.toNat k.toNat := by
  have h2 : 0 ≤ a / 2 ^ k.toNat := Int.ediv_nonneg ha (Int.le_of_lt (Int.pow_pos (by decide)))
  have h3 : a / 2 ^ k.toNat ≤ a := Int.ediv_le_self _ ha
  rw [ab_iand_nat h2 (by omega) (by decide) (by decide)]
  obtain ⟨n, rfl⟩ := Int.eq_ofNat_of_zero_le ha
  have e : (((n : Int) / 2 ^ k.toNat).toNat) = n / 2 ^ k.toNat := by
    rw [show ((n : Int) / 2 ^ k.toNat) = ((n / 2 ^ k.toNat : Nat) : Int) by push_cast; rfl, Int.toNat_natCast]
  rw [e]
  show ((n / 2 ^ k.toNat &&& 1 : Nat) : Int) = bit_at n k.toNat
  unfold bit_at
  rw [Nat.testBit_eq_decide_div_mod_eq, Nat.and_one_is_mod]
  by_cases h : n / 2 ^ k.toNat % 2 = 1
  · rw [h]; simp
  · rw [show n / 2 ^ k.toNat % 2 = 0 by omega]; simp
theorem bit_01 (a k : Nat) : bit_at a k = 0 ∨ bit_at a k = 1 := by unfold bit_at; split <;> simp
theorem ab_upe {α : Type} (f : Int → α) (k : Int) (v : α) : ab_up f k v k = v := if_pos rfl
theorem ab_upn {α : Type} (f : Int → α) {k j : Int} (v : α) (h : j ≠ k) : ab_up f k v j = f j := if_neg h
