/-! the reference's functions, said once more over what its row 'said' holds -/
def sg_lo (k : Int) : Int := if 10 ≤ k ∧ k < 34 then -3 else if 60 ≤ k ∧ k < 95 then -9 else 0
def sg_hi (k : Int) : Int := if k < 10 then (if k = 0 then 1 else if k = 1 then 7 else if k = 2 then 12 else if k = 3 then 4095 else if k = 4 then 11 else if k = 5 then 23 else if k = 7 then 1 else 100000) else if k < 34 then 3 else if k < 46 then 100000 else if k < 53 then 11 else if k < 95 then 9 else if k < 143 then (if (k - 95) % 4 = 0 then 4 else if (k - 95) % 4 = 1 then 11 else 23) else if k < 150 then 11 else if k < 190 then (if (k - 150) % 4 = 0 then 6 else if (k - 150) % 4 = 1 then 99 else if (k - 150) % 4 = 2 then 4 else 1) else 10
/-- what the row 'said' may hold; B: the HOURS since the first, at most -/
def sg_ok (B : Int) (f : Int → Int) : Prop := (∀ k, 0 ≤ k → k < 191 → sg_lo k ≤ f k ∧ f k ≤ sg_hi k) ∧ (24 * f 6 + f 5 ≤ B ∧ B ≤ 30000) ∧ ∀ k, 34 ≤ k → k < 46 → f k ≤ 3 * (24 * f 6 + f 5)
theorem sg_all {B : Int} {f : Int → Int} (h : sg_ok B f) :
  (f 0 = 0 ∨ f 0 = 1) ∧ (0 ≤ f 1 ∧ f 1 ≤ 7) ∧ (0 ≤ f 2 ∧ f 2 ≤ 12) ∧ (0 ≤ f 3 ∧ f 3 ≤ 4095) ∧ (0 ≤ f 4 ∧ f 4 ≤ 11) ∧ (0 ≤ f 5 ∧ f 5 ≤ 23) ∧ (0 ≤ f 6 ∧ 24 * f 6 + f 5 ≤ B ∧ B ≤ 30000) ∧ (f 7 = 0 ∨ f 7 = 1) ∧ (0 ≤ f 8 ∧ f 8 ≤ 100000) ∧
  (∀ k, 10 ≤ k → k < 34 → -3 ≤ f k ∧ f k ≤ 3) ∧ (∀ k, 34 ≤ k → k < 46 → 0 ≤ f k ∧ f k ≤ 3 * (24 * f 6 + f 5)) ∧ (∀ k, 46 ≤ k → k < 53 → 0 ≤ f k ∧ f k ≤ 11) ∧ (∀ k, 53 ≤ k → k < 60 → 0 ≤ f k ∧ f k ≤ 9) ∧ (∀ k, 60 ≤ k → k < 95 → -9 ≤ f k ∧ f k ≤ 9) ∧
  (∀ k, 0 ≤ k → k < 12 → (0 ≤ f (95 + 4 * k) ∧ f (95 + 4 * k) ≤ 4) ∧ (0 ≤ f (95 + 4 * k + 1) ∧ f (95 + 4 * k + 1) ≤ 11) ∧ (0 ≤ f (95 + 4 * k + 2) ∧ f (95 + 4 * k + 2) ≤ 23) ∧ (0 ≤ f (95 + 4 * k + 3) ∧ f (95 + 4 * k + 3) ≤ 23)) ∧
  (∀ k, 143 ≤ k → k < 150 → 0 ≤ f k ∧ f k ≤ 11) ∧
  (∀ k, 0 ≤ k → k < 10 → (0 ≤ f (150 + 4 * k) ∧ f (150 + 4 * k) ≤ 6) ∧ (0 ≤ f (150 + 4 * k + 1) ∧ f (150 + 4 * k + 1) ≤ 99) ∧ (0 ≤ f (150 + 4 * k + 2) ∧ f (150 + 4 * k + 2) ≤ 4) ∧ (0 ≤ f (150 + 4 * k + 3) ∧ f (150 + 4 * k + 3) ≤ 1)) ∧ (0 ≤ f 190 ∧ f 190 ≤ 10) := by
  obtain ⟨h1, h2, h4⟩ := h
  have q0 : 0 ≤ f 0 ∧ f 0 ≤ 1 := h1 0 (by decide) (by decide)
  have q1 : 0 ≤ f 1 ∧ f 1 ≤ 7 := h1 1 (by decide) (by decide)
  have q2 : 0 ≤ f 2 ∧ f 2 ≤ 12 := h1 2 (by decide) (by decide)
  have q3 : 0 ≤ f 3 ∧ f 3 ≤ 4095 := h1 3 (by decide) (by decide)
  have q4 : 0 ≤ f 4 ∧ f 4 ≤ 11 := h1 4 (by decide) (by decide)
  have q5 : 0 ≤ f 5 ∧ f 5 ≤ 23 := h1 5 (by decide) (by decide)
  have q6 : 0 ≤ f 6 ∧ f 6 ≤ 100000 := h1 6 (by decide) (by decide)
  have q7 : 0 ≤ f 7 ∧ f 7 ≤ 1 := h1 7 (by decide) (by decide)
  have q8 : 0 ≤ f 8 ∧ f 8 ≤ 100000 := h1 8 (by decide) (by decide)
  have q190 : 0 ≤ f 190 ∧ f 190 ≤ 10 := h1 190 (by decide) (by decide)
  refine ⟨by omega, q1, q2, q3, q4, q5, by omega, by omega, by omega, fun k a b => ?_, fun k a b => ?_, fun k a b => ?_, fun k a b => ?_, fun k a b => ?_, fun k a b => ⟨?_, ?_, ?_, ?_⟩, fun k a b => ?_, fun k a b => ⟨?_, ?_, ?_, ?_⟩, q190⟩
  · have q := h1 k (by omega) (by omega)
    unfold sg_lo sg_hi at q
    rw [if_pos (by omega), if_neg (by omega), if_pos (by omega)] at q
    exact q
  · have q := h1 k (by omega) (by omega)
    unfold sg_lo sg_hi at q
    rw [if_neg (by omega), if_neg (by omega)] at q
    exact ⟨q.1, h4 k a b⟩
  · have q := h1 k (by omega) (by omega)
    unfold sg_lo sg_hi at q
    rw [if_neg (by omega), if_neg (by omega), if_neg (by omega), if_neg (by omega), if_neg (by omega), if_pos (by omega)] at q
    exact q
  · have q := h1 k (by omega) (by omega)
    unfold sg_lo sg_hi at q
    rw [if_neg (by omega), if_neg (by omega), if_neg (by omega), if_neg (by omega), if_neg (by omega), if_neg (by omega), if_pos (by omega)] at q
    exact q
  · have q := h1 k (by omega) (by omega)
    unfold sg_lo sg_hi at q
    rw [if_neg (by omega), if_pos (by omega), if_neg (by omega), if_neg (by omega), if_neg (by omega), if_neg (by omega), if_pos (by omega)] at q
    exact q
  · have q := h1 (95 + 4 * k) (by omega) (by omega)
    unfold sg_lo sg_hi at q
    rw [if_neg (by omega), if_neg (by omega), if_neg (by omega), if_neg (by omega), if_neg (by omega), if_neg (by omega), if_neg (by omega), if_pos (by omega), if_pos (by omega)] at q
    exact q
  · have q := h1 (95 + 4 * k + 1) (by omega) (by omega)
    unfold sg_lo sg_hi at q
    rw [if_neg (by omega), if_neg (by omega), if_neg (by omega), if_neg (by omega), if_neg (by omega), if_neg (by omega), if_neg (by omega), if_pos (by omega), if_neg (by omega), if_pos (by omega)] at q
    exact q
  · have q := h1 (95 + 4 * k + 2) (by omega) (by omega)
    unfold sg_lo sg_hi at q
    rw [if_neg (by omega), if_neg (by omega), if_neg (by omega), if_neg (by omega), if_neg (by omega), if_neg (by omega), if_neg (by omega), if_pos (by omega), if_neg (by omega), if_neg (by omega)] at q
    exact q
  · have q := h1 (95 + 4 * k + 3) (by omega) (by omega)
    unfold sg_lo sg_hi at q
    rw [if_neg (by omega), if_neg (by omega), if_neg (by omega), if_neg (by omega), if_neg (by omega), if_neg (by omega), if_neg (by omega), if_pos (by omega), if_neg (by omega), if_neg (by omega)] at q
    exact q
  · have q := h1 k (by omega) (by omega)
    unfold sg_lo sg_hi at q
    rw [if_neg (by omega), if_neg (by omega), if_neg (by omega), if_neg (by omega), if_neg (by omega), if_neg (by omega), if_neg (by omega), if_neg (by omega), if_pos (by omega)] at q
    exact q
  · have q := h1 (150 + 4 * k) (by omega) (by omega)
    unfold sg_lo sg_hi at q
    rw [if_neg (by omega), if_neg (by omega), if_neg (by omega), if_neg (by omega), if_neg (by omega), if_neg (by omega), if_neg (by omega), if_neg (by omega), if_neg (by omega), if_pos (by omega), if_pos (by omega)] at q
    exact q
  · have q := h1 (150 + 4 * k + 1) (by omega) (by omega)
    unfold sg_lo sg_hi at q
    rw [if_neg (by omega), if_neg (by omega), if_neg (by omega), if_neg (by omega), if_neg (by omega), if_neg (by omega), if_neg (by omega), if_neg (by omega), if_neg (by omega), if_pos (by omega), if_neg (by omega), if_pos (by omega)] at q
    exact q
  · have q := h1 (150 + 4 * k + 2) (by omega) (by omega)
    unfold sg_lo sg_hi at q
    rw [if_neg (by omega), if_neg (by omega), if_neg (by omega), if_neg (by omega), if_neg (by omega), if_neg (by omega), if_neg (by omega), if_neg (by omega), if_neg (by omega), if_pos (by omega), if_neg (by omega), if_neg (by omega), if_pos (by omega)] at q
    exact q
  · have q := h1 (150 + 4 * k + 3) (by omega) (by omega)
    unfold sg_lo sg_hi at q
    rw [if_neg (by omega), if_neg (by omega), if_neg (by omega), if_neg (by omega), if_neg (by omega), if_neg (by omega), if_neg (by omega), if_neg (by omega), if_neg (by omega), if_pos (by omega), if_neg (by omega), if_neg (by omega), if_neg (by omega)] at q
    exact q
def sp_sorts (f : Int → Int) (d h : Int) : Nat → Nat
  | 0 => 0
  | k + 1 => if f (95 + 4 * (k : Int) + 1) = d ∧ f (95 + 4 * (k : Int) + 2) ≤ h ∧ h ≤ f (95 + 4 * (k : Int) + 3) then sp_sorts f d h k ||| 2 ^ (f (95 + 4 * (k : Int))).toNat else sp_sorts f d h k
def sp_sortsAt (f : Int → Int) (d h : Int) : Nat := sp_sorts f d h (f 2).toNat
theorem sp_sorts_lt {B : Int} {f : Int → Int} (h : sg_ok B f) (d hr : Int) : ∀ k : Nat, k ≤ 12 → sp_sorts f d hr k < 32
  | 0, _ => Nat.zero_lt_succ _
  | k + 1, hk => by
    have ih := sp_sorts_lt h d hr k (by omega)
    unfold sp_sorts
    split
    · refine Nat.or_lt_two_pow (n := 5) ih ?_
      obtain ⟨-, -, -, -, -, -, -, -, hzz⟩ := sg_all h
      obtain ⟨-, -, -, -, -, -, i14, -⟩ := hzz
      have q := i14 (k : Int) (by omega) (by omega)
      exact Nat.pow_lt_pow_right (by decide) (by omega)
    · exact ih
theorem sp_sortsAt_lt {B : Int} {f : Int → Int} (h : sg_ok B f) (d hr : Int) : sp_sortsAt f d hr < 32 := sp_sorts_lt h d hr _ (by obtain ⟨-, -, i2, -⟩ := sg_all h; omega)
def sp_like (f : Int → Int) (h : Int) (set : Nat) : Nat → Int
  | 0 => 0
  | k + 1 => sp_like f h set k + (if set.testBit k then f (60 + 5 * h + (k : Int)) else 0)
def sp_likesAt (f : Int → Int) (h d hr : Int) : Int := sp_like f h (sp_sortsAt f d hr) 5
theorem sp_like_b {B : Int} {f : Int → Int} (h : sg_ok B f) {x : Int} (hx : 0 ≤ x) (hx1 : x < 7) (set : Nat) : ∀ k : Nat, k ≤ 5 → -9 * (k : Int) ≤ sp_like f x set k ∧ sp_like f x set k ≤ 9 * (k : Int)
  | 0, _ => by simp [sp_like]
  | k + 1, hk => by
    have ih := sp_like_b h hx hx1 set k (by omega)
    obtain ⟨-, -, -, -, -, -, -, -, hzz⟩ := sg_all h
    obtain ⟨-, -, -, -, -, i13, -⟩ := hzz
    have q := i13 (60 + 5 * x + (k : Int)) (by omega) (by omega)
    unfold sp_like
    split <;> omega
theorem sp_likesAt_b {B : Int} {f : Int → Int} (h : sg_ok B f) {x : Int} (hx : 0 ≤ x) (hx1 : x < 7) (d hr : Int) : -45 ≤ sp_likesAt f x d hr ∧ sp_likesAt f x d hr ≤ 45 := by
  have := sp_like_b h hx hx1 (sp_sortsAt f d hr) 5 (by omega)
  unfold sp_likesAt
  omega
def sp_facesOf (f : Int → Int) (h : Int) : Int := (f (46 + h) + f 4) % 12
def sp_likesOf (f : Int → Int) (h : Int) : Int := sp_likesAt f h (sp_facesOf f h) (f 5)
def sp_rateNow (f : Int → Int) : Int := f (10 + f 5)
def sp_wantsI (f : Int → Int) (h : Int) : Int := if sp_likesAt f h ((sp_facesOf f h + sp_rateNow f) % 12) (f 5) < sp_likesOf f h then 1 else 0
def sp_sum (g : Int → Int) : Nat → Int
  | 0 => 0
  | k + 1 => sp_sum g k + g (k : Int)
theorem sp_sum_b {g : Int → Int} {a b : Int} : ∀ k : Nat, (∀ j : Int, 0 ≤ j → j < k → a ≤ g j ∧ g j ≤ b) → a * (k : Int) ≤ sp_sum g k ∧ sp_sum g k ≤ b * (k : Int)
  | 0, _ => by simp [sp_sum]
  | k + 1, h => by
    have ih := sp_sum_b k (fun j h0 h1 => h j h0 (by omega))
    have q := h (k : Int) (by omega) (by omega)
    unfold sp_sum
    rw [show ((k + 1 : Nat) : Int) = (k : Int) + 1 by omega, Int.mul_add, Int.mul_add]
    omega
def sp_allLike (f : Int → Int) : Int := sp_sum (sp_likesOf f) (f 1).toNat
def sp_votesOf (f : Int → Int) (set : Nat) : Int := sp_sum (fun h => if set.testBit h.toNat then f (53 + h) else 0) (f 1).toNat
def sp_every (f : Int → Int) : Nat := 2 ^ (f 1).toNat - 1
def sp_set (g : Int → Int) : Nat → Nat
  | 0 => 0
  | k + 1 => sp_set g k ||| (if g (k : Int) = 0 then 0 else 2 ^ k)
def sp_whoStay (f : Int → Int) : Nat := sp_set (sp_wantsI f) (f 1).toNat
theorem sp_set_lt (g : Int → Int) : ∀ k : Nat, sp_set g k < 2 ^ k
  | 0 => Nat.zero_lt_one
  | k + 1 => by
    have ih := sp_set_lt g k
    have h2 : 2 ^ k < 2 ^ (k + 1) := Nat.pow_lt_pow_right (by decide) (by omega)
    unfold sp_set
    refine Nat.or_lt_two_pow (by omega) ?_
    split
    · omega
    · exact h2
def sp_atGates (f : Int → Int) : Int := sp_sum (fun h => bit_at (f 3).toNat (sp_facesOf f h).toNat) (f 1).toNat
theorem ab_cmpI {a b : Int} (ha : ab_in a) (hb : ab_in b) : (ab_cmp (Int64.ofInt a) (Int64.ofInt b) < 0 ↔ a < b) ∧ (0 < ab_cmp (Int64.ofInt a) (Int64.ofInt b) ↔ b < a) ∧ -1 ≤ ab_cmp (Int64.ofInt a) (Int64.ofInt b) ∧ ab_cmp (Int64.ofInt a) (Int64.ofInt b) ≤ 1 := by
  have ta : (Int64.ofInt a).toInt = a := Int64.toInt_ofInt_of_le (by omega) (by omega)
  have tb : (Int64.ofInt b).toInt = b := Int64.toInt_ofInt_of_le (by omega) (by omega)
  have e1 : (Int64.ofInt a > Int64.ofInt b) ↔ b < a := by
    show Int64.ofInt b < Int64.ofInt a ↔ _
    rw [Int64.lt_iff_toInt_lt, ta, tb]
  have e2 : (Int64.ofInt a = Int64.ofInt b) ↔ a = b := by
    rw [← Int64.toInt_inj, ta, tb]
  unfold ab_cmp
  by_cases h1 : b < a
  · rw [if_pos (e1.mpr h1)]; omega
  · rw [if_neg (fun z => h1 (e1.mp z))]
    by_cases h2 : a = b
    · rw [if_pos (e2.mpr h2)]; omega
    · rw [if_neg (fun z => h2 (e2.mp z))]; omega
theorem ab_pw (j : Nat) : (1 * 2 ^ j : Int) = ((2 ^ j : Nat) : Int) := by rw [Int.one_mul, Int.natCast_pow]; rfl
theorem ab_ior_pow {s j : Nat} (hs : s < 2 ^ 30) (hj : j < 31) : ab_ior (s : Int) (1 * 2 ^ j) = ((s ||| 2 ^ j : Nat) : Int) := by
  have h1 : 2 ^ j < 2 ^ 31 := Nat.pow_lt_pow_right (by decide) hj
  have h2 : (2 : Nat) ^ 30 = 1073741824 := by decide
  have h3 : (2 : Nat) ^ 31 = 2147483648 := by decide
  rw [ab_pw]
  generalize (2 : Nat) ^ j = z at h1 ⊢
  rw [ab_ior_nat (by omega) (by omega) (by omega) (by omega)]
  rfl
theorem ab_ior_zero {s : Nat} (hs : s < 2 ^ 30) : ab_ior (s : Int) 0 = (s : Int) := by
  have h2 : (2 : Nat) ^ 30 = 1073741824 := by decide
  rw [ab_ior_nat (by omega) (by omega) (by omega) (by omega)]
  show ((s ||| 0 : Nat) : Int) = _
  rw [Nat.or_zero]
