/-! how to turn so that it wears least: all rows of t steps go over the same spokes -/
theorem dg_b (code : Int) (e : Nat) : 0 ≤ sp_dig code e ∧ sp_dig code e ≤ 2 := by
  unfold sp_dig
  omega