theorem tm_rra {a b : Nat} (h : a = 3 ∧ b = 16 ∨ a = 16 ∧ b = 3) : tm_rr 3 16 (ab_R a) := by
  rcases h with ⟨rfl, rfl⟩ | ⟨rfl, rfl⟩
  · exact Or.inl rfl
  · exact Or.inr rfl
theorem tm_rrb {a b : Nat} (h : a = 3 ∧ b = 16 ∨ a = 16 ∧ b = 3) : tm_rr 3 16 (ab_R b) := by
  rcases h with ⟨rfl, rfl⟩ | ⟨rfl, rfl⟩
  · exact Or.inr rfl
  · exact Or.inl rfl
theorem tm_ltN {N : Nat} {T : Nat → tm_S} {w : ab_W} {o ci : Nat} {fs : List tm_F} (hW : tm_W N T w) (hS : T o = tm_o ci fs) : o < N := by
  obtain ⟨vs, hc, -, -⟩ := tm_cell hW hS
  have := tm_lt hc
  rw [hW.1] at this
  exact this
