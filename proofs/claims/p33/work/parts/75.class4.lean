theorem sp_turns_s (b : Int) (f : Int → Int) : ∀ n : Nat, sp_turns b (sp_step b f) n = sp_turns b f (n + 1)
  | 0 => rfl
  | n + 1 => by
    show sp_step b (sp_turns b (sp_step b f) n) = sp_step b (sp_turns b f (n + 1))
    rw [sp_turns_s b f n]
theorem sp_step_4 (b : Int) (g : Int → Int) : sp_step b g 4 = (g 4 + b) % 12 := by unfold sp_step; rw [ab_upe]
theorem sp_step_w (b : Int) (g wo : Int → Int) (h0 : 0 ≤ g 4) (h1 : g 4 ≤ 11) (hw : ∀ k, 0 ≤ k → k < 12 → wo k = g (34 + k)) : ∀ k, 0 ≤ k → k < 12 → ab_up wo (g 4) (wo (g 4) + 1) k = sp_step b g (34 + k) := by
  intro k a c
  have L : ab_up wo (g 4) (wo (g 4) + 1) k = if k = g 4 then wo (g 4) + 1 else wo k := rfl
  have R : sp_step b g (34 + k) = if 34 + k = 34 + g 4 then g (34 + g 4) + 1 else g (34 + k) := by
    show (if 34 + k = 4 then _ else (if 34 + k = 34 + g 4 then _ else _)) = _
    rw [if_neg (by omega)]
  rw [L, R, hw _ h0 (by omega), hw k a c]
  by_cases e : k = g 4
  · rw [if_pos e, if_pos (by omega)]
  · rw [if_neg e, if_neg (by omega)]