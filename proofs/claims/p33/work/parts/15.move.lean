section EVG
variable {G : ab_G} {rs : List String} {M : ab_M} {d bc bs pc : Nat} {l : ab_L} {st : List ab_V} {w : ab_W} {Q : Option ab_V → ab_W → Prop}
theorem ev_ldc2i {n : Int} {v : Int64} {idx : Nat} (hd : decode M.2.1 pc = .ok (.ldc2_w idx, 3)) (hc : Cond.constantLong M.1.cls idx v ∈ G.2.1) (hn : v = Int64.ofInt n) (k : ab_Ev G rs M d bc bs (pc + 3) l (.inr (.inl (Int64.ofInt n)) :: st) w Q) : ab_Ev G rs M d bc bs pc l st w Q := by subst hn; exact ev_ldc2 hd hc k
theorem ev_lconsti {n : Int} {j : Fin 2} (hd : decode M.2.1 pc = .ok (.lconst j, 1)) (hn : Int64.ofNat (j : Nat) = Int64.ofInt n) (k : ab_Ev G rs M d bc bs (pc + 1) l (.inr (.inl (Int64.ofInt n)) :: st) w Q) : ab_Ev G rs M d bc bs pc l st w Q := by refine ev_lconst hd ?_; rw [hn]; exact k
end EVG
/-! how the reference turns, an HOUR and on -/
def sp_step (b : Int) (f : Int → Int) : Int → Int := ab_up (ab_up f (34 + f 4) (f (34 + f 4) + 1)) 4 ((f 4 + b) % 12)
def sp_turns (b : Int) (f : Int → Int) : Nat → Int → Int
  | 0 => f
  | k + 1 => sp_step b (sp_turns b f k)
def sp_goesOn (f : Int → Int) : Int → Int := if f 5 + 1 < 24 then ab_up f 5 (f 5 + 1) else ab_up (ab_up (ab_up f 5 (f 5 + 1)) 5 0) 6 (f 6 + 1)
def sp_by (r : Int) : Int := if r < 0 then -1 else 1
def sp_n (f : Int → Int) (r : Int) : Int := if f 7 = 1 then 0 else r
def sp_passAt (r : Int) (f : Int → Int) : Int → Int := sp_goesOn (sp_turns (sp_by (sp_n f r)) (ab_up f 7 0) (sp_n f r).natAbs)
def sp_pass (f : Int → Int) : Int → Int := sp_passAt (sp_rateNow f) f
/-- while it turns: as sg_ok, but the worn may be j ahead of the HOURS -/
def sg_mid (B j : Int) (f : Int → Int) : Prop := (∀ k, 0 ≤ k → k < 191 → sg_lo k ≤ f k ∧ f k ≤ sg_hi k) ∧ (24 * f 6 + f 5 ≤ B ∧ B ≤ 30000) ∧ ∀ k, 34 ≤ k → k < 46 → f k ≤ 3 * (24 * f 6 + f 5) + j
theorem sg_mid0 {B : Int} {f : Int → Int} (h : sg_ok B f) : sg_mid B 0 (ab_up f 7 0) := by
  have ha := sg_all h
  obtain ⟨h1, h2, h4⟩ := h
  obtain ⟨i0, i1, i2, i3, i4, i5, i6, i7, i8, -⟩ := ha
  have e5 : ab_up f 7 0 5 = f 5 := rfl
  have e6 : ab_up f 7 0 6 = f 6 := rfl
  have e8 : ab_up f 7 0 8 = f 8 := rfl
  refine ⟨fun k a b => ?_, by rw [e5, e6]; exact h2, fun k a b => ?_⟩
  · by_cases hk : k = 7
    · subst hk; rw [ab_upe]; exact ⟨by decide, by decide⟩
    · rw [ab_upn f 0 hk]; exact h1 k a b
  · rw [ab_upn f 0 (by omega), e5, e6]
    have := h4 k a b
    omega
theorem sg_step {B j b : Int} {f : Int → Int} (h : sg_mid B j f) (hj : 0 ≤ j) (hj3 : j < 3) : sg_mid B (j + 1) (sp_step b f) := by
  obtain ⟨h1, h2, h4⟩ := h
  have q4 : 0 ≤ f 4 ∧ f 4 ≤ 11 := h1 4 (by decide) (by decide)
  have q5 : 0 ≤ f 5 ∧ f 5 ≤ 23 := h1 5 (by decide) (by decide)
  have q6 : 0 ≤ f 6 ∧ f 6 ≤ 100000 := h1 6 (by decide) (by decide)
  have g : ∀ k, k ≠ 4 → k ≠ 34 + f 4 → sp_step b f k = f k := fun k a c => by unfold sp_step; rw [ab_upn _ _ a, ab_upn _ _ c]
  have e5 : sp_step b f 5 = f 5 := g 5 (by decide) (by omega)
  have e6 : sp_step b f 6 = f 6 := g 6 (by decide) (by omega)
  have e8 : sp_step b f 8 = f 8 := g 8 (by decide) (by omega)
  have e4 : sp_step b f 4 = (f 4 + b) % 12 := ab_upe _ _ _
  have ew : sp_step b f (34 + f 4) = f (34 + f 4) + 1 := by unfold sp_step; rw [ab_upn _ _ (by omega), ab_upe]
  have hw := h4 (34 + f 4) (by omega) (by omega)
  have hl := h1 (34 + f 4) (by omega) (by omega)
  refine ⟨fun k a c => ?_, by rw [e5, e6]; exact h2, fun k a c => ?_⟩
  · by_cases hk : k = 4
    · subst hk; rw [e4]; exact ⟨show (0 : Int) ≤ _ by omega, show _ ≤ (11 : Int) by omega⟩
    · by_cases hk2 : k = 34 + f 4
      · subst hk2
        rw [ew]
        unfold sg_lo sg_hi at hl ⊢
        rw [if_neg (by omega), if_neg (by omega), if_neg (by omega), if_neg (by omega), if_pos (by omega)] at hl ⊢
        omega
      · rw [g k hk hk2]; exact h1 k a c
  · rw [e5, e6]
    by_cases hk2 : k = 34 + f 4
    · subst hk2; rw [ew]; omega
    · rw [g k (by omega) hk2]; have := h4 k a c; omega
theorem sg_turns {B b : Int} {f : Int → Int} (h : sg_mid B 0 f) : ∀ k : Nat, k ≤ 3 → sg_mid B (k : Int) (sp_turns b f k)
  | 0, _ => h
  | k + 1, hk => by
    have z := sg_step (b := b) (sg_turns (b := b) h k (by omega)) (by omega) (by omega)
    rw [show ((k + 1 : Nat) : Int) = (k : Int) + 1 by omega]
    exact z
theorem sp_turns_keep {b : Int} {f : Int → Int} {B : Int} (h : sg_mid B 0 f) : ∀ k : Nat, k ≤ 3 → ∀ j : Int, j ≠ 4 → (j < 34 ∨ 46 ≤ j) → sp_turns b f k j = f j
  | 0, _, _, _, _ => rfl
  | k + 1, hk, j, h1, h2 => by
    have hm := sg_turns (b := b) h k (by omega)
    have q4 : 0 ≤ sp_turns b f k 4 ∧ sp_turns b f k 4 ≤ 11 := hm.1 4 (by decide) (by decide)
    show sp_step b (sp_turns b f k) j = _
    unfold sp_step
    rw [ab_upn _ _ h1, ab_upn _ _ (by omega)]
    exact sp_turns_keep h k (by omega) j h1 h2
theorem sg_goesOn {B j : Int} {f : Int → Int} (h : sg_mid B j f) (hj : j ≤ 3) (hB : B + 1 ≤ 30000) : sg_ok (B + 1) (sp_goesOn f) := by
  obtain ⟨h1, h2, h4⟩ := h
  have q5 : 0 ≤ f 5 ∧ f 5 ≤ 23 := h1 5 (by decide) (by decide)
  have q6 : 0 ≤ f 6 ∧ f 6 ≤ 100000 := h1 6 (by decide) (by decide)
  unfold sp_goesOn
  by_cases c : f 5 + 1 < 24
  · rw [if_pos c]
    have e5 : ab_up f 5 (f 5 + 1) 5 = f 5 + 1 := rfl
    have e6 : ab_up f 5 (f 5 + 1) 6 = f 6 := rfl
    have e7 : ab_up f 5 (f 5 + 1) 7 = f 7 := rfl
    have e8 : ab_up f 5 (f 5 + 1) 8 = f 8 := rfl
    refine ⟨fun k a b => ?_, by rw [e5, e6]; omega, fun k a b => ?_⟩
    · by_cases hk : k = 5
      · subst hk; rw [e5]; exact ⟨show (0 : Int) ≤ _ by omega, show _ ≤ (23 : Int) by omega⟩
      · rw [ab_upn _ _ hk]; exact h1 k a b
    · rw [ab_upn _ _ (by omega), e5, e6]; have := h4 k a b; omega
  · rw [if_neg c]
    have e5 : ab_up (ab_up (ab_up f 5 (f 5 + 1)) 5 0) 6 (f 6 + 1) 5 = 0 := rfl
    have e6 : ab_up (ab_up (ab_up f 5 (f 5 + 1)) 5 0) 6 (f 6 + 1) 6 = f 6 + 1 := rfl
    have e7 : ab_up (ab_up (ab_up f 5 (f 5 + 1)) 5 0) 6 (f 6 + 1) 7 = f 7 := rfl
    have e8 : ab_up (ab_up (ab_up f 5 (f 5 + 1)) 5 0) 6 (f 6 + 1) 8 = f 8 := rfl
    refine ⟨fun k a b => ?_, by rw [e5, e6]; omega, fun k a b => ?_⟩
    · by_cases hk : k = 5
      · subst hk; rw [e5]; exact ⟨by decide, by decide⟩
      · by_cases hk6 : k = 6
        · subst hk6; rw [e6]; exact ⟨show (0 : Int) ≤ _ by omega, show _ ≤ (100000 : Int) by omega⟩
        · rw [ab_upn _ _ hk6, ab_upn _ _ hk, ab_upn _ _ hk]; exact h1 k a b
    · rw [ab_upn _ _ (by omega), ab_upn _ _ (by omega), ab_upn _ _ (by omega), e5, e6]; have := h4 k a b; omega
theorem sg_passAt {B r : Int} {f : Int → Int} (h : sg_ok B f) (hr : -3 ≤ r) (hr3 : r ≤ 3) (hB : B + 1 ≤ 30000) : sg_ok (B + 1) (sp_passAt r f) := by
  have hn : (sp_n f r).natAbs ≤ 3 := by unfold sp_n; split <;> omega
  have hm := sg_mid0 h
  exact sg_goesOn (sg_turns hm _ hn) (by omega) hB
theorem sg_rate {B : Int} {f : Int → Int} (h : sg_ok B f) : -3 ≤ sp_rateNow f ∧ sp_rateNow f ≤ 3 := by
  obtain ⟨i0, i1, i2, i3, i4, i5, i6, i7, i8, i9, -⟩ := sg_all h
  exact i9 _ (by omega) (by omega)
theorem sg_pass {B : Int} {f : Int → Int} (h : sg_ok B f) (hB : B + 1 ≤ 30000) : sg_ok (B + 1) (sp_pass f) := sg_passAt h (sg_rate h).1 (sg_rate h).2 hB
def sp_house (f : Int → Int) (h w : Int) : Int := if 0 ≤ h ∧ h < f 1 then (if w = 0 then f (46 + h) else if w = 1 then f (53 + h) else if w = 2 then sp_facesOf f h else if w = 3 then (sp_sortsAt f (sp_facesOf f h) (f 5) : Nat) else if w = 4 then sp_likesOf f h else if w = 5 then bit_at (f 3).toNat (sp_facesOf f h).toNat else if w = 6 then sp_wantsI f h else if 100 ≤ w ∧ w ≤ 104 then f (60 + 5 * h + w - 100) else -1000) else -1000
def sp_find (f : Int → Int) (d : Int) : Nat → Int → Int
  | 0, _ => -1
  | n + 1, h => if sp_facesOf f h = d then h else sp_find f d n (h + 1)
def sp_direction (f : Int → Int) (d w : Int) : Int := if f 0 = 1 ∧ (0 ≤ d ∧ d ≤ 11) ∧ (0 ≤ w ∧ w ≤ 2) then (if w = 1 then bit_at (f 3).toNat d.toNat else if w = 2 then (sp_sortsAt f d (f 5) : Nat) else sp_find f d (f 1).toNat 0) else -2
def sp_rateOf (f : Int → Int) (h : Int) : Int := if f 0 = 1 ∧ 0 ≤ h ∧ h ≤ 23 then f (10 + h) else -1000
def sp_worn (f : Int → Int) (h : Int) : Int := if f 0 = 1 ∧ 0 ≤ h ∧ h ≤ 11 then f (34 + h) else -1
theorem sg_up7 {B v : Int} {f : Int → Int} (h : sg_ok B f) (hv : v = 0 ∨ v = 1) : sg_ok B (ab_up f 7 v) := by
  obtain ⟨h1, h2, h4⟩ := h
  have e5 : ab_up f 7 v 5 = f 5 := rfl
  have e6 : ab_up f 7 v 6 = f 6 := rfl
  refine ⟨fun k a b => ?_, by rw [e5, e6]; exact h2, fun k a b => ?_⟩
  · by_cases hk : k = 7
    · subst hk; rw [ab_upe]; rcases hv with rfl | rfl <;> exact ⟨by decide, by decide⟩
    · rw [ab_upn f v hk]; exact h1 k a b
  · rw [ab_upn f v (by omega), e5, e6]
    exact h4 k a b
