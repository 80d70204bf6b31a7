/-! a RING's clauses: the reference's against the class's order of questions -/
theorem rs_num_b {f : Int → Int} {L lo hi n a b : Int} (h : rs_num f L lo hi n = .ok (a, b)) : lo ≤ b ∧ b ≤ hi := by
  unfold rs_num at h
  split at h
  · split at h
    · rename_i hI
      injection h with h
      injection h with h1 h2
      unfold tk_nI at hI
      split at hI
      · rename_i z
        rw [← h2]
        exact ⟨z.2.2.1, z.2.2.2⟩
      · exact absurd hI (by decide)
    · cases h
  · cases h
section RC
variable {f : Int → Int} {L : Int} {rd : Int → Int}
theorem rc_ring {s : Int} : rs_ring f L s s rd = if 0 < rd 0 then .error (1 + 8 * s + 4) else bs_ring f L (tk_le f L s) rd := rfl
theorem rc_house {s : Int} (h : s ≤ L) : rs_house f L s s rd = if rd 1 = 7 then .error (1 + 8 * s + 4) else bs_house f L (tk_le f L s) rd := by
  have hl := tk_le_b f h
  unfold rs_house bs_house
  rw [rs_num_sk hl.2]
  rfl
theorem rc_sight {s : Int} : rs_sight f L s s rd = if rd 2 = 12 then .error (1 + 8 * s + 4) else bs_sight f L (tk_le f L s) rd := rfl
theorem rc_like {s y : Int} : rs_like f L s y rd = bs_like f L (tk_le f L s) y rd := rfl
theorem rc_gate {s : Int} : rs_gate f L s rd = bs_gate f L (tk_le f L s) rd := rfl
theorem rc_rate {s : Int} : rs_rate f L s rd = bs_rate f L (tk_le f L s) rd := rfl
theorem k_wd1 (f : Int → Int) (L s : Int) : -1 ≤ k_wd 1 f L s ∧ k_wd 1 f L s ≤ 6 := by
  have h := k_wd_r (f := f) (L := L) (s := s) k_B1.1 k_B1.2.1
  have e : (k_W1.length : Int) = 7 := by decide
  omega
/-- a clause as the class asks: d the word -/
def b_cl (f : Int → Int) (L s i d : Int) (rd : Int → Int) : Except Int (Int × (Int → Int)) := if d = -1 then .error (1 + 8 * s + 0) else if i = 40 then .error (1 + 8 * s + 4) else if (d = 1 ∧ rd 1 = 7) ∨ (d = 2 ∧ rd 2 = 12) ∨ (d = 0 ∧ 0 < rd 0) ∨ (¬ d = 0 ∧ rd 0 = 0) then .error (1 + 8 * s + 4) else b_line f L (tk_le f L s) d rd
set_option maxHeartbeats 4000000 in
theorem cl_tie {n i : Int} (h1 : n ≤ L) : rs_clause f L n i rd = b_cl f L (tk_sk f L n) i (k_wd 1 f L (tk_sk f L n)) rd := by
  have hs := tk_sk_b f h1
  unfold rs_clause
  generalize tk_sk f L n = s at hs ⊢
  have hr := k_wd1 f L s
  unfold rs_line
  simp only [k_1_0 hs.2, k_1_1 hs.2, k_1_2 hs.2, k_1_3 hs.2, k_1_4 hs.2, k_1_5 hs.2, k_1_6 hs.2, rc_ring, rc_house hs.2, rc_sight, rc_like, rc_gate, rc_rate]
  generalize k_wd 1 f L s = d at hr ⊢
  unfold b_cl
  by_cases h0 : d = -1
  · rw [if_neg (by omega), if_pos h0]
  · rw [if_pos (by omega), if_neg h0]
    by_cases h40 : i = 40
    · rw [if_pos h40, if_pos h40]
    · rw [if_neg h40, if_neg h40]
      unfold b_line
      rcases (by omega : d = 0 ∨ d = 1 ∨ d = 2 ∨ d = 3 ∨ d = 4 ∨ d = 5 ∨ d = 6) with e | e | e | e | e | e | e <;> subst e
      · rw [if_pos rfl]
        by_cases z : 0 < rd 0
        · rw [if_pos z, if_pos (by omega)]
        · rw [if_neg z, if_neg (by omega), if_pos rfl]
      · rw [if_neg (by decide)]
        by_cases z : rd 0 = 0
        · rw [if_pos z, if_pos (by omega)]
        · rw [if_neg z, if_pos rfl]
          by_cases y : rd 1 = 7
          · rw [if_pos y, if_pos (by omega)]
          · rw [if_neg y, if_neg (by omega), if_neg (by decide), if_pos rfl]
      · rw [if_neg (by decide)]
        by_cases z : rd 0 = 0
        · rw [if_pos z, if_pos (by omega)]
        · rw [if_neg z, if_neg (by decide), if_pos rfl]
          by_cases y : rd 2 = 12
          · rw [if_pos y, if_pos (by omega)]
          · rw [if_neg y, if_neg (by omega), if_neg (by decide), if_neg (by decide), if_pos rfl]
      · rw [if_neg (by decide)]
        by_cases z : rd 0 = 0
        · rw [if_pos z, if_pos (by omega)]
        · simp [z]
      · rw [if_neg (by decide)]
        by_cases z : rd 0 = 0
        · rw [if_pos z, if_pos (by omega)]
        · simp [z]
      · rw [if_neg (by decide)]
        by_cases z : rd 0 = 0
        · rw [if_pos z, if_pos (by omega)]
        · simp [z]
      · rw [if_neg (by decide)]
        by_cases z : rd 0 = 0
        · rw [if_pos z, if_pos (by omega)]
        · simp [z]
theorem b_like_r {n y n2 : Int} {rd2 : Int → Int} (h : bs_like f L n y rd = .ok (n2, rd2)) : rd2 0 = rd 0 ∧ rd2 2 = rd 2 := by
  unfold bs_like at h
  split at h
  · cases h
  · rename_i n1 v1 e1
    have q1 := rs_num_b e1
    split at h
    · cases h
    · rename_i n3 v3 e3
      have q3 := rs_num_b e3
      split at h
      · cases h
      · injection h with h; injection h with h2 h3
        rw [← h3]
        exact ⟨ab_upn _ _ (by omega), ab_upn _ _ (by omega)⟩
theorem b_line_r {n a n2 : Int} {rd2 : Int → Int} (ha : 0 ≤ a) (ha6 : a ≤ 6) (hh : 0 ≤ rd 1) (h1 : a = 1 → rd 1 ≤ 6) (hs : 0 ≤ rd 2) (h : b_line f L n a rd = .ok (n2, rd2)) : rd2 0 = (if a = 0 then 1 else rd 0) ∧ rd2 2 = (if a = 2 then rd 2 + 1 else rd 2) := by
  unfold b_line at h
  rcases (by omega : a = 0 ∨ a = 1 ∨ a = 2 ∨ a = 3 ∨ a = 4 ∨ a = 5 ∨ a = 6) with e | e | e | e | e | e | e <;> subst e
  · rw [if_pos rfl] at h
    unfold bs_ring at h
    split at h
    · cases h
    · injection h with h; injection h with h2 h3
      rw [← h3]
      exact ⟨ab_upe _ _ _, (ab_upn _ _ (by decide)).trans (ab_upn _ _ (by decide))⟩
  · rw [if_neg (by decide), if_pos rfl] at h
    unfold bs_house at h
    split at h
    · cases h
    · split at h
      · cases h
      · split at h
        · cases h
        · injection h with h; injection h with h2 h3
          have h6 := h1 rfl
          rw [← h3]
          exact ⟨b_hr_o hh h6 (by omega) (by omega) (by omega) (by omega) (by omega), b_hr_o hh h6 (by omega) (by omega) (by omega) (by omega) (by omega)⟩
  · rw [if_neg (by decide), if_neg (by decide), if_pos rfl] at h
    unfold bs_sight at h
    split at h
    · cases h
    · split at h
      · cases h
      · split at h
        · cases h
        · split at h
          · cases h
          · injection h with h; injection h with h2 h3
            rw [← h3]
            exact ⟨(ab_upn _ _ (by decide)).trans ((ab_upn _ _ (by omega)).trans ((ab_upn _ _ (by omega)).trans ((ab_upn _ _ (by omega)).trans (ab_upn _ _ (by omega))))), ab_upe _ _ _⟩
  · rw [if_neg (by decide), if_neg (by decide), if_neg (by decide), if_pos rfl] at h
    exact b_like_r h
  · rw [if_neg (by decide), if_neg (by decide), if_neg (by decide), if_neg (by decide), if_pos rfl] at h
    exact b_like_r h
  · rw [if_neg (by decide), if_neg (by decide), if_neg (by decide), if_neg (by decide), if_neg (by decide), if_pos rfl] at h
    unfold bs_gate at h
    split at h
    · cases h
    · injection h with h; injection h with h2 h3
      rw [← h3]
      exact ⟨ab_upn _ _ (by decide), ab_upn _ _ (by decide)⟩
  · rw [if_neg (by decide), if_neg (by decide), if_neg (by decide), if_neg (by decide), if_neg (by decide), if_neg (by decide)] at h
    unfold bs_rate at h
    split at h
    · cases h
    · rename_i n1 v1 e1
      have q1 := rs_num_b e1
      split at h
      · cases h
      · split at h
        · cases h
        · injection h with h; injection h with h2 h3
          rw [← h3]
          exact ⟨rs_fill_n _ (by omega), rs_fill_n _ (by omega)⟩
end RC
