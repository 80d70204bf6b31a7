/-! a RING's text, read by the class: its numbers -/
section RN
variable {N : Nat} {T : Nat → tm_S} {w w2 : ab_W} {f : Int → Int} {K : Nat} {L : Int} {tp : Nat} {G G' : a_S} {c : Int × List Int}
theorem a_T_eq (h : a_T f K L tp w G) (e : G = G') : a_T f K L tp w G' := e ▸ h
theorem a_T_ft (h : a_T f K L tp w G) : tm_g w tp 4 = some (ab_I G.1) := h.2.1.1
theorem a_T_sg (h : a_T f K L tp w G) : tm_g w tp 6 = some (ab_I (a_sg f L G)) := h.2.1.2.1
theorem a_T_nb (h : a_T f K L tp w G) : tm_g w tp 7 = some (ab_I (a_nb f L G)) := h.2.1.2.2.1
theorem a_T_wd (h : a_T f K L tp w G) : tm_g w tp 8 = some (ab_I (a_wd f K L G)) := h.2.1.2.2.2
def b_tkv (f : Int → Int) (L lo hi : Int) (G : a_S) : Int := if a_sg f L G = -2 then (if lo ≤ a_nb f L G ∧ a_nb f L G ≤ hi ∧ ¬ a_nb f L G = -1 then a_nb f L G else -1) else -1
def b_tkg (f : Int → Int) (L lo hi : Int) (G : a_S) : a_S := if a_sg f L G = -2 then (if lo ≤ a_nb f L G ∧ a_nb f L G ≤ hi ∧ ¬ a_nb f L G = -1 then a_adv f L G else a_fail 1 G) else a_fail 0 G
theorem b_tk_dead {e p lo hi : Int} (h : ¬ e = 0) : b_tkv f L lo hi (e, p, c) = -1 ∧ b_tkg f L lo hi (e, p, c) = (e, p, c) := by
  have hs : a_sg f L (e, p, c) = -1 := if_neg h
  have hne : ¬ a_sg f L (e, p, c) = -2 := by rw [hs]; decide
  refine ⟨if_neg hne, ?_⟩
  have e1 : b_tkg f L lo hi (e, p, c) = a_fail 0 (e, p, c) := if_neg hne
  rw [e1]
  exact if_neg h
def b_nq (f : Int → Int) (L lo hi s : Int) (c : Int × List Int) (v : Int) (G : a_S) : Except Int (Int × Int) → Prop
  | .error e => v = -1 ∧ (1 ≤ e ∧ e ≤ 3205) ∧ G = (e, s, c)
  | .ok (n1, x) => v = x ∧ (lo ≤ x ∧ x ≤ hi) ∧ (0 ≤ n1 ∧ n1 ≤ L) ∧ G = (0, tk_sk f L n1, c)
theorem b_tk_ok {n lo hi : Int} (hL : L ≤ 400) (h0 : 0 ≤ n) (h1 : n ≤ L) (hlo : 0 ≤ lo) : b_nq f L lo hi (tk_sk f L n) c (b_tkv f L lo hi (0, tk_sk f L n, c)) (b_tkg f L lo hi (0, tk_sk f L n, c)) (rs_num f L lo hi n) := by
  have hs := tk_sk_b f h1
  generalize hsd : tk_sk f L n = s at hs
  unfold rs_num
  rw [hsd]
  by_cases hd : tk_dg f L s = true
  · have hd2 := of_decide_eq_true hd
    have hde := tk_de_b f hs.2
    have hnb := tk_num_b (tape := f) (taped := L) (i := s) (tk_de f L s - s).toNat (fun k hk => tk_dgs hs.2 (tk_de f L s - s).toNat (by omega) k hk)
    rw [if_pos hd]
    rcases k_cases f L s with k | k | k | k | k | k
    · exfalso; omega
    · obtain ⟨k1, k2, k3, k4, k5, k6⟩ := k
      have hn : k_num f L s = ct_num f L s := by unfold k_num; rw [k3]; rfl
      have q2 : a_sg f L (0, s, c) = -2 := k4
      have q3 : a_nb f L (0, s, c) = ct_num f L s := hn
      have qa : a_adv f L (0, s, c) = (0, tk_sk f L (tk_de f L s), c) := by
        show (0, tk_sk f L (k_end f L s), c) = _
        rw [k5]
      by_cases hI : tk_nI f L s lo hi = 1
      · rw [if_pos hI]
        have hI2 : tk_dg f L s = true ∧ tk_de f L s - s ≤ 5 ∧ lo ≤ tk_num f s (tk_de f L s - s).toNat ∧ tk_num f s (tk_de f L s - s).toNat ≤ hi := by
          unfold tk_nI at hI
          split at hI
          · assumption
          · exact absurd hI (by decide)
        have hct : ct_num f L s = tk_num f s (tk_de f L s - s).toNat := if_pos hI2.2.1
        have hcd : lo ≤ a_nb f L (0, s, c) ∧ a_nb f L (0, s, c) ≤ hi ∧ ¬ a_nb f L (0, s, c) = -1 := by rw [q3, hct]; omega
        have e1 : b_tkv f L lo hi (0, s, c) = a_nb f L (0, s, c) := (if_pos q2).trans (if_pos hcd)
        have e2 : b_tkg f L lo hi (0, s, c) = a_adv f L (0, s, c) := (if_pos q2).trans (if_pos hcd)
        rw [e1, e2]
        exact ⟨q3.trans hct, ⟨hI2.2.2.1, hI2.2.2.2⟩, by omega, qa⟩
      · rw [if_neg hI]
        have hcd : ¬ (lo ≤ a_nb f L (0, s, c) ∧ a_nb f L (0, s, c) ≤ hi ∧ ¬ a_nb f L (0, s, c) = -1) := by
          rw [q3]
          intro z
          apply hI
          unfold ct_num at z
          by_cases h5 : tk_de f L s - s ≤ 5
          · rw [if_pos h5] at z
            exact if_pos ⟨hd, h5, z.1, z.2.1⟩
          · rw [if_neg h5] at z
            omega
        have e1 : b_tkv f L lo hi (0, s, c) = -1 := (if_pos q2).trans (if_neg hcd)
        have e2 : b_tkg f L lo hi (0, s, c) = a_fail 1 (0, s, c) := (if_pos q2).trans (if_neg hcd)
        rw [e1, e2]
        exact ⟨rfl, by omega, rfl⟩
    · exfalso; omega
    · exfalso; omega
    · exfalso; omega
    · exfalso; omega
  · rw [if_neg hd]
    have hd2 : ¬ (s < L ∧ 48 ≤ f s ∧ f s ≤ 57) := fun z => hd (decide_eq_true z)
    have hne : ¬ a_sg f L (0, s, c) = -2 := by
      show ¬ k_sign f L s = -2
      rcases k_cases f L s with k | k | k | k | k | k <;> omega
    have e1 : b_tkv f L lo hi (0, s, c) = -1 := if_neg hne
    have e2 : b_tkg f L lo hi (0, s, c) = a_fail 0 (0, s, c) := if_neg hne
    rw [e1, e2]
    exact ⟨rfl, by omega, rfl⟩
def b_nr (f : Int → Int) (K : Nat) (L : Int) (tp : Nat) (c : Int × List Int) (w2 : ab_W) (lo hi v : Int) : Except Int (Int × Int) → Prop
  | .error e => v = -1 ∧ (1 ≤ e ∧ e ≤ 3205) ∧ ∃ p : Int, a_T f K L tp w2 (e, p, c)
  | .ok (n, x) => v = x ∧ (lo ≤ x ∧ x ≤ hi) ∧ (0 ≤ n ∧ n ≤ L) ∧ a_T f K L tp w2 (0, tk_sk f L n, c)
theorem b_nr_of {n lo hi : Int} (hL : L ≤ 400) (h0 : 0 ≤ n) (h1 : n ≤ L) (hlo : 0 ≤ lo) (h : a_T f K L tp w2 (b_tkg f L lo hi (0, tk_sk f L n, c))) : b_nr f K L tp c w2 lo hi (b_tkv f L lo hi (0, tk_sk f L n, c)) (rs_num f L lo hi n) := by
  have q := b_tk_ok (f := f) (c := c) (hi := hi) hL h0 h1 hlo
  revert q
  generalize b_tkv f L lo hi (0, tk_sk f L n, c) = v
  generalize hg : b_tkg f L lo hi (0, tk_sk f L n, c) = g at h ⊢
  rcases rs_num f L lo hi n with e | ⟨n1, x⟩
  · rintro ⟨q1, q2, q3⟩
    exact ⟨q1, q2, _, q3 ▸ h⟩
  · rintro ⟨q1, q2, q3, q4⟩
    exact ⟨q1, q2, q3, q4 ▸ h⟩
end RN
