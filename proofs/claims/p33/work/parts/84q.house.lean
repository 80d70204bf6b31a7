/-! a HOUSE more -/
theorem rs_fill_i {rd : Int → Int} {a v k : Int} : ∀ n : Nat, a ≤ k → k < a + n → rs_fill rd a v n k = v
  | 0, h0, h1 => by exfalso; omega
  | n + 1, h0, h1 => by
    unfold rs_fill
    by_cases z : k = a + (n : Int)
    · subst z
      exact ab_upe _ _ _
    · rw [ab_upn _ _ z]
      exact rs_fill_i n h0 (by omega)
def b_hrow (rd : Int → Int) (h v1 v2 : Int) : Int → Int := ab_up (ab_up (rs_fill (ab_up (ab_up rd (46 + h) v1) (53 + h) v2) (60 + 5 * h) 0 5) (143 + h) v1) 1 (h + 1)
section RH
variable {o : Nat} {rd : Int → Int} {w w2 : ab_W} {h v1 v2 : Int}
theorem b_hr_1 : b_hrow rd h v1 v2 1 = h + 1 := ab_upe _ _ _
theorem b_hr_t (h0 : 0 ≤ h) : b_hrow rd h v1 v2 (143 + h) = v1 := (ab_upn _ _ (by omega)).trans (ab_upe _ _ _)
theorem b_hr_n {k : Int} (h0 : 0 ≤ h) (h6 : h ≤ 6) (hk : ¬ k = 1) (hk2 : ¬ k = 143 + h) (hk3 : k < 60 + 5 * h ∨ 65 + 5 * h ≤ k) : b_hrow rd h v1 v2 k = ab_up (ab_up rd (46 + h) v1) (53 + h) v2 k := (ab_upn _ _ hk).trans ((ab_upn _ _ hk2).trans (rs_fill_n 5 (by omega)))
theorem b_hr_z {k : Int} (h0 : 0 ≤ h) (h6 : h ≤ 6) (hk : 60 + 5 * h ≤ k) (hk2 : k < 65 + 5 * h) : b_hrow rd h v1 v2 k = 0 := (ab_upn _ _ (by omega)).trans ((ab_upn _ _ (by omega)).trans (rs_fill_i 5 hk (by omega)))
theorem b_hr_s (h0 : 0 ≤ h) (h6 : h ≤ 6) : b_hrow rd h v1 v2 (46 + h) = v1 := (b_hr_n h0 h6 (by omega) (by omega) (by omega)).trans ((ab_upn _ _ (by omega)).trans (ab_upe _ _ _))
theorem b_hr_v (h0 : 0 ≤ h) (h6 : h ≤ 6) : b_hrow rd h v1 v2 (53 + h) = v2 := (b_hr_n h0 h6 (by omega) (by omega) (by omega)).trans (ab_upe _ _ _)
theorem b_hr_o {k : Int} (h0 : 0 ≤ h) (h6 : h ≤ 6) (hk : ¬ k = 1) (hk2 : ¬ k = 143 + h) (hk3 : k < 60 + 5 * h ∨ 65 + 5 * h ≤ k) (hk4 : ¬ k = 46 + h) (hk5 : ¬ k = 53 + h) : b_hrow rd h v1 v2 k = rd k := (b_hr_n h0 h6 hk hk2 hk3).trans ((ab_upn _ _ hk5).trans (ab_upn _ _ hk4))
theorem b_house (hr : b_rel o rd w) (hh : rd 1 = h) (h0 : 0 ≤ h) (h6 : h ≤ 6) (k1 : tm_g w2 (o + 1) h = some (ab_I v1)) (k2 : tm_g w2 (o + 2) h = some (ab_I v1)) (k3 : tm_g w2 (o + 3) h = some (ab_I v2)) (k7 : tm_g w2 o 7 = some (ab_I (h + 1))) (e : ∀ (p : Nat) (j : Int), (o ≤ p ∧ p ≤ o + 8) → ¬ (p = o ∧ j = 7) → ¬ ((p = o + 1 ∨ p = o + 2 ∨ p = o + 3) ∧ j = h) → tm_g w2 p j = tm_g w p j) : b_rel o (b_hrow rd h v1 v2) w2 := by
  obtain ⟨⟨a1, a2, a3, a4, a5, a7, a8, a9⟩, b, c, d, g, m, vq⟩ := hr
  rw [hh] at b c
  refine ⟨⟨?_, (e _ _ (by omega) (by omega) (by omega)).trans a2, (e _ _ (by omega) (by omega) (by omega)).trans a3, (e _ _ (by omega) (by omega) (by omega)).trans a4, (e _ _ (by omega) (by omega) (by omega)).trans a5, ?_, ?_, ?_⟩, fun k q0 q1 => ?_, fun k q0 q1 => ?_, fun k q0 q1 => ?_, fun k q0 q1 => (e _ _ (by omega) (by omega) (by omega)).trans (g k q0 q1), (e _ _ (by omega) (by omega) (by omega)).trans m, b_vm vq (fun j => e _ j (by omega) (by omega) (by omega)) (b_hr_o h0 h6 (by omega) (by omega) (by omega) (by omega) (by omega)) (fun j x0 x1 => b_hr_o h0 h6 (by omega) (by omega) (by omega) (by omega) (by omega))⟩
  · rw [b_hr_o h0 h6 (by omega) (by omega) (by omega) (by omega) (by omega)]; exact (e _ _ (by omega) (by omega) (by omega)).trans a1
  · rw [b_hr_1]; exact k7
  · rw [b_hr_o h0 h6 (by omega) (by omega) (by omega) (by omega) (by omega)]; exact (e _ _ (by omega) (by omega) (by omega)).trans a8
  · rw [b_hr_o h0 h6 (by omega) (by omega) (by omega) (by omega) (by omega)]; exact (e _ _ (by omega) (by omega) (by omega)).trans a9
  · rw [b_hr_1] at q1
    by_cases z : k = h
    · subst z
      rw [b_hr_s h0 h6, b_hr_t h0, b_hr_v h0 h6]
      exact ⟨k1, k2, k3⟩
    · rw [b_hr_o (k := 46 + k) h0 h6 (by omega) (by omega) (by omega) (by omega) (by omega), b_hr_o (k := 143 + k) h0 h6 (by omega) (by omega) (by omega) (by omega) (by omega), b_hr_o (k := 53 + k) h0 h6 (by omega) (by omega) (by omega) (by omega) (by omega)]
      have bk := b k q0 (by omega)
      exact ⟨(e _ _ (by omega) (by omega) (by omega)).trans bk.1, (e _ _ (by omega) (by omega) (by omega)).trans bk.2.1, (e _ _ (by omega) (by omega) (by omega)).trans bk.2.2⟩
  · rw [b_hr_1, (e _ _ (by omega) (by omega) (by omega)).trans (c k q0 q1)]
    by_cases z : k < 5 * h
    · rw [if_pos z, if_pos (show k < 5 * (h + 1) by omega), b_hr_o (k := 60 + k) h0 h6 (by omega) (by omega) (by omega) (by omega) (by omega)]
    · rw [if_neg z]
      by_cases z2 : k < 5 * (h + 1)
      · rw [if_pos z2, b_hr_z h0 h6 (by omega) (by omega)]
      · rw [if_neg z2]
  · rw [b_hr_o (k := 10 + k) h0 h6 (by omega) (by omega) (by omega) (by omega) (by omega)]
    exact (e _ _ (by omega) (by omega) (by omega)).trans (d k q0 q1)
end RH
/-! what a piece of the text comes to -/
def b_rr (f : Int → Int) (K : Nat) (L : Int) (tp : Nat) (c : Int × List Int) (o : Nat) (w : ab_W) : Except Int (Int × (Int → Int)) → Prop
  | .error e => (1 ≤ e ∧ e ≤ 3205) ∧ ∃ p : Int, a_T f K L tp w (e, p, c)
  | .ok (n, rd) => (0 ≤ n ∧ n ≤ L) ∧ a_T f K L tp w (0, tk_sk f L n, c) ∧ b_rel o rd w
section RR
variable {f : Int → Int} {K : Nat} {L : Int} {tp : Nat} {c : Int × List Int} {o : Nat} {w : ab_W} {X : Except Int (Int × (Int → Int))}
theorem b_rr_er {e p : Int} (h0 : 1 ≤ e) (h1 : e ≤ 3205) (h : a_T f K L tp w (e, p, c)) (hX : X = .error e) : b_rr f K L tp c o w X := by
  rw [hX]
  exact ⟨⟨h0, h1⟩, p, h⟩
theorem b_rr_ok {n : Int} {rd : Int → Int} (h0 : 0 ≤ n) (h1 : n ≤ L) (h : a_T f K L tp w (0, tk_sk f L n, c)) (hr : b_rel o rd w) (hX : X = .ok (n, rd)) : b_rr f K L tp c o w X := by
  rw [hX]
  exact ⟨⟨h0, h1⟩, h, hr⟩
end RR
def bs_gate (f : Int → Int) (L n : Int) (rd : Int → Int) : Except Int (Int × (Int → Int)) := match rs_num f L 0 11 n with
  | .error e => .error e
  | .ok (n, v) => .ok (n, ab_up rd 3 (ab_ior (rd 3) (1 * 2 ^ v.toNat)))
def bs_like (f : Int → Int) (L n by_ : Int) (rd : Int → Int) : Except Int (Int × (Int → Int)) := match rs_num f L 0 (rd 1 - 1) n with
  | .error e => .error e
  | .ok (n1, v1) => match rs_num f L 0 4 n1 with
    | .error e => .error e
    | .ok (n2, v2) => match rs_num f L 1 9 n2 with
      | .error e => .error e
      | .ok (n3, v3) => .ok (n3, ab_up rd (60 + 5 * v1 + v2) (by_ * v3))
def bs_ring (f : Int → Int) (L n : Int) (rd : Int → Int) : Except Int (Int × (Int → Int)) := match rs_num f L 0 11 n with
  | .error e => .error e
  | .ok (n, v) => .ok (n, ab_up (ab_up rd 4 v) 0 1)
def b_srow (rd : Int → Int) (v1 v2 v3 v4 : Int) : Int → Int := ab_up (ab_up (ab_up (ab_up (ab_up rd (95 + 4 * rd 2) v1) (95 + 4 * rd 2 + 1) v2) (95 + 4 * rd 2 + 2) v3) (95 + 4 * rd 2 + 3) v4) 2 (rd 2 + 1)
def bs_sight (f : Int → Int) (L n : Int) (rd : Int → Int) : Except Int (Int × (Int → Int)) := match rs_num f L 0 4 n with
  | .error e => .error e
  | .ok (n1, v1) => match rs_num f L 0 11 n1 with
    | .error e => .error e
    | .ok (n2, v2) => match rs_num f L 0 23 n2 with
      | .error e => .error e
      | .ok (n3, v3) => match rs_num f L v3 23 n3 with
        | .error e => .error e
        | .ok (n4, v4) => .ok (n4, b_srow rd v1 v2 v3 v4)
def bs_rate (f : Int → Int) (L n : Int) (rd : Int → Int) : Except Int (Int × (Int → Int)) := match rs_num f L 0 23 n with
  | .error e => .error e
  | .ok (n1, v1) => match rs_num f L v1 23 n1 with
    | .error e => .error e
    | .ok (n2, v2) => match rs_num f L 0 6 n2 with
      | .error e => .error e
      | .ok (n3, v3) => .ok (n3, rs_fill rd (10 + v1) (v3 - 3) (v2 - v1 + 1).toNat)
def bs_house (f : Int → Int) (L n : Int) (rd : Int → Int) : Except Int (Int × (Int → Int)) := match rs_num f L 0 11 n with
  | .error e => .error e
  | .ok (n1, v1) => if rs_dup rd (rd 1) v1 = true then .error (1 + 8 * tk_sk f L n + 1) else match rs_num f L 1 9 n1 with
    | .error e => .error e
    | .ok (n2, v2) => .ok (n2, b_hrow rd (rd 1) v1 v2)
theorem rs_num_sk {f : Int → Int} {L lo hi n : Int} (h : n ≤ L) : rs_num f L lo hi (tk_sk f L n) = rs_num f L lo hi n := by
  unfold rs_num
  rw [tk_sk_sk f L n h]
