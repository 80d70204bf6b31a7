/-! a SIGHT more: what is to be seen -/
theorem sp_srow (rd : Int → Int) {a b c e : Int} (h2 : 0 ≤ rd 2) (d h : Int) : sp_sortsAt (b_srow rd a b c e) d h = if b = d ∧ c ≤ h ∧ h ≤ e then sp_sortsAt rd d h ||| 2 ^ a.toNat else sp_sortsAt rd d h := by
  have e2 : b_srow rd a b c e 2 = rd 2 + 1 := ab_upe _ _ _
  have ek : ((rd 2).toNat : Int) = rd 2 := Int.toNat_of_nonneg h2
  have r0 : b_srow rd a b c e (95 + 4 * rd 2) = a := by
    unfold b_srow
    rw [ab_upn _ _ (by omega), ab_upn _ _ (by omega), ab_upn _ _ (by omega), ab_upn _ _ (by omega), ab_upe]
  have r1 : b_srow rd a b c e (95 + 4 * rd 2 + 1) = b := by
    unfold b_srow
    rw [ab_upn _ _ (by omega), ab_upn _ _ (by omega), ab_upn _ _ (by omega), ab_upe]
  have r2 : b_srow rd a b c e (95 + 4 * rd 2 + 2) = c := by
    unfold b_srow
    rw [ab_upn _ _ (by omega), ab_upn _ _ (by omega), ab_upe]
  have r3 : b_srow rd a b c e (95 + 4 * rd 2 + 3) = e := by
    unfold b_srow
    rw [ab_upn _ _ (by omega), ab_upe]
  have ro : sp_sorts (b_srow rd a b c e) d h (rd 2).toNat = sp_sorts rd d h (rd 2).toNat := sp_sorts_c2 d h _ (fun j x1 x2 => by
    unfold b_srow
    rw [ab_upn _ _ (by omega), ab_upn _ _ (by omega), ab_upn _ _ (by omega), ab_upn _ _ (by omega), ab_upn _ _ (by omega)])
  unfold sp_sortsAt
  rw [e2, show (rd 2 + 1).toNat = (rd 2).toNat + 1 by omega]
  show (if b_srow rd a b c e (95 + 4 * ((rd 2).toNat : Int) + 1) = d ∧ b_srow rd a b c e (95 + 4 * ((rd 2).toNat : Int) + 2) ≤ h ∧ h ≤ b_srow rd a b c e (95 + 4 * ((rd 2).toNat : Int) + 3) then sp_sorts (b_srow rd a b c e) d h (rd 2).toNat ||| 2 ^ (b_srow rd a b c e (95 + 4 * ((rd 2).toNat : Int))).toNat else sp_sorts (b_srow rd a b c e) d h (rd 2).toNat) = _
  rw [ek, r0, r1, r2, r3, ro]
theorem b_vw_s {o : Nat} {rd : Int → Int} {w w2 : ab_W} {a b c e : Int} {V : Int → Int64} (hv : b_vw o rd w) (hs : 0 ≤ rd 2 ∧ rd 2 ≤ 11) (a0 : 0 ≤ a) (a1 : a ≤ 4) (b0 : 0 ≤ b) (b1 : b ≤ 11) (hV : ∀ j, tm_g w (o + 5) j = some (ab_J (V j))) (h2 : ∀ j : Int, tm_g w2 (o + 5) j = some (ab_J (if c ≤ j ∧ j ≤ e then V j ||| (Int64.ofInt 1 <<< ((Int32.ofInt (b * 5 + a)).toInt64 &&& 63)) else V j))) : b_vw o (b_srow rd a b c e) w2 := by
  have e2 : b_srow rd a b c e 2 = rd 2 + 1 := ab_upe _ _ _
  refine ⟨by rw [e2]; omega, fun h x0 x1 => ?_⟩
  obtain ⟨v, k1, k2⟩ := hv.2 h x0 x1
  have ev : V h = v := by
    have z := hV h
    rw [k1] at z
    injection z with z
    injection z with z
    injection z with z
    exact z.symm
  refine ⟨_, h2 h, fun d d0 d1 => ?_⟩
  rw [sp_srow rd hs.1 d h, ev]
  have kd := k2 d d0 d1
  by_cases y : c ≤ h ∧ h ≤ e
  · rw [if_pos y, cs_s1_or v d0 d1 b0 b1 a0 a1 kd]
    by_cases z : d = b
    · rw [if_pos z, if_pos ⟨z.symm, y⟩]
    · rw [if_neg z, if_neg (fun q => z q.1.symm)]
  · rw [if_neg y, if_neg (fun q => y q.2)]
    exact kd
