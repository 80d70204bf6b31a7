/-! the Ring that is being told, against the reference's row -/
def b_rel (o : Nat) (rd : Int → Int) (w : ab_W) : Prop := (tm_g w o 1 = some (ab_I (rd 4)) ∧ tm_g w o 2 = some (ab_I 0) ∧ tm_g w o 3 = some (ab_I 0) ∧ tm_g w o 4 = some (ab_I 0) ∧ tm_g w o 5 = some (ab_I 0) ∧ tm_g w o 7 = some (ab_I (rd 1)) ∧ tm_g w o 8 = some (ab_I (rd 2)) ∧ tm_g w o 9 = some (ab_I (rd 3))) ∧ (∀ k : Int, 0 ≤ k → k < rd 1 → tm_g w (o + 1) k = some (ab_I (rd (46 + k))) ∧ tm_g w (o + 2) k = some (ab_I (rd (143 + k))) ∧ tm_g w (o + 3) k = some (ab_I (rd (53 + k)))) ∧ (∀ k : Int, 0 ≤ k → k < 35 → tm_g w (o + 4) k = some (ab_I (if k < 5 * rd 1 then rd (60 + k) else 0))) ∧ (∀ k : Int, 0 ≤ k → k < 24 → tm_g w (o + 6) k = some (ab_I (rd (10 + k)))) ∧ (∀ k : Int, 0 ≤ k → k < 12 → tm_g w (o + 7) k = some (ab_I 0)) ∧ tm_g w (o + 8) 0 = some (ab_I 0) ∧ b_vw o rd w
section RL
variable {o : Nat} {rd rd2 : Int → Int} {w w2 : ab_W}
theorem b_rel_fr (h : b_rel o rd w) (e : ∀ (p : Nat) (j : Int), (o ≤ p ∧ p ≤ o + 8) → tm_g w2 p j = tm_g w p j) : b_rel o rd w2 := by
  obtain ⟨⟨a1, a2, a3, a4, a5, a7, a8, a9⟩, b, c, d, g, m, vq⟩ := h
  exact ⟨⟨(e _ _ (by omega)).trans a1, (e _ _ (by omega)).trans a2, (e _ _ (by omega)).trans a3, (e _ _ (by omega)).trans a4, (e _ _ (by omega)).trans a5, (e _ _ (by omega)).trans a7, (e _ _ (by omega)).trans a8, (e _ _ (by omega)).trans a9⟩, fun k h0 h1 => ⟨(e _ _ (by omega)).trans (b k h0 h1).1, (e _ _ (by omega)).trans (b k h0 h1).2.1, (e _ _ (by omega)).trans (b k h0 h1).2.2⟩, fun k h0 h1 => (e _ _ (by omega)).trans (c k h0 h1), fun k h0 h1 => (e _ _ (by omega)).trans (d k h0 h1), fun k h0 h1 => (e _ _ (by omega)).trans (g k h0 h1), (e _ _ (by omega)).trans m, b_vm vq (fun j => e _ j (by omega)) rfl (fun _ _ _ => rfl)⟩
theorem b_gate {v : Int} (h : b_rel o rd w) (kv : tm_g w2 o 9 = some (ab_I v)) (e : ∀ (p : Nat) (j : Int), (o ≤ p ∧ p ≤ o + 8) → ¬ (p = o ∧ j = 9) → tm_g w2 p j = tm_g w p j) : b_rel o (ab_up rd 3 v) w2 := by
  obtain ⟨⟨a1, a2, a3, a4, a5, a7, a8, a9⟩, b, c, d, g, m, vq⟩ := h
  have u : ∀ k, ¬ k = 3 → ab_up rd 3 v k = rd k := fun k hk => ab_upn _ _ hk
  refine ⟨⟨?_, (e _ _ (by omega) (by omega)).trans a2, (e _ _ (by omega) (by omega)).trans a3, (e _ _ (by omega) (by omega)).trans a4, (e _ _ (by omega) (by omega)).trans a5, ?_, ?_, ?_⟩, fun k h0 h1 => ?_, fun k h0 h1 => ?_, fun k h0 h1 => ?_, fun k h0 h1 => (e _ _ (by omega) (by omega)).trans (g k h0 h1), (e _ _ (by omega) (by omega)).trans m, b_vm vq (fun j => e _ j (by omega) (by omega)) (u 2 (by decide)) (fun j q0 q1 => u j (by omega))⟩
  · rw [u 4 (by decide)]; exact (e _ _ (by omega) (by omega)).trans a1
  · rw [u 1 (by decide)]; exact (e _ _ (by omega) (by omega)).trans a7
  · rw [u 2 (by decide)]; exact (e _ _ (by omega) (by omega)).trans a8
  · rw [ab_upe]; exact kv
  · rw [u 1 (by decide)] at h1
    rw [u (46 + k) (by omega), u (143 + k) (by omega), u (53 + k) (by omega)]
    exact ⟨(e _ _ (by omega) (by omega)).trans (b k h0 h1).1, (e _ _ (by omega) (by omega)).trans (b k h0 h1).2.1, (e _ _ (by omega) (by omega)).trans (b k h0 h1).2.2⟩
  · rw [u 1 (by decide), u (60 + k) (by omega)]
    exact (e _ _ (by omega) (by omega)).trans (c k h0 h1)
  · rw [u (10 + k) (by omega)]
    exact (e _ _ (by omega) (by omega)).trans (d k h0 h1)
theorem b_angle {v : Int} (h : b_rel o rd w) (kv : tm_g w2 o 1 = some (ab_I v)) (e : ∀ (p : Nat) (j : Int), (o ≤ p ∧ p ≤ o + 8) → ¬ (p = o ∧ j = 1) → tm_g w2 p j = tm_g w p j) : b_rel o (ab_up (ab_up rd 4 v) 0 1) w2 := by
  obtain ⟨⟨a1, a2, a3, a4, a5, a7, a8, a9⟩, b, c, d, g, m, vq⟩ := h
  have u : ∀ k, ¬ k = 4 → ¬ k = 0 → ab_up (ab_up rd 4 v) 0 1 k = rd k := fun k hk hz => (ab_upn _ _ hz).trans (ab_upn _ _ hk)
  have u4 : ab_up (ab_up rd 4 v) 0 1 4 = v := (ab_upn _ _ (by decide)).trans (ab_upe _ _ _)
  refine ⟨⟨?_, (e _ _ (by omega) (by omega)).trans a2, (e _ _ (by omega) (by omega)).trans a3, (e _ _ (by omega) (by omega)).trans a4, (e _ _ (by omega) (by omega)).trans a5, ?_, ?_, ?_⟩, fun k h0 h1 => ?_, fun k h0 h1 => ?_, fun k h0 h1 => ?_, fun k h0 h1 => (e _ _ (by omega) (by omega)).trans (g k h0 h1), (e _ _ (by omega) (by omega)).trans m, b_vm vq (fun j => e _ j (by omega) (by omega)) (u 2 (by decide) (by decide)) (fun j q0 q1 => u j (by omega) (by omega))⟩
  · rw [u4]; exact kv
  · rw [u 1 (by decide) (by decide)]; exact (e _ _ (by omega) (by omega)).trans a7
  · rw [u 2 (by decide) (by decide)]; exact (e _ _ (by omega) (by omega)).trans a8
  · rw [u 3 (by decide) (by decide)]; exact (e _ _ (by omega) (by omega)).trans a9
  · rw [u 1 (by decide) (by decide)] at h1
    rw [u (46 + k) (by omega) (by omega), u (143 + k) (by omega) (by omega), u (53 + k) (by omega) (by omega)]
    exact ⟨(e _ _ (by omega) (by omega)).trans (b k h0 h1).1, (e _ _ (by omega) (by omega)).trans (b k h0 h1).2.1, (e _ _ (by omega) (by omega)).trans (b k h0 h1).2.2⟩
  · rw [u 1 (by decide) (by decide), u (60 + k) (by omega) (by omega)]
    exact (e _ _ (by omega) (by omega)).trans (c k h0 h1)
  · rw [u (10 + k) (by omega) (by omega)]
    exact (e _ _ (by omega) (by omega)).trans (d k h0 h1)
theorem b_like {q v : Int} (h : b_rel o rd w) (q0 : 0 ≤ q) (q1 : q < 5 * rd 1) (kv : tm_g w2 (o + 4) q = some (ab_I v)) (e : ∀ (p : Nat) (j : Int), (o ≤ p ∧ p ≤ o + 8) → ¬ (p = o + 4 ∧ j = q) → tm_g w2 p j = tm_g w p j) (r7 : rd 1 ≤ 7) : b_rel o (ab_up rd (60 + q) v) w2 := by
  obtain ⟨⟨a1, a2, a3, a4, a5, a7, a8, a9⟩, b, c, d, g, m, vq⟩ := h
  have u : ∀ k, ¬ k = 60 + q → ab_up rd (60 + q) v k = rd k := fun k hk => ab_upn _ _ hk
  refine ⟨⟨?_, (e _ _ (by omega) (by omega)).trans a2, (e _ _ (by omega) (by omega)).trans a3, (e _ _ (by omega) (by omega)).trans a4, (e _ _ (by omega) (by omega)).trans a5, ?_, ?_, ?_⟩, fun k h0 h1 => ?_, fun k h0 h1 => ?_, fun k h0 h1 => ?_, fun k h0 h1 => (e _ _ (by omega) (by omega)).trans (g k h0 h1), (e _ _ (by omega) (by omega)).trans m, b_vm vq (fun j => e _ j (by omega) (by omega)) (u 2 (by omega)) (fun j x0 x1 => u j (by omega))⟩
  · rw [u 4 (by omega)]; exact (e _ _ (by omega) (by omega)).trans a1
  · rw [u 1 (by omega)]; exact (e _ _ (by omega) (by omega)).trans a7
  · rw [u 2 (by omega)]; exact (e _ _ (by omega) (by omega)).trans a8
  · rw [u 3 (by omega)]; exact (e _ _ (by omega) (by omega)).trans a9
  · rw [u 1 (by omega)] at h1
    rw [u (46 + k) (by omega), u (143 + k) (by omega), u (53 + k) (by omega)]
    exact ⟨(e _ _ (by omega) (by omega)).trans (b k h0 h1).1, (e _ _ (by omega) (by omega)).trans (b k h0 h1).2.1, (e _ _ (by omega) (by omega)).trans (b k h0 h1).2.2⟩
  · rw [u 1 (by omega)]
    by_cases z : k = q
    · subst z
      rw [if_pos q1, ab_upe]
      exact kv
    · rw [u (60 + k) (by omega)]
      exact (e _ _ (by omega) (by omega)).trans (c k h0 h1)
  · rw [u (10 + k) (by omega)]
    exact (e _ _ (by omega) (by omega)).trans (d k h0 h1)
theorem b_rates {q v : Int} (h : b_rel o rd w) (q0 : 0 ≤ q) (q1 : q < 24) (kv : tm_g w2 (o + 6) q = some (ab_I v)) (e : ∀ (p : Nat) (j : Int), (o ≤ p ∧ p ≤ o + 8) → ¬ (p = o + 6 ∧ j = q) → tm_g w2 p j = tm_g w p j) : b_rel o (ab_up rd (10 + q) v) w2 := by
  obtain ⟨⟨a1, a2, a3, a4, a5, a7, a8, a9⟩, b, c, d, g, m, vq⟩ := h
  have u : ∀ k, ¬ k = 10 + q → ab_up rd (10 + q) v k = rd k := fun k hk => ab_upn _ _ hk
  refine ⟨⟨?_, (e _ _ (by omega) (by omega)).trans a2, (e _ _ (by omega) (by omega)).trans a3, (e _ _ (by omega) (by omega)).trans a4, (e _ _ (by omega) (by omega)).trans a5, ?_, ?_, ?_⟩, fun k h0 h1 => ?_, fun k h0 h1 => ?_, fun k h0 h1 => ?_, fun k h0 h1 => (e _ _ (by omega) (by omega)).trans (g k h0 h1), (e _ _ (by omega) (by omega)).trans m, b_vm vq (fun j => e _ j (by omega) (by omega)) (u 2 (by omega)) (fun j x0 x1 => u j (by omega))⟩
  · rw [u 4 (by omega)]; exact (e _ _ (by omega) (by omega)).trans a1
  · rw [u 1 (by omega)]; exact (e _ _ (by omega) (by omega)).trans a7
  · rw [u 2 (by omega)]; exact (e _ _ (by omega) (by omega)).trans a8
  · rw [u 3 (by omega)]; exact (e _ _ (by omega) (by omega)).trans a9
  · rw [u 1 (by omega)] at h1
    rw [u (46 + k) (by omega), u (143 + k) (by omega), u (53 + k) (by omega)]
    exact ⟨(e _ _ (by omega) (by omega)).trans (b k h0 h1).1, (e _ _ (by omega) (by omega)).trans (b k h0 h1).2.1, (e _ _ (by omega) (by omega)).trans (b k h0 h1).2.2⟩
  · rw [u 1 (by omega), u (60 + k) (by omega)]
    exact (e _ _ (by omega) (by omega)).trans (c k h0 h1)
  · by_cases z : k = q
    · subst z
      rw [ab_upe]
      exact kv
    · rw [u (10 + k) (by omega)]
      exact (e _ _ (by omega) (by omega)).trans (d k h0 h1)
theorem b_sights {v : Int} (h : b_rel o rd w) (hv : v = rd 2 + 1) (hr0 : 0 ≤ rd 2) (kv : tm_g w2 o 8 = some (ab_I v)) (e : ∀ (p : Nat) (j : Int), (o ≤ p ∧ p ≤ o + 8) → ¬ (p = o ∧ j = 8) → ¬ p = o + 5 → tm_g w2 p j = tm_g w p j) (e2 : ∀ k, (¬ k = 2) → (k < 95 ∨ 143 ≤ k) → rd2 k = rd k) (e3 : rd2 2 = v) (r7 : rd 1 ≤ 7) (hv2 : b_vw o rd2 w2) : b_rel o rd2 w2 := by
  obtain ⟨⟨a1, a2, a3, a4, a5, a7, a8, a9⟩, b, c, d, g, m, vq⟩ := h
  refine ⟨⟨?_, (e _ _ (by omega) (by omega) (by omega)).trans a2, (e _ _ (by omega) (by omega) (by omega)).trans a3, (e _ _ (by omega) (by omega) (by omega)).trans a4, (e _ _ (by omega) (by omega) (by omega)).trans a5, ?_, ?_, ?_⟩, fun k h0 h1 => ?_, fun k h0 h1 => ?_, fun k h0 h1 => ?_, fun k h0 h1 => (e _ _ (by omega) (by omega) (by omega)).trans (g k h0 h1), (e _ _ (by omega) (by omega) (by omega)).trans m, hv2⟩
  · rw [e2 4 (by omega) (by omega)]; exact (e _ _ (by omega) (by omega) (by omega)).trans a1
  · rw [e2 1 (by omega) (by omega)]; exact (e _ _ (by omega) (by omega) (by omega)).trans a7
  · rw [e3]; exact kv
  · rw [e2 3 (by omega) (by omega)]; exact (e _ _ (by omega) (by omega) (by omega)).trans a9
  · rw [e2 1 (by omega) (by omega)] at h1
    rw [e2 (46 + k) (by omega) (by omega), e2 (143 + k) (by omega) (by omega), e2 (53 + k) (by omega) (by omega)]
    exact ⟨(e _ _ (by omega) (by omega) (by omega)).trans (b k h0 h1).1, (e _ _ (by omega) (by omega) (by omega)).trans (b k h0 h1).2.1, (e _ _ (by omega) (by omega) (by omega)).trans (b k h0 h1).2.2⟩
  · rw [e2 1 (by omega) (by omega), e2 (60 + k) (by omega) (by omega)]
    exact (e _ _ (by omega) (by omega) (by omega)).trans (c k h0 h1)
  · rw [e2 (10 + k) (by omega) (by omega)]
    exact (e _ _ (by omega) (by omega) (by omega)).trans (d k h0 h1)
end RL
theorem b_rel_f0 {o : Nat} {rd : Int → Int} {w w2 : ab_W} (h : b_rel o rd w) (e : ∀ (p : Nat) (j : Int), (o ≤ p ∧ p ≤ o + 8) → ¬ (p = o ∧ (j = 0 ∨ j = 6)) → tm_g w2 p j = tm_g w p j) : b_rel o rd w2 := by
  obtain ⟨⟨a1, a2, a3, a4, a5, a7, a8, a9⟩, b, c, d, g, m, vq⟩ := h
  exact ⟨⟨(e _ _ (by omega) (by omega)).trans a1, (e _ _ (by omega) (by omega)).trans a2, (e _ _ (by omega) (by omega)).trans a3, (e _ _ (by omega) (by omega)).trans a4, (e _ _ (by omega) (by omega)).trans a5, (e _ _ (by omega) (by omega)).trans a7, (e _ _ (by omega) (by omega)).trans a8, (e _ _ (by omega) (by omega)).trans a9⟩, fun k h0 h1 => ⟨(e _ _ (by omega) (by omega)).trans (b k h0 h1).1, (e _ _ (by omega) (by omega)).trans (b k h0 h1).2.1, (e _ _ (by omega) (by omega)).trans (b k h0 h1).2.2⟩, fun k h0 h1 => (e _ _ (by omega) (by omega)).trans (c k h0 h1), fun k h0 h1 => (e _ _ (by omega) (by omega)).trans (d k h0 h1), fun k h0 h1 => (e _ _ (by omega) (by omega)).trans (g k h0 h1), (e _ _ (by omega) (by omega)).trans m, b_vm vq (fun j => e _ j (by omega) (by omega)) rfl (fun _ _ _ => rfl)⟩
theorem b_clear {o : Nat} {w : ab_W} (k1 : tm_g w o 1 = some (ab_I 0)) (k2 : tm_g w o 2 = some (ab_I 0)) (k3 : tm_g w o 3 = some (ab_I 0)) (k4 : tm_g w o 4 = some (ab_I 0)) (k5 : tm_g w o 5 = some (ab_I 0)) (k7 : tm_g w o 7 = some (ab_I 0)) (k8 : tm_g w o 8 = some (ab_I 0)) (k9 : tm_g w o 9 = some (ab_I 0)) (kl : ∀ k : Int, 0 ≤ k → k < 35 → tm_g w (o + 4) k = some (ab_I 0)) (kr : ∀ k : Int, 0 ≤ k → k < 24 → tm_g w (o + 6) k = some (ab_I 1)) (kw : ∀ k : Int, 0 ≤ k → k < 12 → tm_g w (o + 7) k = some (ab_I 0)) (kd : tm_g w (o + 8) 0 = some (ab_I 0)) (kvw : ∀ k : Int, 0 ≤ k → k < 24 → tm_g w (o + 5) k = some (ab_J (Int64.ofInt 0))) (rd : Int → Int) : b_rel o (rs_ini rd 46) w := by
  have z : ∀ k, 0 ≤ k → k < 10 → rs_ini rd 46 k = 0 := fun k h0 h1 => (if_pos (show 0 ≤ k ∧ k < 46 by omega)).trans (if_neg (by omega))
  have y : ∀ k, 0 ≤ k → k < 24 → rs_ini rd 46 (10 + k) = 1 := fun k h0 h1 => (if_pos (show 0 ≤ 10 + k ∧ 10 + k < 46 by omega)).trans (if_pos (by omega))
  have z1 := z 1 (by decide) (by decide)
  refine ⟨⟨?_, k2, k3, k4, k5, ?_, ?_, ?_⟩, fun k h0 h1 => ?_, fun k h0 h1 => ?_, fun k h0 h1 => ?_, kw, kd, ⟨by rw [z 2 (by decide) (by decide)]; decide, fun h x0 x1 => ⟨_, kvw h x0 (by omega), fun d d0 d1 => ?_⟩⟩⟩
  · rw [z 4 (by decide) (by decide)]; exact k1
  · rw [z1]; exact k7
  · rw [z 2 (by decide) (by decide)]; exact k8
  · rw [z 3 (by decide) (by decide)]; exact k9
  · rw [z1] at h1; exfalso; omega
  · rw [z1, if_neg (by omega)]; exact kl k h0 h1
  · rw [y k h0 h1]; exact kr k h0 h1
  · have ez : sp_sortsAt (rs_ini rd 46) d h = 0 := by
      unfold sp_sortsAt
      rw [z 2 (by decide) (by decide)]
      rfl
    rw [ez]
    exact cs_s1_0 d0 d1
theorem tm_fillIK {N : Nat} {T : Nat → tm_S} {w : ab_W} {o n : Nat} {lo hi : Int} (hW : tm_W N T w) (hS : T o = tm_ai 0 n lo hi) (hn : n ≤ 100000) (v : Int) (h0 : lo ≤ v) (h1 : v ≤ hi) : ab_Mt g_G g_rs mt_Ar_fill_AIIV 0 0 0 [ab_R o, ab_I v] w (tm_Qv N T (fun w2 => (∀ (p : Nat) (j : Int), ¬ (p = o) → tm_g w2 p j = tm_g w p j) ∧ ∀ j : Int, 0 ≤ j → j < n → tm_g w2 o j = some (ab_I v))) := by
  have h := hW.2.1 o
  rw [hS] at h
  obtain ⟨f, hc, hb⟩ := h
  refine (co_Ar_fill_AIIV w o n f v hc hn).conseq (fun r w2 h => ?_)
  obtain ⟨rfl, rfl⟩ := h
  refine ⟨tm_set hW hc ?_ trivial, rfl, fun p j hp => tm_g_ne hp, fun j g0 g1 => ?_⟩
  · rw [hS]
    refine ⟨_, rfl, fun k => ?_⟩
    unfold ab_fv
    split
    · exact ⟨h0, h1⟩
    · exact hb k
  · refine (tm_g_set hc).trans ?_
    show some (ab_I (ab_fv f v (n : Int) j)) = _
    unfold ab_fv
    rw [if_pos ⟨g0, g1⟩]
