/-! how to turn so that it wears least: all rows of t steps go over the same spokes -/
theorem tw_4 {f : Int → Int} (hf : 0 ≤ f 4 ∧ f 4 ≤ 11) (k : Nat) : sp_turns 1 f k 4 = (f 4 + (k : Int)) % 12 := by
  rw [tn_4 (Or.inl rfl) hf k]
  omega
theorem tw_w {f : Int → Int} (hf : 0 ≤ f 4 ∧ f 4 ≤ 11) {j : Int} (h0 : 0 ≤ j) (h1 : j < 12) : ∀ k : Nat, k ≤ 12 → sp_turns 1 f k (34 + j) = f (34 + j) + (if (j - f 4) % 12 < (k : Int) then 1 else 0)
  | 0, _ => by
    show f (34 + j) = _
    rw [if_neg (by omega), Int.add_zero]
  | k + 1, hk => by
    have ih := tw_w hf h0 h1 k (by omega)
    have e4 := tw_4 hf k
    show sp_step 1 (sp_turns 1 f k) (34 + j) = _
    unfold sp_step
    rw [ab_upn _ _ (by omega), e4]
    by_cases z : 34 + j = 34 + (f 4 + (k : Int)) % 12
    · rw [z, ab_upe, ← z, ih, if_neg (by omega), if_pos (by omega)]
      omega
    · rw [ab_upn _ _ z, ih]
      by_cases y : (j - f 4) % 12 < (k : Int)
      · rw [if_pos y, if_pos (by omega)]
      · rw [if_neg y, if_neg (by omega)]
theorem pa_w {f : Int → Int} (hf : 0 ≤ f 4 ∧ f 4 ≤ 11) (h7 : f 7 = 0) {r : Int} (r0 : 0 ≤ r) (r1 : r ≤ 12) {j : Int} (h0 : 0 ≤ j) (h1 : j < 12) : sp_passAt r f (34 + j) = f (34 + j) + (if (j - f 4) % 12 < r then 1 else 0) := by
  have e7 : ab_up f 7 0 4 = f 4 := ab_upn _ _ (by decide)
  have ej : ab_up f 7 0 (34 + j) = f (34 + j) := ab_upn _ _ (by omega)
  have n1 : sp_n f r = r := if_neg (by omega)
  have n2 : sp_by r = 1 := if_neg (by omega)
  have t := tw_w (f := ab_up f 7 0) (by rw [e7]; exact hf) h0 h1 r.natAbs (by omega)
  rw [e7, ej, show (r.natAbs : Int) = r by omega] at t
  unfold sp_passAt
  rw [n1, n2]
  generalize sp_turns 1 (ab_up f 7 0) r.natAbs = g at t
  unfold sp_goesOn
  split
  · rw [ab_upn _ _ (by omega), t]
  · rw [ab_upn _ _ (by omega), ab_upn _ _ (by omega), ab_upn _ _ (by omega), t]
theorem dg_b (code : Int) (e : Nat) : 0 ≤ sp_dig code e ∧ sp_dig code e ≤ 2 := by
  unfold sp_dig
  omega
theorem st_b (code : Int) (n : Nat) : ∀ k : Nat, 0 ≤ sp_steps code n k ∧ sp_steps code n k ≤ 2 * (k : Int)
  | 0 => by unfold sp_steps; omega
  | k + 1 => by
    have ih := st_b code n k
    have d := dg_b code (n - 1 - k)
    unfold sp_steps
    omega
/-- behind k HOURS at the rates that a code tells -/
theorem pc_w {f : Int → Int} (hf : 0 ≤ f 4 ∧ f 4 ≤ 11) (code : Int) (n : Nat) : ∀ k : Nat, k ≤ 5 → sp_pc f code 0 n k 4 = (f 4 + sp_steps code n k) % 12 ∧ sp_pc f code 0 n k 7 = 0 ∧ ∀ j, 0 ≤ j → j < 12 → sp_pc f code 0 n k (34 + j) = f (34 + j) + (if (j - f 4) % 12 < sp_steps code n k then 1 else 0)
  | 0, _ => by
    refine ⟨?_, ab_upe _ _ _, fun j h0 h1 => ?_⟩
    · show ab_up f 7 0 4 = (f 4 + 0) % 12
      rw [ab_upn _ _ (by decide)]
      omega
    · show ab_up f 7 0 (34 + j) = f (34 + j) + (if (j - f 4) % 12 < 0 then 1 else 0)
      rw [ab_upn _ _ (by omega), if_neg (by omega), Int.add_zero]
  | k + 1, hk => by
    obtain ⟨e4, e7, ew⟩ := pc_w hf code n k (by omega)
    have d := dg_b code (n - 1 - k)
    have sb := st_b code n k
    have h4 : 0 ≤ sp_pc f code 0 n k 4 ∧ sp_pc f code 0 n k 4 ≤ 11 := by omega
    have es : sp_steps code n (k + 1) = sp_steps code n k + sp_dig code (n - 1 - k) := rfl
    refine ⟨?_, ?_, fun j h0 h1 => ?_⟩
    · show sp_passAt (sp_dig code (n - 1 - k) - 0) (sp_pc f code 0 n k) 4 = _
      rw [pa_4 h4, if_neg (by omega), e4, es]
      omega
    · exact pa_7 h4
    · show sp_passAt (sp_dig code (n - 1 - k) - 0) (sp_pc f code 0 n k) (34 + j) = _
      rw [pa_w h4 e7 (by omega) (by omega) h0 h1, ew j h0 h1, e4, es]
      generalize sp_dig code (n - 1 - k) = dd at d
      generalize sp_steps code n k = ss at sb
      by_cases y : (j - f 4) % 12 < ss
      · rw [if_pos y, if_neg (by omega), if_pos (by omega), Int.add_zero]
      · rw [if_neg y, Int.add_zero]
        by_cases z : (j - f 4) % 12 < ss + dd
        · rw [if_pos z, if_pos (by omega)]
        · rw [if_neg z, if_neg (by omega)]
theorem mx_w {f g : Int → Int} {t : Int} (h : ∀ j, 0 ≤ j → j < 12 → g (34 + j) = f (34 + j) + (if (j - f 4) % 12 < t then 1 else 0)) : ∀ k : Nat, k ≤ 12 → sp_mx g k = cs_mw f t k
  | 0, _ => rfl
  | k + 1, hk => by
    have ih := mx_w h k (by omega)
    rw [cs_mw_s]
    show (if sp_mx g k < g (34 + (k : Int)) then g (34 + (k : Int)) else sp_mx g k) = _
    rw [ih, h (k : Int) (by omega) (by omega)]
theorem wc_w {f : Int → Int} (hf : 0 ≤ f 4 ∧ f 4 ≤ 11) {code t : Int} {n : Nat} (hn : n ≤ 5) (hs : sp_steps code n n = t) : sp_wc f code n = cs_mw f t 12 := by
  have q := (pc_w hf code n n hn).2.2
  rw [hs] at q
  exact mx_w q 12 (by decide)
/-- the first code of t steps -/
def sb_c (n : Nat) (t : Int) : Nat → Int
  | 0 => -1
  | k + 1 => if sp_steps (k : Int) n n = t ∧ sb_c n t k < 0 then (k : Int) else sb_c n t k
theorem sb_w {f : Int → Int} (hf : 0 ≤ f 4 ∧ f 4 ≤ 11) {t : Int} {n : Nat} (hn : n ≤ 5) : ∀ k : Nat, (sp_sb f n t k).1 = sb_c n t k ∧ (0 ≤ sb_c n t k → (sp_sb f n t k).2 = cs_mw f t 12)
  | 0 => ⟨rfl, fun h => absurd (show (0 : Int) ≤ -1 from h) (by decide)⟩
  | k + 1 => by
    obtain ⟨e1, e2⟩ := sb_w hf (t := t) hn k
    unfold sp_sb sb_c
    rw [e1]
    by_cases hs : sp_steps (k : Int) n n = t
    · have ew := wc_w hf hn hs
      rw [if_pos hs, ew]
      by_cases z : sb_c n t k < 0
      · rw [if_pos (Or.inl z), if_pos ⟨hs, z⟩]
        exact ⟨rfl, fun _ => rfl⟩
      · rw [if_neg (fun h => h.elim z (fun y => by rw [e2 (by omega)] at y; omega)), if_neg (fun h => z h.2)]
        exact ⟨e1, e2⟩
    · rw [if_neg hs, if_neg (fun h => hs h.1)]
      exact ⟨e1, e2⟩
def spc_b (n t : Nat) : Bool := if 2 * n < t then decide (sb_c n (t : Int) (3 ^ n) < 0) else decide (0 ≤ sb_c n (t : Int) (3 ^ n)) && (List.range 6).all (fun w => decide (w = 0) || decide (n < w) || decide (sp_dig (sb_c n (t : Int) (3 ^ n)) (n - w) = cs_sd (n : Int) (t : Int) (w : Int)))
theorem spc_1 : (List.range 6).all (fun n => decide (n = 0) || (List.range 11).all (fun t => spc_b n t)) = true := by decide +kernel
theorem spc_all (n : Nat) (hn : n < 6) (h1 : 1 ≤ n) (t : Nat) (ht : t < 11) : (2 * n < t → sb_c n (t : Int) (3 ^ n) < 0) ∧ (t ≤ 2 * n → 0 ≤ sb_c n (t : Int) (3 ^ n) ∧ ∀ w : Nat, w < 6 → 1 ≤ w → w ≤ n → sp_dig (sb_c n (t : Int) (3 ^ n)) (n - w) = cs_sd (n : Int) (t : Int) (w : Int)) := by
  have h : (decide (n = 0) || (List.range 11).all (fun t => spc_b n t)) = true := List.all_eq_true.mp spc_1 n (List.mem_range.mpr hn)
  rw [decide_eq_false (show ¬ n = 0 by omega), Bool.false_or] at h
  have h : spc_b n t = true := List.all_eq_true.mp h t (List.mem_range.mpr ht)
  unfold spc_b at h
  refine ⟨fun z => ?_, fun z => ?_⟩
  · rw [if_pos z] at h
    exact of_decide_eq_true h
  · rw [if_neg (by omega), Bool.and_eq_true] at h
    refine ⟨of_decide_eq_true h.1, fun w w0 w1 w2 => ?_⟩
    have k : (decide (w = 0) || decide (n < w) || decide (sp_dig (sb_c n (t : Int) (3 ^ n)) (n - w) = cs_sd (n : Int) (t : Int) (w : Int))) = true := List.all_eq_true.mp h.2 w (List.mem_range.mpr w0)
    rw [decide_eq_false (show ¬ w = 0 by omega), decide_eq_false (show ¬ n < w by omega), Bool.false_or, Bool.false_or] at k
    exact of_decide_eq_true k
theorem spare_eq {f : Int → Int} (hf : 0 ≤ f 4 ∧ f 4 ≤ 11) {n t w : Int} (n0 : 1 ≤ n) (n1 : n ≤ 5) (t0 : 0 ≤ t) (t1 : t ≤ 10) (w0 : 0 ≤ w) (w1 : w ≤ 5) : sp_spare f n t w = cs_spare f n t w := by
  have q := spc_all n.toNat (by omega) (by omega) t.toNat (by omega)
  rw [Int.toNat_of_nonneg t0, Int.toNat_of_nonneg (show 0 ≤ n by omega)] at q
  obtain ⟨e1, e2⟩ := sb_w hf (t := t) (n := n.toNat) (by omega) (3 ^ n.toNat)
  unfold sp_spare cs_spare
  rw [e1]
  by_cases z : 2 * n < t
  · rw [if_pos (q.1 (by omega)), if_pos (Or.inl z)]
  · obtain ⟨q1, q2⟩ := q.2 (by omega)
    rw [if_neg (by omega), e2 q1]
    by_cases y : n < w
    · rw [if_pos (Or.inr y), if_neg (by omega), if_pos y]
    · rw [if_neg (show ¬ (2 * n < t ∨ n < w) by omega)]
      by_cases v : w = 0
      · rw [if_pos v, if_pos v]
      · have q3 := q2 w.toNat (by omega) (by omega) (by omega)
        rw [Int.toNat_of_nonneg w0] at q3
        rw [if_neg v, if_neg v, if_neg y, show (n - 1 - (w - 1)).toNat = n.toNat - w.toNat by omega, q3]
