/-! a RULE's CLAUSES -/
abbrev c_C : Type := List Int × Option (List Int)
def c_turn (f : Int → Int) (L p c : Int) : Except Int (Int × Int × c_C) := match c_sum f L (tk_le f L p) c with
  | .error e => .error e
  | .ok (p1, c1, l1) => if tk_isI f L (tk_sk f L p1) (Int64.ofInt 26982) = 1 then (match c_tst f L (c_fact f L 10) 401 (tk_le f L (tk_sk f L p1)) c1 false false with
      | .error e => .error e
      | .ok (p2, c2, l2) => .ok (p2, c2, l1, some l2))
    else .ok (tk_sk f L p1, c1, l1, none)
def c_rcl (f : Int → Int) (L p lines c : Int) : Except Int (Int × Int × c_C) := if tk_isI f L (tk_sk f L p) (Int64.ofInt 1953854062) = 1 then (if lines = 12 then .error (1 + 8 * tk_sk f L p + 4) else c_turn f L (tk_sk f L p) c) else .error (1 + 8 * tk_sk f L p + 0)
def c_rgo (f : Int → Int) (L : Int) : Nat → Int → Int → Int → Except Int (Int × List c_C)
  | 0, _, _, _ => .error 0
  | n + 1, p, lines, c => if tk_ch f L (tk_sk f L p) = 59 then (match c_rcl f L (tk_sk f L p + 1) lines c with
      | .error e => .error e
      | .ok (p2, c2, k) => match c_rgo f L n p2 (lines + 1) c2 with
        | .error e => .error e
        | .ok (c3, ks) => .ok (c3, k :: ks))
    else if tk_ch f L (tk_sk f L p) = -1 then .ok (c, []) else .error (1 + 8 * tk_sk f L p + 0)
def c_rall (f : Int → Int) (L : Int) : Except Int (Int × List c_C) := match c_rcl f L 0 0 0 with
  | .error e => .error e
  | .ok (p2, c2, k) => match c_rgo f L 12 p2 1 c2 with
    | .error e => .error e
    | .ok (c3, ks) => .ok (c3, k :: ks)
def c_z1 (t : Int) (k : c_C) (z : (Int → Int) × (Int → Int)) : (Int → Int) × (Int → Int) := em t k.1 z
def c_z2 (t : Int) (k : c_C) (z : (Int → Int) × (Int → Int)) : (Int → Int) × (Int → Int) := em t (k.2.getD []) (em t k.1 z)
def c_lay (t : Int) : List c_C → Int → (Int → Int) × (Int → Int) → (Int → Int) → (Int → Int) × (Int → Int) × (Int → Int)
  | [], _, z, cl => (z.1, z.2, cl)
  | k :: ks, lines, z, cl => c_lay t ks (lines + 1) (c_z2 t k z) (rs_row cl (48 * t + 4 * lines) (z.1 t) ((c_z1 t k z).1 t) (if k.2.isSome then (c_z1 t k z).1 t else -1) ((c_z2 t k z).1 t))
theorem turn_eq {f : Int → Int} {L t p c : Int} {le sg : Int → Int} (hL : L ≤ 400) (h0 : 0 ≤ p) (h1 : p ≤ L) : rs_turn f L t p c le sg = (match c_turn f L p c with
    | .error e => .error e
    | .ok (p2, c2, k) => .ok ((p2, c2, (c_z2 t k (le, sg)).1, (c_z2 t k (le, sg)).2), (c_z1 t k (le, sg)).1 t, if k.2.isSome then (c_z1 t k (le, sg)).1 t else -1)) := by
  have hl := tk_le_b f h1
  unfold rs_turn c_turn
  rw [sum_eq hL (by omega) hl.2]
  rcases hv : c_sum f L (tk_le f L p) c with e | ⟨p1, c1, l1⟩
  · rfl
  · have hp := c_sum_p hL (by omega) hl.2 hv
    have hs := tk_sk_b f hp.2
    have hl2 := tk_le_b f hs.2
    show (if _ then _ else _) = (match (if _ then _ else _ : Except Int (Int × Int × c_C)) with
      | .error e => _
      | .ok (p2, c2, k) => _)
    by_cases hI : tk_isI f L (tk_sk f L p1) (Int64.ofInt 26982) = 1
    · rw [if_pos hI, if_pos hI, tst_eq hL (by omega) hl2.2]
      rcases c_tst f L (c_fact f L 10) 401 (tk_le f L (tk_sk f L p1)) c1 false false with e | ⟨p2, c2, l2⟩ <;> rfl
    · rw [if_neg hI, if_neg hI]
      rfl
theorem c_turn_p {f : Int → Int} {L p c p2 c2 : Int} {k : c_C} (hL : L ≤ 400) (h0 : 0 ≤ p) (h1 : p ≤ L) (e : c_turn f L p c = .ok (p2, c2, k)) : p ≤ p2 ∧ p2 ≤ L := by
  have hl := tk_le_b f h1
  unfold c_turn at e
  rcases hv : c_sum f L (tk_le f L p) c with e2 | ⟨p1, c1, l1⟩
  · rw [hv] at e; cases e
  · rw [hv] at e
    have hp := c_sum_p hL (by omega) hl.2 hv
    have hs := tk_sk_b f hp.2
    have hl2 := tk_le_b f hs.2
    dsimp only at e
    split at e
    · rcases hr : c_tst f L (c_fact f L 10) 401 (tk_le f L (tk_sk f L p1)) c1 false false with e3 | ⟨p3, c3, l3⟩
      · rw [hr] at e; cases e
      · rw [hr] at e
        cases e
        have h3 := c_tst_p (fun p c p1 c1 l => c_fact_p hL 10 p c p1 c1 l) 401 _ _ _ _ _ _ _ (by omega) hl2.2 hr
        exact ⟨by omega, h3.2.1⟩
    · cases e
      exact ⟨by omega, hs.2⟩
theorem rcl_eq {f : Int → Int} {L t p lines c : Int} {le sg : Int → Int} (hL : L ≤ 400) (h0 : 0 ≤ p) (h1 : p ≤ L) : rs_rcl f L t p lines c le sg = (match c_rcl f L p lines c with
    | .error e => .error e
    | .ok (p2, c2, k) => .ok ((p2, c2, (c_z2 t k (le, sg)).1, (c_z2 t k (le, sg)).2), (c_z1 t k (le, sg)).1 t, if k.2.isSome then (c_z1 t k (le, sg)).1 t else -1)) := by
  have hs := tk_sk_b f h1
  unfold rs_rcl c_rcl
  by_cases hT : tk_isI f L (tk_sk f L p) (Int64.ofInt 1953854062) = 1
  · rw [if_pos hT, if_pos hT]
    by_cases h12 : lines = 12
    · rw [if_pos h12, if_pos h12]
    · rw [if_neg h12, if_neg h12]
      exact turn_eq hL (by omega) hs.2
  · rw [if_neg hT, if_neg hT]
theorem c_rcl_p {f : Int → Int} {L p lines c p2 c2 : Int} {k : c_C} (hL : L ≤ 400) (h0 : 0 ≤ p) (h1 : p ≤ L) (e : c_rcl f L p lines c = .ok (p2, c2, k)) : p ≤ p2 ∧ p2 ≤ L := by
  have hs := tk_sk_b f h1
  unfold c_rcl at e
  split at e
  · split at e
    · cases e
    · have := c_turn_p hL (by omega) hs.2 e; omega
  · cases e
theorem rgo_eq {f : Int → Int} {L t : Int} (hL : L ≤ 400) : ∀ (n : Nat) (p lines c : Int) (le sg cl : Int → Int), 0 ≤ p → p ≤ L → rs_rgo f L t n p lines c le sg cl = (match c_rgo f L n p lines c with
    | .error e => .error e
    | .ok (c3, ks) => .ok (lines + ks.length, c3, (c_lay t ks lines (le, sg) cl).1, (c_lay t ks lines (le, sg) cl).2.1, (c_lay t ks lines (le, sg) cl).2.2))
  | 0, _, _, _, _, _, _, _, _ => rfl
  | n + 1, p, lines, c, le, sg, cl, h0, h1 => by
    have hs := tk_sk_b f h1
    unfold rs_rgo c_rgo
    by_cases h59 : tk_ch f L (tk_sk f L p) = 59
    · have hlt : tk_sk f L p < L := by
        rcases Int.lt_or_le (tk_sk f L p) L with h | h
        · exact h
        · have e : tk_ch f L (tk_sk f L p) = -1 := if_neg (by omega)
          rw [e] at h59; omega
      rw [if_pos h59, if_pos h59, rcl_eq hL (by omega) (by omega)]
      rcases hv : c_rcl f L (tk_sk f L p + 1) lines c with e | ⟨p2, c2, k⟩
      · rfl
      · have hp := c_rcl_p hL (by omega) (by omega) hv
        dsimp only
        rw [rgo_eq hL n p2 (lines + 1) c2 _ _ _ (by omega) hp.2]
        rcases c_rgo f L n p2 (lines + 1) c2 with e | ⟨c3, ks⟩
        · rfl
        · dsimp only
          have el : lines + 1 + (ks.length : Int) = lines + ((k :: ks).length : Int) := by rw [List.length_cons]; omega
          rw [el]
          rfl
    · rw [if_neg h59, if_neg h59]
      by_cases hm : tk_ch f L (tk_sk f L p) = -1
      · rw [if_pos hm, if_pos hm]
        show Except.ok (lines, c, le, sg, cl) = Except.ok (lines + ((0 : Nat) : Int), c, le, sg, cl)
        rw [show lines + ((0 : Nat) : Int) = lines by omega]
      · rw [if_neg hm, if_neg hm]
theorem rall_eq {f : Int → Int} {L t : Int} {le sg cl : Int → Int} (hL0 : 0 ≤ L) (hL : L ≤ 400) : rs_rall f L t le sg cl = (match c_rall f L with
    | .error e => .error e
    | .ok (c3, ks) => .ok ((ks.length : Int), c3, (c_lay t ks 0 (ab_up le t 0, sg) cl).1, (c_lay t ks 0 (ab_up le t 0, sg) cl).2.1, (c_lay t ks 0 (ab_up le t 0, sg) cl).2.2)) := by
  unfold rs_rall c_rall
  rw [rcl_eq hL (by omega) hL0]
  rcases hv : c_rcl f L 0 0 0 with e | ⟨p2, c2, k⟩
  · rfl
  · have hp := c_rcl_p hL (by omega) hL0 hv
    dsimp only
    rw [rgo_eq hL 12 p2 1 c2 _ _ _ (by omega) hp.2]
    rcases c_rgo f L 12 p2 1 c2 with e | ⟨c3, ks⟩
    · rfl
    · dsimp only
      have el : (1 : Int) + (ks.length : Int) = ((k :: ks).length : Int) := by rw [List.length_cons]; omega
      rw [el]
      have e0 : (ab_up le t 0) t = 0 := ab_upe le t 0
      have ec : c_lay t (k :: ks) 0 (ab_up le t 0, sg) cl = c_lay t ks 1 (c_z2 t k (ab_up le t 0, sg)) (rs_row cl (48 * t + 4 * 0) 0 ((c_z1 t k (ab_up le t 0, sg)).1 t) (if k.2.isSome then (c_z1 t k (ab_up le t 0, sg)).1 t else -1) ((c_z2 t k (ab_up le t 0, sg)).1 t)) := by
        show c_lay t ks (0 + 1) (c_z2 t k (ab_up le t 0, sg)) (rs_row cl (48 * t + 4 * 0) ((ab_up le t 0) t) ((c_z1 t k (ab_up le t 0, sg)).1 t) (if k.2.isSome then (c_z1 t k (ab_up le t 0, sg)).1 t else -1) ((c_z2 t k (ab_up le t 0, sg)).1 t)) = _
        rw [e0]
        rfl
      rw [ec]
