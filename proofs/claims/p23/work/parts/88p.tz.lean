/-! TRADE: the SLOTS that HOUSES have, the least first; rows of these, counted -/
def tz_tk (f : Int → Int) (s : Int) : Nat → Bool
  | 0 => false
  | h + 1 => tz_tk f s h || decide (f (46 + (h : Int)) = s)
def tz_ds (f : Int → Int) : Prop := ∀ i j : Int, 0 ≤ i → i < j → j < f 1 → f (46 + i) ≠ f (46 + j)
def tz_gs (f : Int → Int) (n : Nat) : Nat → List Int
  | 0 => []
  | s + 1 => tz_gs f n s ++ (if tz_tk f (s : Int) n = true then [(s : Int)] else [])
def tz_gh (f : Int → Int) (n s h : Nat) : List Int := tz_gs f n s ++ (if tz_tk f (s : Int) h = true then [(s : Int)] else [])
def tz_sl (f : Int → Int) (k : Int) : Int := ((tz_gs f (f 1).toNat 12)[k.toNat]?).getD 0
def tz_at (L : List Int) (g : Int → Int) : Prop := ∀ (j : Nat) (x : Int), L[j]? = some x → g (j : Int) = x
theorem tz_tk_t {f : Int → Int} {s : Int} : ∀ {n : Nat}, tz_tk f s n = true → ∃ h : Nat, h < n ∧ f (46 + (h : Int)) = s
  | 0, h => by exact absurd (show false = true from h) (by decide)
  | n + 1, h => by
    have h : (tz_tk f s n || decide (f (46 + (n : Int)) = s)) = true := h
    rcases (Bool.or_eq_true _ _).mp h with q | q
    · obtain ⟨k, k0, k1⟩ := tz_tk_t q
      exact ⟨k, by omega, k1⟩
    · exact ⟨n, by omega, of_decide_eq_true q⟩
theorem tz_tk_i {f : Int → Int} {s : Int} {k : Nat} (e : f (46 + (k : Int)) = s) : ∀ {n : Nat}, k < n → tz_tk f s n = true
  | 0, h => by omega
  | n + 1, h => by
    show (tz_tk f s n || decide (f (46 + (n : Int)) = s)) = true
    by_cases c : k = n
    · subst c
      rw [decide_eq_true e, Bool.or_true]
    · rw [tz_tk_i e (show k < n by omega), Bool.true_or]
theorem tz_tk_n {f : Int → Int} (hd : tz_ds f) {h : Nat} (hh : (h : Int) < f 1) {s : Int} (e : f (46 + (h : Int)) = s) : tz_tk f s h = false := by
  cases c : tz_tk f s h with
  | false => rfl
  | true =>
    obtain ⟨k, k0, k1⟩ := tz_tk_t c
    exact absurd (k1.trans e.symm) (hd k h (by omega) (by omega) hh)
theorem tz_c {f : Int → Int} (hd : tz_ds f) (s : Int) {n : Nat} (hn : (n : Int) = f 1) : ∀ h : Nat, h ≤ n → td_c f s (h : Int) n = td_c f s 0 n + (if tz_tk f s h = true then 1 else 0)
  | 0, _ => by
    rw [if_neg (by show ¬ (false = true); decide)]
    exact (Int.add_zero _).symm
  | h + 1, hh => by
    have ih := tz_c hd s hn h (by omega)
    have q := td_c_s f s (h : Int) (by omega) n
    rw [show ((h + 1 : Nat) : Int) = (h : Int) + 1 by omega, q, ih]
    have e : tz_tk f s (h + 1) = (tz_tk f s h || decide (f (46 + (h : Int)) = s)) := rfl
    by_cases c : f (46 + (h : Int)) = s
    · have z := tz_tk_n hd (show (h : Int) < f 1 by omega) c
      rw [e, z, decide_eq_true c, if_pos (show f (46 + (h : Int)) = s ∧ (h : Int) < (n : Int) from ⟨c, by omega⟩), if_neg (show ¬ false = true by decide), if_pos (show (false || true) = true by decide)]
      omega
    · rw [e, decide_eq_false c, Bool.or_false, if_neg (show ¬ (f (46 + (h : Int)) = s ∧ (h : Int) < (n : Int)) from fun y => c y.1), Int.add_zero]
theorem tz_gh_0 (f : Int → Int) (n s : Nat) : tz_gh f n s 0 = tz_gs f n s := by
  unfold tz_gh
  rw [if_neg (by show ¬ (false = true); decide), List.append_nil]
theorem tz_len {f : Int → Int} (hd : tz_ds f) (h0 : ∀ j, 0 ≤ j → j < 7 → 0 ≤ f (46 + j)) {n : Nat} (hn : (n : Int) = f 1) (hn7 : n ≤ 7) : ∀ s : Nat, ((tz_gs f n s).length : Int) = td_c f (s : Int) 0 n
  | 0 => (td_c_00 h0 n hn7).symm
  | s + 1 => by
    have ih := tz_len hd h0 hn hn7 s
    have q := td_c_n f (s : Int) (n : Int) n (Int.le_refl _)
    have c := tz_c hd (s : Int) hn n (Nat.le_refl _)
    rw [show ((s + 1 : Nat) : Int) = (s : Int) + 1 by omega, q, c, ← ih]
    show ((tz_gs f n s ++ (if tz_tk f (s : Int) n = true then [(s : Int)] else [])).length : Int) = _
    rw [List.length_append]
    split
    · rw [List.length_singleton]; omega
    · rw [List.length_nil]; omega
theorem tz_lenh {f : Int → Int} (hd : tz_ds f) (h0 : ∀ j, 0 ≤ j → j < 7 → 0 ≤ f (46 + j)) {n : Nat} (hn : (n : Int) = f 1) (hn7 : n ≤ 7) (s h : Nat) (hh : h ≤ n) : ((tz_gh f n s h).length : Int) = td_c f (s : Int) (h : Int) n := by
  have q := tz_len hd h0 hn hn7 s
  have c := tz_c hd (s : Int) hn h hh
  rw [c, ← q]
  unfold tz_gh
  rw [List.length_append]
  split
  · rw [List.length_singleton]; omega
  · rw [List.length_nil]; omega
theorem tz_all {f : Int → Int} {s : Int} : ∀ n : Nat, (∀ k : Nat, k < n → f (46 + (k : Int)) < s) → td_c f s 0 n = (n : Int)
  | 0, _ => rfl
  | n + 1, h => by
    have ih := tz_all n (fun k hk => h k (by omega))
    unfold td_c
    rw [ih, if_pos (Or.inl (h n (by omega)))]
    omega
theorem tz_pre (f : Int → Int) (n : Nat) {s j : Nat} (hj : j < (tz_gs f n s).length) : ∀ t : Nat, (tz_gs f n (s + t))[j]? = (tz_gs f n s)[j]?
  | 0 => rfl
  | t + 1 => by
    have ih := tz_pre f n hj t
    have l : j < (tz_gs f n (s + t)).length := by
      rcases Nat.lt_or_ge j (tz_gs f n (s + t)).length with z | z
      · exact z
      · rw [List.getElem?_eq_none z] at ih
        rw [List.getElem?_eq_getElem hj] at ih
        exact absurd ih (by simp)
    show (tz_gs f n (s + t) ++ _)[j]? = _
    rw [List.getElem?_append_left l]
    exact ih
theorem tz_gs_b (f : Int → Int) (n : Nat) : ∀ (s : Nat) (x : Int), x ∈ tz_gs f n s → 0 ≤ x ∧ x < (s : Int)
  | 0, x, h => by exact absurd h (List.not_mem_nil)
  | s + 1, x, h => by
    have h : x ∈ tz_gs f n s ++ (if tz_tk f (s : Int) n = true then [(s : Int)] else []) := h
    rcases List.mem_append.mp h with q | q
    · have := tz_gs_b f n s x q
      omega
    · split at q
      · have := List.mem_singleton.mp q
        omega
      · exact absurd q (List.not_mem_nil)
/-- what the SLOTS want to be told of -/
def tz_hs (f : Int → Int) : Prop := tz_ds f ∧ (0 ≤ f 1 ∧ f 1 ≤ 7) ∧ ∀ j, 46 ≤ j → j < 53 → 0 ≤ f j ∧ f j ≤ 11
theorem tz_len12 {f : Int → Int} (h : tz_hs f) : (tz_gs f (f 1).toNat 12).length = (f 1).toNat := by
  obtain ⟨hd, hn, hs⟩ := h
  have q := tz_len hd (fun j a b => (hs (46 + j) (by omega) (by omega)).1) (n := (f 1).toNat) (by omega) (by omega) 12
  have c := tz_all (f := f) (s := ((12 : Nat) : Int)) (f 1).toNat (fun k hk => by have := hs (46 + (k : Int)) (by omega) (by omega); omega)
  omega
theorem tz_sl_at {f : Int → Int} (h : tz_hs f) {g : Int → Int} (ha : tz_at (tz_gs f (f 1).toNat 12) g) {k : Int} (k0 : 0 ≤ k) (k1 : k < f 1) : g k = tz_sl f k := by
  have l := tz_len12 h
  have q := List.getElem?_eq_getElem (l := tz_gs f (f 1).toNat 12) (i := k.toNat) (by omega)
  have e := ha k.toNat _ q
  rw [show ((k.toNat : Nat) : Int) = k by omega] at e
  rw [e]
  unfold tz_sl
  rw [q]
  rfl
theorem tz_sl_b {f : Int → Int} (h : tz_hs f) {k : Int} (k0 : 0 ≤ k) (k1 : k < f 1) : 0 ≤ tz_sl f k ∧ tz_sl f k ≤ 11 := by
  have l := tz_len12 h
  have q := List.getElem?_eq_getElem (l := tz_gs f (f 1).toNat 12) (i := k.toNat) (by omega)
  have b := tz_gs_b f (f 1).toNat 12 _ (List.getElem_mem (l := tz_gs f (f 1).toNat 12) (n := k.toNat) (by omega))
  unfold tz_sl
  rw [q]
  show 0 ≤ _ ∧ _ ≤ 11
  rw [Option.getD_some]
  omega
theorem tz_sl_h {f : Int → Int} (h : tz_hs f) {x : Int} (x0 : 0 ≤ x) (x1 : x < f 1) : ∃ k : Nat, (k : Int) < f 1 ∧ tz_sl f (k : Int) = f (46 + x) := by
  have hs := h.2.2 (46 + x) (by omega) (by have := h.2.1; omega)
  have l := tz_len12 h
  obtain ⟨s, es⟩ := Int.eq_ofNat_of_zero_le hs.1
  have t := tz_tk_i (f := f) (s := (s : Int)) (k := x.toNat) (by rw [show ((x.toNat : Nat) : Int) = x by omega]; exact es) (n := (f 1).toNat) (by omega)
  have g1 : tz_gs f (f 1).toNat (s + 1) = tz_gs f (f 1).toNat s ++ [(s : Int)] := by
    show tz_gs f (f 1).toNat s ++ (if tz_tk f (s : Int) (f 1).toNat = true then [(s : Int)] else []) = _
    rw [if_pos t]
  have p := tz_pre f (f 1).toNat (s := s + 1) (j := (tz_gs f (f 1).toNat s).length) (by rw [g1, List.length_append, List.length_singleton]; omega) (12 - (s + 1))
  rw [show s + 1 + (12 - (s + 1)) = 12 by omega, g1, List.getElem?_append_right (Nat.le_refl _), Nat.sub_self] at p
  have p : (tz_gs f (f 1).toNat 12)[(tz_gs f (f 1).toNat s).length]? = some (s : Int) := p
  have q := (List.getElem?_eq_some_iff.mp p).1
  refine ⟨(tz_gs f (f 1).toNat s).length, by omega, ?_⟩
  unfold tz_sl
  rw [Int.toNat_natCast, p, es]
  rfl
def tz_D (f : Int → Int) (x : Int) : Int := sp_dayIn f (x / 7) (tz_sl f (x % 7))
def tz_N (f : Int → Int) (h : Int) : Int := sp_dayIn f h (f (46 + h))
theorem tz_D_e (f : Int → Int) {h k : Int} (k0 : 0 ≤ k) (k1 : k < 7) : tz_D f (7 * h + k) = sp_dayIn f h (tz_sl f k) := by
  unfold tz_D
  rw [show (7 * h + k) / 7 = h by omega, show (7 * h + k) % 7 = k by omega]
/-- a row goes on with k -/
def tz_ok (D N : Int → Int) (h : Int) (u k : Nat) : Bool := !u.testBit k && decide (N h ≤ D (7 * h + (k : Int)))
theorem tz_ok_i {D N : Int → Int} {h : Int} {u k : Nat} : tz_ok D N h u k = true ↔ u.testBit k = false ∧ N h ≤ D (7 * h + (k : Int)) := by
  unfold tz_ok
  rw [Bool.and_eq_true, decide_eq_true_iff, Bool.not_eq_true']
def tz_st (D N : Int → Int) (h : Int) (u : Nat) (R : Nat → Int × Int × Nat) (k : Nat) (A : Int × Int × Nat) : Int × Int × Nat :=
  if tz_ok D N h u k = true ∧ 0 < (R (u ||| 2 ^ k)).1 then (A.1 + (R (u ||| 2 ^ k)).1, if A.1 = 0 ∨ A.2.1 < D (7 * h + (k : Int)) + (R (u ||| 2 ^ k)).2.1 then (D (7 * h + (k : Int)) + (R (u ||| 2 ^ k)).2.1, k) else A.2) else A
def tz_fo (D N : Int → Int) (h : Int) (u : Nat) (R : Nat → Int × Int × Nat) : Nat → Int × Int × Nat
  | 0 => (0, 0, 0)
  | k + 1 => tz_st D N h u R k (tz_fo D N h u R k)
def tz_p (D N : Int → Int) (n : Nat) : Nat → (Nat → Int × Int × Nat)
  | 0 => fun _ => (1, 0, 0)
  | m + 1 => fun u => tz_fo D N ((n : Int) - ((m + 1 : Nat) : Int)) u (tz_p D N n m) n
def tz_f (D N : Int → Int) (n : Nat) : Nat → (Nat → List Nat)
  | 0 => fun _ => []
  | m + 1 => fun u => (tz_p D N n (m + 1) u).2.2 :: tz_f D N n m (u ||| 2 ^ (tz_p D N n (m + 1) u).2.2)
def tz_v (D N : Int → Int) (h : Int) (u : Nat) (R : Nat → Int × Int × Nat) (k : Nat) : Prop := tz_ok D N h u k = true ∧ 0 < (R (u ||| 2 ^ k)).1
def tz_w (D : Int → Int) (h : Int) (u : Nat) (R : Nat → Int × Int × Nat) (k : Nat) : Int := D (7 * h + (k : Int)) + (R (u ||| 2 ^ k)).2.1
theorem tz_fi (D N : Int → Int) (h : Int) (u : Nat) (R : Nat → Int × Int × Nat) : ∀ k : Nat, 0 ≤ (tz_fo D N h u R k).1 ∧ ((tz_fo D N h u R k).1 = 0 → ∀ j : Nat, j < k → ¬ tz_v D N h u R j) ∧ (0 < (tz_fo D N h u R k).1 → (tz_fo D N h u R k).2.2 < k ∧ tz_v D N h u R (tz_fo D N h u R k).2.2 ∧ tz_w D h u R (tz_fo D N h u R k).2.2 = (tz_fo D N h u R k).2.1 ∧ (∀ j : Nat, j < (tz_fo D N h u R k).2.2 → tz_v D N h u R j → tz_w D h u R j < (tz_fo D N h u R k).2.1) ∧ ∀ j : Nat, j < k → tz_v D N h u R j → tz_w D h u R j ≤ (tz_fo D N h u R k).2.1)
  | 0 => ⟨Int.le_refl _, fun _ j hj => by omega, fun z => absurd z (by show ¬ ((0 : Int) < 0); decide)⟩
  | k + 1 => by
    obtain ⟨i0, i1, i2⟩ := tz_fi D N h u R k
    have e : tz_fo D N h u R (k + 1) = tz_st D N h u R k (tz_fo D N h u R k) := rfl
    rw [e]
    generalize tz_fo D N h u R k = A at i0 i1 i2 ⊢
    obtain ⟨c, s, j0⟩ := A
    have i0 : 0 ≤ c := i0
    have i1 : c = 0 → ∀ j : Nat, j < k → ¬ tz_v D N h u R j := i1
    have i2 : 0 < c → j0 < k ∧ tz_v D N h u R j0 ∧ tz_w D h u R j0 = s ∧ (∀ j : Nat, j < j0 → tz_v D N h u R j → tz_w D h u R j < s) ∧ ∀ j : Nat, j < k → tz_v D N h u R j → tz_w D h u R j ≤ s := i2
    by_cases v : tz_v D N h u R k
    · have e1 : tz_st D N h u R k (c, s, j0) = (c + (R (u ||| 2 ^ k)).1, if c = 0 ∨ s < tz_w D h u R k then (tz_w D h u R k, k) else (s, j0)) := by
        unfold tz_st
        rw [if_pos (show tz_ok D N h u k = true ∧ 0 < (R (u ||| 2 ^ k)).1 from v)]
        rfl
      have vp := v.2
      rw [e1]
      by_cases z : c = 0 ∨ s < tz_w D h u R k
      · rw [if_pos z]
        refine ⟨by show 0 ≤ c + _; omega, fun y => absurd (show c + _ = 0 from y) (by omega), fun _ => ⟨Nat.lt_succ_self _, v, rfl, fun j hj vj => ?_, fun j hj vj => ?_⟩⟩
        · show tz_w D h u R j < tz_w D h u R k
          rcases z with z | z
          · exact absurd vj (i1 z j hj)
          · by_cases c0 : c = 0
            · exact absurd vj (i1 c0 j hj)
            · have := (i2 (by omega)).2.2.2.2 j hj vj
              omega
        · show tz_w D h u R j ≤ tz_w D h u R k
          by_cases ej : j = k
          · rw [ej]; exact Int.le_refl _
          · rcases z with z | z
            · exact absurd vj (i1 z j (by omega))
            · by_cases c0 : c = 0
              · exact absurd vj (i1 c0 j (by omega))
              · have := (i2 (by omega)).2.2.2.2 j (by omega) vj
                omega
      · rw [if_neg z]
        have c0 : 0 < c := by omega
        obtain ⟨a1, a2, a3, a4, a5⟩ := i2 c0
        refine ⟨by show 0 ≤ c + _; omega, fun y => absurd (show c + _ = 0 from y) (by omega), fun _ => ⟨by show j0 < k + 1; omega, a2, a3, a4, fun j hj vj => ?_⟩⟩
        show tz_w D h u R j ≤ s
        by_cases ej : j = k
        · rw [ej]; omega
        · exact a5 j (by omega) vj
    · have e1 : tz_st D N h u R k (c, s, j0) = (c, s, j0) := by
        unfold tz_st
        rw [if_neg (show ¬ (tz_ok D N h u k = true ∧ 0 < (R (u ||| 2 ^ k)).1) from v)]
      rw [e1]
      refine ⟨i0, fun y j hj => ?_, fun y => ?_⟩
      · by_cases ej : j = k
        · rw [ej]; exact v
        · exact i1 y j (by omega)
      · obtain ⟨a1, a2, a3, a4, a5⟩ := i2 y
        refine ⟨by show j0 < k + 1; omega, a2, a3, a4, fun j hj vj => ?_⟩
        by_cases ej : j = k
        · exact absurd (ej ▸ vj) v
        · exact a5 j (by omega) vj
theorem tz_p_0 (D N : Int → Int) (n : Nat) : ∀ (m u : Nat), 0 ≤ (tz_p D N n m u).1
  | 0, _ => by show (0 : Int) ≤ 1; decide
  | m + 1, u => (tz_fi D N _ u (tz_p D N n m) n).1
/-- the bounds -/
theorem tz_fo_b {D N : Int → Int} (h : Int) (u : Nat) (R : Nat → Int × Int × Nat) (P M : Nat) {n : Nat} (hh0 : 0 ≤ h) (hh : h < 7) (hn : n ≤ 7) (hD : ∀ j, 0 ≤ j → j < 49 → -2000 ≤ D j ∧ D j ≤ 2000) (hR : ∀ v, 0 ≤ (R v).1 ∧ (R v).1 ≤ (P : Int) ∧ -(M : Int) ≤ (R v).2.1 ∧ (R v).2.1 ≤ (M : Int)) : ∀ k : Nat, k ≤ n → (tz_fo D N h u R k).1 ≤ ((k * P : Nat) : Int) ∧ -((M : Int) + 2000) ≤ (tz_fo D N h u R k).2.1 ∧ (tz_fo D N h u R k).2.1 ≤ (M : Int) + 2000
  | 0, _ => by
    refine ⟨?_, ?_, ?_⟩
    · show (0 : Int) ≤ _
      omega
    · show _ ≤ (0 : Int)
      omega
    · show (0 : Int) ≤ _
      omega
  | k + 1, hk => by
    obtain ⟨b1, b2, b3⟩ := tz_fo_b h u R P M hh0 hh hn hD hR k (by omega)
    have e : tz_fo D N h u R (k + 1) = tz_st D N h u R k (tz_fo D N h u R k) := rfl
    rw [e]
    generalize tz_fo D N h u R k = A at b1 b2 b3 ⊢
    have r := hR (u ||| 2 ^ k)
    have d := hD (7 * h + (k : Int)) (by omega) (by omega)
    have kp : ((k + 1) * P : Nat) = k * P + P := Nat.succ_mul k P
    rw [kp]
    unfold tz_st
    split
    · refine ⟨?_, ?_, ?_⟩
      · show A.1 + (R (u ||| 2 ^ k)).1 ≤ _
        omega
      · show _ ≤ (if _ then (D (7 * h + (k : Int)) + (R (u ||| 2 ^ k)).2.1, k) else A.2).1
        split
        · show _ ≤ D (7 * h + (k : Int)) + (R (u ||| 2 ^ k)).2.1
          omega
        · exact b2
      · show (if _ then (D (7 * h + (k : Int)) + (R (u ||| 2 ^ k)).2.1, k) else A.2).1 ≤ _
        split
        · show D (7 * h + (k : Int)) + (R (u ||| 2 ^ k)).2.1 ≤ _
          omega
        · exact b3
    · exact ⟨by omega, b2, b3⟩
theorem tz_p_b {D N : Int → Int} {n : Nat} (hn : n ≤ 7) (hD : ∀ j, 0 ≤ j → j < 49 → -2000 ≤ D j ∧ D j ≤ 2000) : ∀ (m : Nat), m ≤ n → ∀ u : Nat, 0 ≤ (tz_p D N n m u).1 ∧ (tz_p D N n m u).1 ≤ ((7 ^ m : Nat) : Int) ∧ -((2000 * m : Nat) : Int) ≤ (tz_p D N n m u).2.1 ∧ (tz_p D N n m u).2.1 ≤ ((2000 * m : Nat) : Int)
  | 0, _, u => by
    show (0 : Int) ≤ 1 ∧ (1 : Int) ≤ ((7 ^ 0 : Nat) : Int) ∧ -((2000 * 0 : Nat) : Int) ≤ 0 ∧ (0 : Int) ≤ ((2000 * 0 : Nat) : Int)
    decide
  | m + 1, hm, u => by
    have ih := tz_p_b (N := N) hn hD m (by omega)
    have q := tz_fo_b (N := N) ((n : Int) - ((m + 1 : Nat) : Int)) u (tz_p D N n m) (7 ^ m) (2000 * m) (by omega) (by omega) hn hD ih n (Nat.le_refl _)
    have p : n * 7 ^ m ≤ 7 * 7 ^ m := Nat.mul_le_mul_right _ hn
    have p2 : 7 ^ (m + 1) = 7 * 7 ^ m := by rw [Nat.pow_succ, Nat.mul_comm]
    rw [p2]
    refine ⟨tz_p_0 D N n (m + 1) u, ?_, ?_, ?_⟩
    · show (tz_fo D N ((n : Int) - ((m + 1 : Nat) : Int)) u (tz_p D N n m) n).1 ≤ _
      omega
    · show _ ≤ (tz_fo D N ((n : Int) - ((m + 1 : Nat) : Int)) u (tz_p D N n m) n).2.1
      omega
    · show (tz_fo D N ((n : Int) - ((m + 1 : Nat) : Int)) u (tz_p D N n m) n).2.1 ≤ _
      omega
/-- the search, row by row -/
def tz_a (X : Int × Int × List Nat) (S c s : Int) (r : List Nat) : Int × Int × List Nat := if c = 0 then X else if X.1 = 0 ∨ X.2.1 < S + s then (X.1 + c, S + s, r) else (X.1 + c, X.2)
def tz_x (D N : Int → Int) (n m : Nat) (h : Int) (u : Nat) (P : List Nat) (S : Int) (X : Int × Int × List Nat) : Nat → Int × Int × List Nat
  | 0 => X
  | k + 1 => if tz_ok D N h u k = true then tz_a (tz_x D N n m h u P S X k) (S + D (7 * h + (k : Int))) (tz_p D N n m (u ||| 2 ^ k)).1 (tz_p D N n m (u ||| 2 ^ k)).2.1 (P ++ k :: tz_f D N n m (u ||| 2 ^ k)) else tz_x D N n m h u P S X k
theorem tz_x_fo (D N : Int → Int) (n m : Nat) (h : Int) (u : Nat) (P : List Nat) (S : Int) (X : Int × Int × List Nat) (hX : 0 ≤ X.1) : ∀ k : Nat, tz_x D N n m h u P S X k = tz_a X S (tz_fo D N h u (tz_p D N n m) k).1 (tz_fo D N h u (tz_p D N n m) k).2.1 (P ++ (tz_fo D N h u (tz_p D N n m) k).2.2 :: tz_f D N n m (u ||| 2 ^ (tz_fo D N h u (tz_p D N n m) k).2.2))
  | 0 => by
    show X = tz_a X S 0 0 _
    unfold tz_a
    rw [if_pos rfl]
  | k + 1 => by
    have ih := tz_x_fo D N n m h u P S X hX k
    have i0 := (tz_fi D N h u (tz_p D N n m) k).1
    have r0 := tz_p_0 D N n m (u ||| 2 ^ k)
    have e : tz_fo D N h u (tz_p D N n m) (k + 1) = tz_st D N h u (tz_p D N n m) k (tz_fo D N h u (tz_p D N n m) k) := rfl
    have ex : tz_x D N n m h u P S X (k + 1) = if tz_ok D N h u k = true then tz_a (tz_x D N n m h u P S X k) (S + D (7 * h + (k : Int))) (tz_p D N n m (u ||| 2 ^ k)).1 (tz_p D N n m (u ||| 2 ^ k)).2.1 (P ++ k :: tz_f D N n m (u ||| 2 ^ k)) else tz_x D N n m h u P S X k := rfl
    rw [ex, e, ih]
    generalize tz_fo D N h u (tz_p D N n m) k = A at i0 ⊢
    obtain ⟨c, s, j⟩ := A
    have i0 : 0 ≤ c := i0
    generalize eR : tz_p D N n m (u ||| 2 ^ k) = Z at r0
    obtain ⟨c2, s2, j2⟩ := Z
    have r0 : 0 ≤ c2 := r0
    generalize eG : P ++ k :: tz_f D N n m (u ||| 2 ^ k) = G
    generalize eH : P ++ j :: tz_f D N n m (u ||| 2 ^ j) = H
    show (if tz_ok D N h u k = true then tz_a (tz_a X S c s _) (S + D (7 * h + (k : Int))) c2 s2 G else tz_a X S c s _) = _
    by_cases o : tz_ok D N h u k = true
    · rw [if_pos o]
      by_cases z2 : c2 = 0
      · have e1 : tz_st D N h u (tz_p D N n m) k (c, s, j) = (c, s, j) := by
          unfold tz_st
          rw [eR, if_neg (fun y => by have y : 0 < c2 := y.2; omega)]
        rw [e1]
        show tz_a _ _ c2 _ _ = tz_a X S c s (P ++ j :: tz_f D N n m (u ||| 2 ^ j))
        rw [eH]
        exact if_pos z2
      · have e1 : tz_st D N h u (tz_p D N n m) k (c, s, j) = (c + c2, if c = 0 ∨ s < D (7 * h + (k : Int)) + s2 then (D (7 * h + (k : Int)) + s2, k) else (s, j)) := by
          unfold tz_st
          rw [eR, if_pos ⟨o, by show 0 < c2; omega⟩]
        rw [e1]
        generalize D (7 * h + (k : Int)) = d
        by_cases z : c = 0
        · rw [if_pos (Or.inl z)]
          show tz_a (tz_a X S c s H) (S + d) c2 s2 G = tz_a X S (c + c2) (d + s2) (P ++ k :: tz_f D N n m (u ||| 2 ^ k))
          rw [eG, show tz_a X S c s H = X from by unfold tz_a; rw [if_pos z], z, Int.zero_add]
          unfold tz_a
          rw [if_neg z2, if_neg z2, show S + d + s2 = S + (d + s2) by omega]
        · have e2 : tz_a X S c s H = if X.1 = 0 ∨ X.2.1 < S + s then (X.1 + c, S + s, H) else (X.1 + c, X.2) := by
            unfold tz_a
            rw [if_neg z]
          by_cases y : s < d + s2
          · rw [if_pos (Or.inr y)]
            show tz_a (tz_a X S c s H) (S + d) c2 s2 G = tz_a X S (c + c2) (d + s2) (P ++ k :: tz_f D N n m (u ||| 2 ^ k))
            rw [eG, e2]
            by_cases x : X.1 = 0 ∨ X.2.1 < S + s
            · rw [if_pos x]
              unfold tz_a
              rw [if_neg z2, if_neg (show ¬ c + c2 = 0 by omega), if_pos (Or.inr (show S + s < S + d + s2 by omega)), if_pos (show X.1 = 0 ∨ X.2.1 < S + (d + s2) by omega), show S + d + s2 = S + (d + s2) by omega]
              show (X.1 + c + c2, _) = _
              rw [Int.add_assoc]
            · rw [if_neg x]
              unfold tz_a
              rw [if_neg z2, if_neg (show ¬ c + c2 = 0 by omega)]
              show (if X.1 + c = 0 ∨ X.2.1 < S + d + s2 then (X.1 + c + c2, S + d + s2, G) else (X.1 + c + c2, X.2)) = _
              rw [Int.add_assoc X.1 c c2]
              by_cases v : X.2.1 < S + (d + s2)
              · rw [if_pos (Or.inr (by omega)), if_pos (Or.inr v), show S + d + s2 = S + (d + s2) by omega]
              · rw [if_neg (by omega), if_neg (by omega)]
          · rw [if_neg (by omega)]
            show tz_a (tz_a X S c s H) (S + d) c2 s2 G = tz_a X S (c + c2) s (P ++ j :: tz_f D N n m (u ||| 2 ^ j))
            rw [eH, e2]
            by_cases x : X.1 = 0 ∨ X.2.1 < S + s
            · rw [if_pos x]
              unfold tz_a
              rw [if_neg z2, if_neg (show ¬ c + c2 = 0 by omega), if_pos x]
              show (if X.1 + c = 0 ∨ S + s < S + d + s2 then (X.1 + c + c2, S + d + s2, G) else (X.1 + c + c2, S + s, H)) = _
              rw [if_neg (by omega), Int.add_assoc]
            · rw [if_neg x]
              unfold tz_a
              rw [if_neg z2, if_neg (show ¬ c + c2 = 0 by omega), if_neg x]
              show (if X.1 + c = 0 ∨ X.2.1 < S + d + s2 then (X.1 + c + c2, S + d + s2, G) else (X.1 + c + c2, X.2)) = _
              rw [if_neg (by omega), Int.add_assoc]
    · rw [if_neg o]
      have e1 : tz_st D N h u (tz_p D N n m) k (c, s, j) = (c, s, j) := by
        unfold tz_st
        rw [if_neg (fun y => o y.1)]
      rw [e1]
      show _ = tz_a X S c s (P ++ j :: tz_f D N n m (u ||| 2 ^ j))
      rw [eH]
theorem tz_x_n (D N : Int → Int) (n m : Nat) (u : Nat) (P : List Nat) (S : Int) (X : Int × Int × List Nat) (hX : 0 ≤ X.1) {h : Int} (hh : h = (n : Int) - ((m + 1 : Nat) : Int)) : tz_x D N n m h u P S X n = tz_a X S (tz_p D N n (m + 1) u).1 (tz_p D N n (m + 1) u).2.1 (P ++ tz_f D N n (m + 1) u) := by
  subst hh
  exact tz_x_fo D N n m _ u P S X hX n
/-- the row that they have now is one -/
theorem tz_many {f : Int → Int} (h : tz_hs f) : ∀ (m : Nat), m ≤ (f 1).toNat → ∀ u : Nat, (∀ k : Nat, u.testBit k = true → ∃ x : Nat, x + m < (f 1).toNat ∧ tz_sl f (k : Int) = f (46 + (x : Int))) → 0 < (tz_p (tz_D f) (tz_N f) (f 1).toNat m u).1
  | 0, _, u, _ => by show (0 : Int) < 1; decide
  | m + 1, hm, u, hu => by
    have hn := h.2.1
    have eh : (((f 1).toNat : Nat) : Int) - ((m + 1 : Nat) : Int) = (((f 1).toNat - (m + 1) : Nat) : Int) := by omega
    obtain ⟨k, k0, k1⟩ := tz_sl_h h (x := (((f 1).toNat - (m + 1) : Nat) : Int)) (by omega) (by omega)
    have b : u.testBit k = false := by
      cases c : u.testBit k with
      | false => rfl
      | true =>
        obtain ⟨x, x0, x1⟩ := hu k c
        exact absurd (x1.symm.trans k1) (h.1 x _ (by omega) (by omega) (by omega))
    have ok : tz_ok (tz_D f) (tz_N f) ((((f 1).toNat : Nat) : Int) - ((m + 1 : Nat) : Int)) u k = true := by
      rw [tz_ok_i]
      refine ⟨b, ?_⟩
      rw [eh, tz_D_e f (by omega) (by omega), k1]
      exact Int.le_refl _
    have p := tz_many h m (by omega) (u ||| 2 ^ k) (fun j hj => by
      rw [Nat.testBit_or, Bool.or_eq_true] at hj
      rcases hj with q | q
      · obtain ⟨x, x0, x1⟩ := hu j q
        exact ⟨x, by omega, x1⟩
      · rw [Nat.testBit_two_pow, decide_eq_true_iff] at q
        subst q
        exact ⟨(f 1).toNat - (m + 1), by omega, k1⟩)
    have q := tz_fi (tz_D f) (tz_N f) ((((f 1).toNat : Nat) : Int) - ((m + 1 : Nat) : Int)) u (tz_p (tz_D f) (tz_N f) (f 1).toNat m) (f 1).toNat
    show 0 < (tz_fo (tz_D f) (tz_N f) ((((f 1).toNat : Nat) : Int) - ((m + 1 : Nat) : Int)) u (tz_p (tz_D f) (tz_N f) (f 1).toNat m) (f 1).toNat).1
    rcases Int.lt_or_eq_of_le q.1 with z | z
    · exact z
    · exact absurd ⟨ok, p⟩ (q.2.1 z.symm k (by omega))
theorem tz_f_b {D N : Int → Int} {n : Nat} (hn : 0 < n) : ∀ (m u : Nat), 0 < (tz_p D N n m u).1 → ∀ j : Nat, ((tz_f D N n m u)[j]?).getD 0 < n
  | 0, _, _, j => by show (([] : List Nat)[j]?).getD 0 < n; rw [List.getElem?_nil]; exact hn
  | m + 1, u, h, j => by
    have q := (tz_fi D N ((n : Int) - ((m + 1 : Nat) : Int)) u (tz_p D N n m) n).2.2 h
    have ih := tz_f_b hn m (u ||| 2 ^ (tz_p D N n (m + 1) u).2.2) q.2.1.2
    rcases j with _ | j
    · exact q.1
    · exact ih j
def sp_trade (f : Int → Int) (what : Int) : Int := if f 1 ≤ what - 2 then -2 else if what = 0 then (tz_p (tz_D f) (tz_N f) (f 1).toNat (f 1).toNat 0).1 else if what = 1 then (tz_p (tz_D f) (tz_N f) (f 1).toNat (f 1).toNat 0).2.1 else tz_sl f ((((tz_f (tz_D f) (tz_N f) (f 1).toNat (f 1).toNat 0)[(what - 2).toNat]?).getD 0 : Nat) : Int)
/-- how many SLOTS are taken -/
def tz_pc (t : Nat) : Nat := ((List.range 7).filter (fun k => t.testBit k)).length
theorem pc_bc : ∀ t : Nat, t < 128 → bc_F (t : Int) = (tz_pc t : Int) := by decide +kernel
theorem pc_or : ∀ t : Nat, t < 128 → ∀ k : Nat, k < 7 → t.testBit k = false → tz_pc (t ||| 2 ^ k) = tz_pc t + 1 ∧ t < t ||| 2 ^ k := by decide +kernel
theorem pc_lt : ∀ n : Nat, n < 8 → ∀ t : Nat, t < 2 ^ n - 1 → tz_pc t < n := by decide +kernel
theorem pc_al : ∀ n : Nat, n < 8 → tz_pc (2 ^ n - 1) = n := by decide +kernel
theorem pc_un : ∀ t : Nat, t < 128 → ∀ k : Nat, k < 7 → t.testBit k = false → ab_iand ((t ||| 2 ^ k : Nat) : Int) (ab_ixor (1 * 2 ^ k) (-1)) = (t : Int) := by decide +kernel
theorem tz_or_lt {n u k : Nat} (hu : u < 2 ^ n) (hk : k < n) : u ||| 2 ^ k < 2 ^ n := Nat.or_lt_two_pow hu (Nat.pow_lt_pow_right (by decide) hk)
