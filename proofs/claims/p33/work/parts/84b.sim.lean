/-! the open stack against the recursion -/
theorem cl_b {f : Int → Int} {L t : Int} : ∀ (n : Nat) (p : Int) (le sg : Int → Int) (K : List Int), p ≤ L → p ≤ (rs_cl f L t n p le sg K).1 ∧ (rs_cl f L t n p le sg K).1 ≤ L
  | 0, p, le, sg, K, h => ⟨Int.le_refl _, h⟩
  | n + 1, p, le, sg, K, h => by
    have hs := tk_sk_b f h
    unfold rs_cl
    split
    · rename_i hc
      have hlt : tk_sk f L p < L := by
        rcases Int.lt_or_le (tk_sk f L p) L with h2 | h2
        · exact h2
        · have e : tk_ch f L (tk_sk f L p) = -1 := if_neg (by omega)
          rw [e] at hc; omega
      have := cl_b (f := f) (L := L) (t := t) n (tk_sk f L p + 1) (rs_set t 3 (rs_set t 1 K le sg).1.tail (rs_set t 1 K le sg).2.1 (rs_set t 1 K le sg).2.2).2.1 (rs_set t 3 (rs_set t 1 K le sg).1.tail (rs_set t 1 K le sg).2.1 (rs_set t 1 K le sg).2.2).2.2 (rs_set t 3 (rs_set t 1 K le sg).1.tail (rs_set t 1 K le sg).2.1 (rs_set t 1 K le sg).2.2).1 (by omega)
      omega
    · exact hs
theorem cl_fuel {f : Int → Int} {L t : Int} : ∀ (n m : Nat) (p : Int) (le sg : Int → Int) (K : List Int), p ≤ L → L - p < n → L - p < m → rs_cl f L t n p le sg K = rs_cl f L t m p le sg K
  | 0, _, _, _, _, _, h1, h2, _ => by omega
  | _ + 1, 0, _, _, _, _, h1, _, h3 => by omega
  | n + 1, m + 1, p, le, sg, K, h1, h2, h3 => by
    have hs := tk_sk_b f h1
    unfold rs_cl
    split
    · rename_i hc
      have hlt : tk_sk f L p < L := by
        rcases Int.lt_or_le (tk_sk f L p) L with h2 | h2
        · exact h2
        · have e : tk_ch f L (tk_sk f L p) = -1 := if_neg (by omega)
          rw [e] at hc; omega
      exact cl_fuel n m _ _ _ _ (by omega) (by omega) (by omega)
    · rfl
theorem fact_fuel {f : Int → Int} {L t : Int} : ∀ (n m : Nat) (p c : Int) (le sg : Int → Int) (K : List Int), dc K ≤ 10 → 10 - dc K < n → 10 - dc K < m → rs_fact f L t n p c le sg K = rs_fact f L t m p c le sg K
  | 0, _, _, _, _, _, _, h1, h2, _ => by omega
  | _ + 1, 0, _, _, _, _, _, h1, _, h3 => by omega
  | n + 1, m + 1, p, c, le, sg, K, h1, h2, h3 => by
    unfold rs_fact
    have d1 : dc (11 :: K) = dc K + 1 := by show dc K + (if (11 : Int) = 91 ∨ (11 : Int) = 11 then 1 else 0) = _; rw [if_pos (by decide)]
    have d2 : dc (91 :: K) = dc K + 1 := by show dc K + (if (91 : Int) = 91 ∨ (91 : Int) = 11 then 1 else 0) = _; rw [if_pos (by decide)]
    split
    · split
      · rfl
      · exact fact_fuel n m _ _ _ _ _ (by omega) (by omega) (by omega)
    · split
      · split
        · rfl
        · exact fact_fuel n m _ _ _ _ _ (by omega) (by omega) (by omega)
      · rfl
def c_q (f : Int → Int) (L t : Int) (m : Nat) (p c : Int) (le sg : Int → Int) (K : List Int) : Except Int pz :=
  if tk_isI f L (rs_cl f L t 401 p le sg K).1 (Int64.ofInt 6385252) = 1 ∨ tk_isI f L (rs_cl f L t 401 p le sg K).1 (Int64.ofInt 28530) = 1 then rs_tst f L t m (tk_le f L (rs_cl f L t 401 p le sg K).1) c (rs_set t (rs_str (rs_op f L (rs_cl f L t 401 p le sg K).1)) (rs_cl f L t 401 p le sg K).2.2.2 (rs_cl f L t 401 p le sg K).2.1 (rs_cl f L t 401 p le sg K).2.2.1).2.1 (rs_set t (rs_str (rs_op f L (rs_cl f L t 401 p le sg K).1)) (rs_cl f L t 401 p le sg K).2.2.2 (rs_cl f L t 401 p le sg K).2.1 (rs_cl f L t 401 p le sg K).2.2.1).2.2 (rs_op f L (rs_cl f L t 401 p le sg K).1 :: (rs_set t (rs_str (rs_op f L (rs_cl f L t 401 p le sg K).1)) (rs_cl f L t 401 p le sg K).2.2.2 (rs_cl f L t 401 p le sg K).2.1 (rs_cl f L t 401 p le sg K).2.2.1).1)
  else if (91 : Int) ∈ (rs_cl f L t 401 p le sg K).2.2.2 then .error (1 + 8 * (rs_cl f L t 401 p le sg K).1 + 0) else .ok ((rs_cl f L t 401 p le sg K).1, c, (rs_set t 1 (rs_cl f L t 401 p le sg K).2.2.2 (rs_cl f L t 401 p le sg K).2.1 (rs_cl f L t 401 p le sg K).2.2.1).2.1, (rs_set t 1 (rs_cl f L t 401 p le sg K).2.2.2 (rs_cl f L t 401 p le sg K).2.1 (rs_cl f L t 401 p le sg K).2.2.1).2.2)
theorem tst_unf {f : Int → Int} {L t : Int} (n : Nat) (p c : Int) (le sg : Int → Int) (K : List Int) : rs_tst f L t (n + 1) p c le sg K = (match rs_fact f L t 11 p c le sg K with
    | .error e => .error e
    | .ok (n1, md1, le1, sg1, K1) => c_q f L t n n1 md1 (rs_set t 3 K1 le1 sg1).2.1 (rs_set t 3 K1 le1 sg1).2.2 (rs_set t 3 K1 le1 sg1).1) := rfl
theorem tst_fuel {f : Int → Int} {L t : Int} : ∀ (n m : Nat) (p c : Int) (le sg : Int → Int) (K : List Int), p ≤ L → L - p < n → L - p < m → rs_tst f L t n p c le sg K = rs_tst f L t m p c le sg K
  | 0, _, _, _, _, _, _, h1, h2, _ => by omega
  | _ + 1, 0, _, _, _, _, _, h1, _, h3 => by omega
  | n + 1, m + 1, p, c, le, sg, K, h1, h2, h3 => by
    rw [tst_unf, tst_unf]
    rcases hv : rs_fact f L t 11 p c le sg K with e | ⟨n1, md1, le1, sg1, K1⟩
    · rfl
    · have hp := rs_fact_p 11 h1 hv
      dsimp only at hp ⊢
      have hb := cl_b (f := f) (t := t) 401 n1 (rs_set t 3 K1 le1 sg1).2.1 (rs_set t 3 K1 le1 sg1).2.2 (rs_set t 3 K1 le1 sg1).1 hp.2
      unfold c_q
      split
      · rename_i hc
        have hl := tk_le_b f hb.2
        have hlt : (rs_cl f L t 401 n1 (rs_set t 3 K1 le1 sg1).2.1 (rs_set t 3 K1 le1 sg1).2.2 (rs_set t 3 K1 le1 sg1).1).1 < tk_le f L (rs_cl f L t 401 n1 (rs_set t 3 K1 le1 sg1).2.1 (rs_set t 3 K1 le1 sg1).2.2 (rs_set t 3 K1 le1 sg1).1).1 := by
          rcases hc with hc | hc <;> exact tk_isI_p hc
        exact tst_fuel n m _ _ _ _ _ (by omega) (by omega) (by omega)
      · rfl
theorem q_fuel {f : Int → Int} {L t : Int} (n m : Nat) (p c : Int) (le sg : Int → Int) (K : List Int) (h1 : p ≤ L) (h2 : L - p < n + 1) (h3 : L - p < m + 1) : c_q f L t n p c le sg K = c_q f L t m p c le sg K := by
  have hb := cl_b (f := f) (t := t) 401 p le sg K h1
  unfold c_q
  split
  · rename_i hc
    have hl := tk_le_b f hb.2
    have hlt : (rs_cl f L t 401 p le sg K).1 < tk_le f L (rs_cl f L t 401 p le sg K).1 := by
      rcases hc with hc | hc <;> exact tk_isI_p hc
    exact tst_fuel n m _ _ _ _ _ (by omega) (by omega) (by omega)
  · rfl
theorem isI_ch {f : Int → Int} {L s : Int} {w : Int64} (h : tk_isI f L s w = 1) : 97 ≤ tk_ch f L s ∧ tk_ch f L s ≤ 122 := by
  have hp := tk_isI_p h
  have hl : tk_lt f L s = true := by
    rcases hb : tk_lt f L s with _ | _
    · have e : tk_le f L s = s := tk_to_e hb
      omega
    · rfl
  have hl : decide (s < L ∧ 97 ≤ f s ∧ f s ≤ 122) = true := hl
  have hl := of_decide_eq_true hl
  unfold tk_ch
  rw [if_pos hl.1]
  omega
theorem c_sum_p {f : Int → Int} {L p c p1 c1 : Int} {l : List Int} (hL : L ≤ 400) (h0 : 0 ≤ p) (h : p ≤ L) (e : c_sum f L p c = .ok (p1, c1, l)) : p < p1 ∧ p1 ≤ L := by
  have h2 := sum_eq (f := f) (t := 0) (c := c) (le := fun _ => 0) (sg := fun _ => 0) hL h0 h
  rw [e] at h2
  exact rs_sum_p h h2
theorem c_cmp_p {f : Int → Int} {L p c p1 c1 : Int} {l : List Int} (hL : L ≤ 400) (h0 : 0 ≤ p) (h : p ≤ L) (e : c_cmp f L p c = .ok (p1, c1, l)) : p < p1 ∧ p1 ≤ L := by
  have h2 := cmp_eq (f := f) (t := 0) (c := c) (le := fun _ => 0) (sg := fun _ => 0) hL h0 h
  rw [e] at h2
  exact rs_cmp_p h h2
theorem c_tst_p {f : Int → Int} {L : Int} {F : Int → Int → c_R} (hF : ∀ p c p1 c1 l, 0 ≤ p → p ≤ L → F p c = .ok (p1, c1, l) → p < p1 ∧ p1 ≤ L) : ∀ (n : Nat) (p c : Int) (aa oo : Bool) (p1 c1 : Int) (l : List Int), 0 ≤ p → p ≤ L → c_tst f L F n p c aa oo = .ok (p1, c1, l) → p < p1 ∧ p1 ≤ L ∧ tk_sk f L p1 = p1
  | 0, _, _, _, _, _, _, _, _, _, e => by cases e
  | n + 1, p, c, aa, oo, p1, c1, l, h0, h1, e => by
    unfold c_tst at e
    rcases hv : F p c with e2 | ⟨p2, c2, l2⟩
    · rw [hv] at e; cases e
    · rw [hv] at e
      have hp := hF p c p2 c2 l2 h0 h1 hv
      have hs := tk_sk_b f hp.2
      dsimp only at e
      split at e
      · rename_i hc
        have hlt := tk_isI_p hc
        have hl := tk_le_b f hs.2
        rcases hr : c_tst f L F n (tk_le f L (tk_sk f L p2)) c2 true oo with e3 | ⟨p3, c3, l3⟩
        · rw [hr] at e; cases e
        · rw [hr] at e
          cases e
          have := c_tst_p hF n _ _ _ _ _ _ _ (by omega) hl.2 hr
          exact ⟨by omega, this.2⟩
      · split at e
        · rename_i hc
          have hlt := tk_isI_p hc
          have hl := tk_le_b f hs.2
          rcases hr : c_tst f L F n (tk_le f L (tk_sk f L p2)) c2 false true with e3 | ⟨p3, c3, l3⟩
          · rw [hr] at e; cases e
          · rw [hr] at e
            cases e
            have := c_tst_p hF n _ _ _ _ _ _ _ (by omega) hl.2 hr
            exact ⟨by omega, this.2⟩
        · cases e
          exact ⟨by omega, hs.2, tk_sk_sk f L p2 hp.2⟩
theorem c_fact_p {f : Int → Int} {L : Int} (hL : L ≤ 400) : ∀ (k : Nat) (p c p1 c1 : Int) (l : List Int), 0 ≤ p → p ≤ L → c_fact f L k p c = .ok (p1, c1, l) → p < p1 ∧ p1 ≤ L
  | 0, p, c, p1, c1, l, h0, h1, e => by
    have hs := tk_sk_b f h1
    unfold c_fact at e
    split at e
    · cases e
    · split at e
      · cases e
      · have := c_cmp_p hL (by omega) hs.2 e; omega
  | k + 1, p, c, p1, c1, l, h0, h1, e => by
    have hs := tk_sk_b f h1
    unfold c_fact at e
    split at e
    · rename_i hc
      have hlt := tk_isI_p hc
      have hl := tk_le_b f hs.2
      rcases hr : c_fact f L k (tk_le f L (tk_sk f L p)) c with e3 | ⟨p3, c3, l3⟩
      · rw [hr] at e; cases e
      · rw [hr] at e
        cases e
        have := c_fact_p hL k _ _ _ _ _ (by omega) hl.2 hr
        omega
    · split at e
      · rename_i hc
        have hlt : tk_sk f L p < L := by
          rcases Int.lt_or_le (tk_sk f L p) L with h2 | h2
          · exact h2
          · have e : tk_ch f L (tk_sk f L p) = -1 := if_neg (by omega)
            rw [e] at hc; omega
        rcases hr : c_tst f L (c_fact f L k) 401 (tk_sk f L p + 1) c false false with e3 | ⟨p3, c3, l3⟩
        · rw [hr] at e; cases e
        · rw [hr] at e
          have h3 := c_tst_p (fun p c p1 c1 l => c_fact_p hL k p c p1 c1 l) 401 _ _ _ _ _ _ _ (by omega) (by omega) hr
          unfold c_br at e
          dsimp only at e
          split at e
          · rename_i h93
            have hlt3 : tk_sk f L p3 < L := by
              rcases Int.lt_or_le (tk_sk f L p3) L with h2 | h2
              · exact h2
              · have e : tk_ch f L (tk_sk f L p3) = -1 := if_neg (by omega)
                rw [e] at h93; omega
            cases e
            have := tk_sk_b f h3.2.1
            omega
          · cases e
      · have := c_cmp_p hL (by omega) hs.2 e; omega
def c_L (aa oo : Bool) : List Int := (if aa then [12] else []) ++ (if oo then [13] else [])
def c_e (f : Int → Int) (L t : Int) (m : Nat) (p c : Int) (le sg : Int → Int) : List Int → Except Int pz
  | [] => .ok (p, c, le, sg)
  | _ :: K => if tk_ch f L (tk_sk f L p) = 93 then c_q f L t m (tk_sk f L p + 1) c (rs_set t 3 K le sg).2.1 (rs_set t 3 K le sg).2.2 (rs_set t 3 K le sg).1 else .error (1 + 8 * tk_sk f L p + 0)
theorem c_e_c {f : Int → Int} {L t : Int} {m : Nat} {p c s : Int} {le sg : Int → Int} {K : List Int} : c_e f L t m p c le sg (s :: K) = if tk_ch f L (tk_sk f L p) = 93 then c_q f L t m (tk_sk f L p + 1) c (rs_set t 3 K le sg).2.1 (rs_set t 3 K le sg).2.2 (rs_set t 3 K le sg).1 else .error (1 + 8 * tk_sk f L p + 0) := rfl
def c_k (f : Int → Int) (L t : Int) (m : Nat) (le sg : Int → Int) (B : List Int) : c_R → Except Int pz
  | .error e => .error e
  | .ok (p, c, l) => c_e f L t m p c (em t l (le, sg)).1 (em t l (le, sg)).2 B
theorem c_k_pre (f : Int → Int) (L t : Int) (m : Nat) (le sg : Int → Int) (B l : List Int) (r : c_R) : c_k f L t m le sg B (c_pre l r) = c_k f L t m (em t l (le, sg)).1 (em t l (le, sg)).2 B r := by
  rcases r with e | ⟨p, c, ls⟩
  · rfl
  · show c_e f L t m p c (em t (l ++ ls) (le, sg)).1 (em t (l ++ ls) (le, sg)).2 B = _
    rw [em_app]
    rfl
def c_j (f : Int → Int) (L t : Int) (m : Nat) (le sg : Int → Int) (K : List Int) : c_R → Except Int pz
  | .error e => .error e
  | .ok (p, c, l) => c_q f L t m p c (rs_set t 3 K (em t l (le, sg)).1 (em t l (le, sg)).2).2.1 (rs_set t 3 K (em t l (le, sg)).1 (em t l (le, sg)).2).2.2 (rs_set t 3 K (em t l (le, sg)).1 (em t l (le, sg)).2).1
theorem set_c {t least s : Int} {K : List Int} {le sg : Int → Int} : rs_set t least (s :: K) le sg = if least ≤ rs_str s then rs_set t least K (ab_up le t (le t + 1)) (ab_up sg (400 * t + le t) (s + 16 * 0)) else (s :: K, le, sg) := rfl
theorem dc_L (aa oo : Bool) (B : List Int) : dc (c_L aa oo ++ B) = dc B := by
  cases aa <;> cases oo <;> simp [c_L, dc]
def c_FS (f : Int → Int) (L t : Int) (k : Nat) : Prop := ∀ (p c : Int) (le sg : Int → Int) (K : List Int) (n m : Nat), dc K + k = 10 → 0 ≤ p → p ≤ L → L - p < n → L - p < m → rs_tst f L t n p c le sg K = c_j f L t m le sg K (c_fact f L k p c)
theorem tst_sim {f : Int → Int} {L t : Int} (hL : L ≤ 400) (k : Nat) (hF : c_FS f L t k) : ∀ (n0 : Nat) (p c : Int) (aa oo : Bool) (le sg : Int → Int) (B : List Int) (n m : Nat), (B = [] ∨ ∃ K0, B = 91 :: K0) → dc B + k = 10 → 0 ≤ p → p ≤ L → L - p < n0 → L - p < n → L - p < m → rs_tst f L t n p c le sg (c_L aa oo ++ B) = c_k f L t m le sg B (c_tst f L (c_fact f L k) n0 p c aa oo)
  | 0, _, _, _, _, _, _, _, _, _, _, _, _, h1, h2, _, _ => by omega
  | n0 + 1, p, c, aa, oo, le, sg, B, n, m, hB, hd, h0, h1, h2, h3, h4 => by
    rw [hF p c le sg (c_L aa oo ++ B) n m (by rw [dc_L]; exact hd) h0 h1 h3 h4]
    conv => rhs; unfold c_tst
    rcases hv : c_fact f L k p c with e | ⟨p1, c1, l1⟩
    · rfl
    · have hp := c_fact_p hL k p c p1 c1 l1 h0 h1 hv
      have hs := tk_sk_b f hp.2
      have hss := tk_sk_sk f L p1 hp.2
      dsimp only
      show c_q f L t m p1 c1 (rs_set t 3 (c_L aa oo ++ B) (em t l1 (le, sg)).1 (em t l1 (le, sg)).2).2.1 (rs_set t 3 (c_L aa oo ++ B) (em t l1 (le, sg)).1 (em t l1 (le, sg)).2).2.2 (rs_set t 3 (c_L aa oo ++ B) (em t l1 (le, sg)).1 (em t l1 (le, sg)).2).1 = _
      have e3 : ∀ le1 sg1 : Int → Int, rs_set t 3 (c_L aa oo ++ B) le1 sg1 = (c_L aa oo ++ B, le1, sg1) := by
        intro le1 sg1
        rcases hB with rfl | ⟨K0, rfl⟩ <;> cases aa <;> cases oo <;> rfl
      rw [e3]
      dsimp only
      -- what the stack gives up, by strength
      have e1 : ∀ le1 sg1 : Int → Int, rs_set t 1 (c_L aa oo ++ B) le1 sg1 = (B, (em t ((if aa then [12 + 16 * 0] else []) ++ (if oo then [13 + 16 * 0] else [])) (le1, sg1)).1, (em t ((if aa then [12 + 16 * 0] else []) ++ (if oo then [13 + 16 * 0] else [])) (le1, sg1)).2) := by
        intro le1 sg1
        rcases hB with rfl | ⟨K0, rfl⟩ <;> cases aa <;> cases oo <;> rfl
      have e2 : ∀ le1 sg1 : Int → Int, rs_set t 2 (c_L aa oo ++ B) le1 sg1 = ((if oo then [13] else []) ++ B, (em t (if aa then [12 + 16 * 0] else []) (le1, sg1)).1, (em t (if aa then [12 + 16 * 0] else []) (le1, sg1)).2) := by
        intro le1 sg1
        rcases hB with rfl | ⟨K0, rfl⟩ <;> cases aa <;> cases oo <;> rfl
      generalize ezl : em t l1 (le, sg) = z1
      by_cases hc : tk_ch f L (tk_sk f L p1) = 93 ∧ (91 : Int) ∈ c_L aa oo ++ B
      · have hK : ∃ K0, B = 91 :: K0 := by
          rcases hB with rfl | h
          · exfalso
            have := hc.2
            revert this
            cases aa <;> cases oo <;> simp [c_L]
          · exact h
        obtain ⟨K0, rfl⟩ := hK
        have hlt : tk_sk f L p1 < L := by
          rcases Int.lt_or_le (tk_sk f L p1) L with h | h
          · exact h
          · have e : tk_ch f L (tk_sk f L p1) = -1 := if_neg (by omega)
            rw [e] at hc; omega
        have nA : ¬ tk_isI f L (tk_sk f L p1) (Int64.ofInt 6385252) = 1 := fun z => by have := isI_ch z; omega
        have nO : ¬ tk_isI f L (tk_sk f L p1) (Int64.ofInt 28530) = 1 := fun z => by have := isI_ch z; omega
        rw [if_neg nA, if_neg nO]
        show _ = c_e f L t m (tk_sk f L p1) c1 (em t ((l1 ++ _) ++ _) (le, sg)).1 (em t ((l1 ++ _) ++ _) (le, sg)).2 (91 :: K0)
        rw [c_e_c, hss, if_pos hc.1, List.append_assoc, em_app, ezl]
        have ecl : rs_cl f L t 401 p1 z1.1 z1.2 (c_L aa oo ++ 91 :: K0) = rs_cl f L t 401 (tk_sk f L p1 + 1) (rs_set t 3 K0 (em t ((if aa then [12 + 16 * 0] else []) ++ (if oo then [13 + 16 * 0] else [])) z1).1 (em t ((if aa then [12 + 16 * 0] else []) ++ (if oo then [13 + 16 * 0] else [])) z1).2).2.1 (rs_set t 3 K0 (em t ((if aa then [12 + 16 * 0] else []) ++ (if oo then [13 + 16 * 0] else [])) z1).1 (em t ((if aa then [12 + 16 * 0] else []) ++ (if oo then [13 + 16 * 0] else [])) z1).2).2.2 (rs_set t 3 K0 (em t ((if aa then [12 + 16 * 0] else []) ++ (if oo then [13 + 16 * 0] else [])) z1).1 (em t ((if aa then [12 + 16 * 0] else []) ++ (if oo then [13 + 16 * 0] else [])) z1).2).1 := by
          rw [show (401 : Nat) = 400 + 1 from rfl]
          conv => lhs; unfold rs_cl
          rw [if_pos hc, e1]
          dsimp only [List.tail_cons]
          exact cl_fuel 400 (400 + 1) _ _ _ _ (by omega) (by omega) (by omega)
        unfold c_q
        rw [ecl]
      · have ecl : rs_cl f L t 401 p1 z1.1 z1.2 (c_L aa oo ++ B) = (tk_sk f L p1, z1.1, z1.2, c_L aa oo ++ B) := by
          rw [show (401 : Nat) = 400 + 1 from rfl]
          unfold rs_cl
          rw [if_neg hc]
        unfold c_q
        rw [ecl]
        dsimp only
        have hl := tk_le_b f hs.2
        by_cases hA : tk_isI f L (tk_sk f L p1) (Int64.ofInt 6385252) = 1
        · have hlt := tk_isI_p hA
          have eo : rs_op f L (tk_sk f L p1) = 12 := if_pos hA
          rw [if_pos (Or.inl hA), if_pos hA, eo, c_k_pre, em_app, ezl]
          have es : rs_str 12 = 2 := rfl
          rw [es, e2]
          dsimp only
          have eL : (12 : Int) :: ((if oo then [13] else []) ++ B) = c_L true oo ++ B := rfl
          rw [eL]
          exact tst_sim hL k hF n0 (tk_le f L (tk_sk f L p1)) c1 true oo _ _ B m m hB hd (by omega) hl.2 (by omega) (by omega) (by omega)
        · by_cases hO : tk_isI f L (tk_sk f L p1) (Int64.ofInt 28530) = 1
          · have hlt := tk_isI_p hO
            have eo : rs_op f L (tk_sk f L p1) = 13 := if_neg hA
            rw [if_pos (Or.inr hO), if_neg hA, if_pos hO, eo, c_k_pre, List.append_assoc, em_app, ezl]
            have es : rs_str 13 = 1 := rfl
            rw [es, e1]
            dsimp only
            have eL : (13 : Int) :: B = c_L false true ++ B := rfl
            rw [eL]
            exact tst_sim hL k hF n0 (tk_le f L (tk_sk f L p1)) c1 false true _ _ B m m hB hd (by omega) hl.2 (by omega) (by omega) (by omega)
          · rw [if_neg (fun z => z.elim hA hO), if_neg hA, if_neg hO]
            show _ = c_e f L t m (tk_sk f L p1) c1 (em t ((l1 ++ _) ++ _) (le, sg)).1 (em t ((l1 ++ _) ++ _) (le, sg)).2 B
            rw [List.append_assoc, em_app, ezl]
            rcases hB with rfl | ⟨K0, rfl⟩
            · have hn : ¬ (91 : Int) ∈ c_L aa oo ++ [] := by cases aa <;> cases oo <;> simp [c_L]
              rw [if_neg hn, e1]
              rfl
            · have hm : (91 : Int) ∈ c_L aa oo ++ 91 :: K0 := List.mem_append.mpr (Or.inr List.mem_cons_self)
              rw [if_pos hm]
              rw [c_e_c, hss, if_neg (fun z => hc ⟨z, hm⟩)]
theorem fact_sim {f : Int → Int} {L t : Int} (hL : L ≤ 400) : ∀ k : Nat, c_FS f L t k := by
  intro k
  induction k with
  | zero =>
    intro p c le sg K n m hd h0 h1 h2 h3
    have hs := tk_sk_b f h1
    obtain ⟨n', rfl⟩ : ∃ n', n = n' + 1 := ⟨n - 1, by omega⟩
    rw [tst_unf, show (11 : Nat) = 10 + 1 from rfl]
    have hd10 : dc K = 10 := by omega
    unfold rs_fact c_fact
    by_cases hN : tk_isI f L (tk_sk f L p) (Int64.ofInt 7237492) = 1
    · rw [if_pos hN, if_pos hd10, if_pos hN]; rfl
    · rw [if_neg hN, if_neg hN]
      by_cases hB : tk_ch f L (tk_sk f L p) = 91
      · rw [if_pos hB, if_pos hd10, if_pos hB]; rfl
      · rw [if_neg hB, if_neg hB, cmp_eq hL (by omega) hs.2]
        rcases hv : c_cmp f L (tk_sk f L p) c with e | ⟨p1, c1, l1⟩
        · rfl
        · have hp := c_cmp_p hL (by omega) hs.2 hv
          exact q_fuel n' m _ _ _ _ _ hp.2 (by omega) (by omega)
  | succ k ih =>
    intro p c le sg K n m hd h0 h1 h2 h3
    have hs := tk_sk_b f h1
    obtain ⟨n', rfl⟩ : ∃ n', n = n' + 1 := ⟨n - 1, by omega⟩
    have hd10 : ¬ dc K = 10 := by omega
    have d1 : dc (11 :: K) = dc K + 1 := by show dc K + (if (11 : Int) = 91 ∨ (11 : Int) = 11 then 1 else 0) = _; rw [if_pos (by decide)]
    have d2 : dc (91 :: K) = dc K + 1 := by show dc K + (if (91 : Int) = 91 ∨ (91 : Int) = 11 then 1 else 0) = _; rw [if_pos (by decide)]
    by_cases hN : tk_isI f L (tk_sk f L p) (Int64.ofInt 7237492) = 1
    · have hlt := tk_isI_p hN
      have hl := tk_le_b f hs.2
      have e1 : rs_tst f L t (n' + 1) p c le sg K = rs_tst f L t (n' + 1) (tk_le f L (tk_sk f L p)) c le sg (11 :: K) := by
        have hdk : 0 ≤ dc K := (dc_b K).1
        rw [tst_unf, tst_unf, fact_fuel 11 10 (tk_le f L (tk_sk f L p)) c le sg (11 :: K) (by omega) (by omega) (by omega), show (11 : Nat) = 10 + 1 from rfl]
        conv => lhs; unfold rs_fact
        rw [if_pos hN, if_neg hd10]
      rw [e1, ih (tk_le f L (tk_sk f L p)) c le sg (11 :: K) (n' + 1) m (by omega) (by omega) hl.2 (by omega) (by omega)]
      conv => rhs; unfold c_fact
      rw [if_pos hN]
      rcases c_fact f L k (tk_le f L (tk_sk f L p)) c with e | ⟨p1, c1, l1⟩
      · rfl
      · show c_q f L t m p1 c1 _ _ _ = c_q f L t m p1 c1 (rs_set t 3 K (em t (l1 ++ [11 + 16 * 0]) (le, sg)).1 (em t (l1 ++ [11 + 16 * 0]) (le, sg)).2).2.1 _ _
        rw [em_app, set_c, if_pos (by decide)]
        rfl
    · by_cases hB : tk_ch f L (tk_sk f L p) = 91
      · have hlt : tk_sk f L p < L := by
          rcases Int.lt_or_le (tk_sk f L p) L with h | h
          · exact h
          · have e : tk_ch f L (tk_sk f L p) = -1 := if_neg (by omega)
            rw [e] at hB; omega
        have e1 : rs_tst f L t (n' + 1) p c le sg K = rs_tst f L t (n' + 1) (tk_sk f L p + 1) c le sg (91 :: K) := by
          have hdk : 0 ≤ dc K := (dc_b K).1
          rw [tst_unf, tst_unf, fact_fuel 11 10 (tk_sk f L p + 1) c le sg (91 :: K) (by omega) (by omega) (by omega), show (11 : Nat) = 10 + 1 from rfl]
          conv => lhs; unfold rs_fact
          rw [if_neg hN, if_pos hB, if_neg hd10]
        have e2 := tst_sim hL k ih 401 (tk_sk f L p + 1) c false false le sg (91 :: K) (n' + 1) m (Or.inr ⟨K, rfl⟩) (by omega) (by omega) (by omega) (by omega) (by omega) (by omega)
        have e3 : c_L false false ++ 91 :: K = 91 :: K := rfl
        rw [e3] at e2
        rw [e1, e2]
        conv => rhs; unfold c_fact
        rw [if_neg hN, if_pos hB]
        rcases c_tst f L (c_fact f L k) 401 (tk_sk f L p + 1) c false false with e | ⟨p1, c1, l1⟩
        · rfl
        · show c_e f L t m p1 c1 _ _ (91 :: K) = c_j f L t m le sg K (if _ then _ else _)
          rw [c_e_c]
          split <;> rfl
      · rw [tst_unf, show (11 : Nat) = 10 + 1 from rfl]
        unfold rs_fact c_fact
        rw [if_neg hN, if_neg hB, if_neg hN, if_neg hB, cmp_eq hL (by omega) hs.2]
        rcases hv : c_cmp f L (tk_sk f L p) c with e | ⟨p1, c1, l1⟩
        · rfl
        · have hp := c_cmp_p hL (by omega) hs.2 hv
          exact q_fuel n' m _ _ _ _ _ hp.2 (by omega) (by omega)
/-- a TEST of its own: as the recursion reads it -/
theorem tst_eq {f : Int → Int} {L t p c : Int} {le sg : Int → Int} (hL : L ≤ 400) (h0 : 0 ≤ p) (h1 : p ≤ L) : rs_tst f L t 401 p c le sg [] = lf t le sg (c_tst f L (c_fact f L 10) 401 p c false false) := by
  have e := tst_sim hL 10 (fact_sim (f := f) (t := t) hL 10) 401 p c false false le sg [] 401 401 (Or.inl rfl) rfl h0 h1 (by omega) (by omega) (by omega)
  have e3 : c_L false false ++ [] = [] := rfl
  rw [e3] at e
  rw [e]
  rcases c_tst f L (c_fact f L 10) 401 p c false false with e | ⟨p1, c1, l1⟩ <;> rfl
