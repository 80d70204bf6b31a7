/-! a RULE's text by recursive descent, and the reference's reading of it -/
abbrev c_R : Type := Except Int (Int × Int × List Int)
def em1 (t s : Int) (z : (Int → Int) × (Int → Int)) : (Int → Int) × (Int → Int) := (ab_up z.1 t (z.1 t + 1), ab_up z.2 (400 * t + z.1 t) s)
def em (t : Int) : List Int → (Int → Int) × (Int → Int) → (Int → Int) × (Int → Int)
  | [], z => z
  | s :: ls, z => em t ls (em1 t s z)
theorem em_app (t : Int) : ∀ (a b : List Int) (z : (Int → Int) × (Int → Int)), em t (a ++ b) z = em t b (em t a z)
  | [], _, _ => rfl
  | s :: a, b, z => em_app t a b (em1 t s z)
def emo (t o : Int) (z : (Int → Int) × (Int → Int)) : (Int → Int) × (Int → Int) := em t (if o = 0 then [] else [o]) z
def lf (t : Int) (le sg : Int → Int) : c_R → Except Int pz
  | .error e => .error e
  | .ok (p, c, ls) => .ok (p, c, (em t ls (le, sg)).1, (em t ls (le, sg)).2)
def c_pre (l : List Int) : c_R → c_R
  | .error e => .error e
  | .ok (p, c, ls) => .ok (p, c, l ++ ls)
theorem lf_pre (t : Int) (le sg : Int → Int) (l : List Int) (r : c_R) : lf t le sg (c_pre l r) = lf t (em t l (le, sg)).1 (em t l (le, sg)).2 r := by
  rcases r with e | ⟨p, c, ls⟩
  · rfl
  · show Except.ok (p, c, (em t (l ++ ls) (le, sg)).1, (em t (l ++ ls) (le, sg)).2) = _
    rw [em_app]
    rfl
section CP
variable (f : Int → Int) (L : Int)
def c_val (p c : Int) : c_R := if tk_dg f L (tk_sk f L p) = true then (match rs_num f L 0 99999 (tk_sk f L p) with
    | .error e => .error e
    | .ok (n1, v) => if c = 60 then .error (1 + 8 * tk_sk f L p + 3) else .ok (n1, c + 1, [0 + 16 * v]))
  else if rs_word f L (tk_sk f L p) < 0 then .error (1 + 8 * tk_sk f L p + 0)
  else if c = 60 then .error (1 + 8 * tk_sk f L p + 3) else .ok (tk_le f L (tk_sk f L p), c + 1, [1 + 16 * rs_word f L (tk_sk f L p)])
def c_sl : Nat → Int → Int → Int → Int → c_R
  | 0, _, _, _, _ => .error 0
  | n + 1, p, c, tim, add => match c_val f L p c with
    | .error e => .error e
    | .ok (p1, c1, l1) =>
      if tk_ch f L (tk_sk f L p1) = 42 ∨ tk_ch f L (tk_sk f L p1) = 47 ∨ tk_ch f L (tk_sk f L p1) = 37 then c_pre (l1 ++ (if tim = 0 then [] else [tim])) (c_sl n (tk_sk f L p1 + 1) c1 (rs_top (f (tk_sk f L p1)) + 16 * 0) add)
      else if tk_ch f L (tk_sk f L p1) = 43 ∨ tk_ch f L (tk_sk f L p1) = 45 then c_pre ((l1 ++ (if tim = 0 then [] else [tim])) ++ (if add = 0 then [] else [add])) (c_sl n (tk_sk f L p1 + 1) c1 0 (rs_sop (f (tk_sk f L p1)) + 16 * 0))
      else .ok (tk_sk f L p1, c1, (l1 ++ (if tim = 0 then [] else [tim])) ++ (if add = 0 then [] else [add]))
def c_sum (p c : Int) : c_R := c_sl f L 401 p c 0 0
def c_cmp (p c : Int) : c_R := match c_sum f L p c with
  | .error e => .error e
  | .ok (p1, c1, l1) => if tk_ch f L (tk_sk f L p1) = 60 ∨ tk_ch f L (tk_sk f L p1) = 61 ∨ tk_ch f L (tk_sk f L p1) = 62 then (if c1 = 60 then .error (1 + 8 * tk_sk f L p1 + 3) else match c_sum f L (tk_sk f L p1 + 1 + rs_also f L (tk_sk f L p1)) (c1 + 1) with
      | .error e => .error e
      | .ok (p2, c2, l2) => .ok (p2, c2, l1 ++ (l2 ++ [6 + rs_cs (tk_ch f L (tk_sk f L p1)) (rs_also f L (tk_sk f L p1)) + 16 * 0]))) else .error (1 + 8 * tk_sk f L p1 + 0)
def c_tst (F : Int → Int → c_R) : Nat → Int → Int → Bool → Bool → c_R
  | 0, _, _, _, _ => .error 0
  | n + 1, p, c, aa, oo => match F p c with
    | .error e => .error e
    | .ok (p1, c1, l1) =>
      if tk_isI f L (tk_sk f L p1) (Int64.ofInt 6385252) = 1 then c_pre (l1 ++ (if aa then [12 + 16 * 0] else [])) (c_tst F n (tk_le f L (tk_sk f L p1)) c1 true oo)
      else if tk_isI f L (tk_sk f L p1) (Int64.ofInt 28530) = 1 then c_pre ((l1 ++ (if aa then [12 + 16 * 0] else [])) ++ (if oo then [13 + 16 * 0] else [])) (c_tst F n (tk_le f L (tk_sk f L p1)) c1 false true)
      else .ok (tk_sk f L p1, c1, (l1 ++ (if aa then [12 + 16 * 0] else [])) ++ (if oo then [13 + 16 * 0] else []))
def c_br (r : c_R) : c_R := match r with
  | .error e => .error e
  | .ok (p1, c1, l) => if tk_ch f L (tk_sk f L p1) = 93 then .ok (tk_sk f L p1 + 1, c1, l) else .error (1 + 8 * tk_sk f L p1 + 0)
def c_nt (r : c_R) : c_R := match r with
  | .error e => .error e
  | .ok (p1, c1, l) => .ok (p1, c1, l ++ [11 + 16 * 0])
def c_fact : Nat → Int → Int → c_R
  | 0, p, c => if tk_isI f L (tk_sk f L p) (Int64.ofInt 7237492) = 1 then .error (1 + 8 * tk_sk f L p + 2) else if tk_ch f L (tk_sk f L p) = 91 then .error (1 + 8 * tk_sk f L p + 2) else c_cmp f L (tk_sk f L p) c
  | k + 1, p, c => if tk_isI f L (tk_sk f L p) (Int64.ofInt 7237492) = 1 then c_nt (c_fact k (tk_le f L (tk_sk f L p)) c) else if tk_ch f L (tk_sk f L p) = 91 then c_br f L (c_tst f L (c_fact k) 401 (tk_sk f L p + 1) c false false) else c_cmp f L (tk_sk f L p) c
end CP
theorem val_eq (f : Int → Int) (L t p c : Int) (le sg : Int → Int) : rs_val f L t p c le sg = lf t le sg (c_val f L p c) := by
  unfold rs_val c_val
  split
  · rcases rs_num f L 0 99999 (tk_sk f L p) with e | ⟨n1, v⟩
    · rfl
    · dsimp only
      split <;> rfl
  · split
    · rfl
    · split <;> rfl
theorem tl_fuel {f : Int → Int} {L t : Int} : ∀ (n m : Nat) (p c : Int) (le sg : Int → Int), p ≤ L → L - p < n → L - p < m → rs_tl f L t n p c le sg = rs_tl f L t m p c le sg
  | 0, _, _, _, _, _, h1, h2, _ => by omega
  | _ + 1, 0, _, _, _, _, h1, _, h3 => by omega
  | n + 1, m + 1, p, c, le, sg, h1, h2, h3 => by
    have hs := tk_sk_b f h1
    unfold rs_tl
    split
    · rename_i hc
      have hlt : tk_sk f L p < L := by
        rcases Int.lt_or_le (tk_sk f L p) L with h | h
        · exact h
        · have e : tk_ch f L (tk_sk f L p) = -1 := if_neg (by omega)
          rw [e] at hc; omega
      rcases hv : rs_val f L t (tk_sk f L p + 1) c le sg with e | ⟨n1, mk1, le1, sg1⟩
      · rfl
      · have hp := rs_val_p (by omega) hv
        dsimp only at hp
        exact tl_fuel n m n1 mk1 _ _ (by omega) (by omega) (by omega)
    · rfl
theorem sl_fuel {f : Int → Int} {L t : Int} : ∀ (n m : Nat) (p c : Int) (le sg : Int → Int), p ≤ L → L - p < n → L - p < m → rs_sl f L t n p c le sg = rs_sl f L t m p c le sg
  | 0, _, _, _, _, _, h1, h2, _ => by omega
  | _ + 1, 0, _, _, _, _, h1, _, h3 => by omega
  | n + 1, m + 1, p, c, le, sg, h1, h2, h3 => by
    have hs := tk_sk_b f h1
    unfold rs_sl
    split
    · rename_i hc
      have hlt : tk_sk f L p < L := by
        rcases Int.lt_or_le (tk_sk f L p) L with h | h
        · exact h
        · have e : tk_ch f L (tk_sk f L p) = -1 := if_neg (by omega)
          rw [e] at hc; omega
      rcases hv : rs_term f L t (tk_sk f L p + 1) c le sg with e | ⟨n1, mk1, le1, sg1⟩
      · rfl
      · have hp := rs_term_p (by omega) hv
        dsimp only at hp
        exact sl_fuel n m n1 mk1 _ _ (by omega) (by omega) (by omega)
    · rfl
theorem rs_top_nz (b : Int) : ¬ rs_top b + 16 * 0 = 0 := by unfold rs_top; split <;> (try split) <;> omega
theorem rs_sop_nz (b : Int) : ¬ rs_sop b + 16 * 0 = 0 := by unfold rs_sop; split <;> omega
theorem sl_eq {f : Int → Int} {L t : Int} (hL : L ≤ 400) : ∀ (n : Nat) (p c tim add : Int) (le sg : Int → Int), 0 ≤ p → p ≤ L → L - p < n → lf t le sg (c_sl f L n p c tim add) = (match rs_val f L t p c le sg with
    | .error e => .error e
    | .ok (n1, mk1, le1, sg1) => match rs_tl f L t 401 n1 mk1 (emo t tim (le1, sg1)).1 (emo t tim (le1, sg1)).2 with
      | .error e => .error e
      | .ok (n2, mk2, le2, sg2) => rs_sl f L t 401 n2 mk2 (emo t add (le2, sg2)).1 (emo t add (le2, sg2)).2)
  | 0, _, _, _, _, _, _, _, _, h => by omega
  | n + 1, p, c, tim, add, le, sg, h0, h1, h2 => by
    have hvp := fun z => rs_val_p (tape := f) (taped := L) (t := t) (nx := p) (mk := c) (le := le) (sg := sg) (z := z) h1
    rw [val_eq] at hvp ⊢
    unfold c_sl
    rcases hv : c_val f L p c with e | ⟨p1, c1, l1⟩
    · rfl
    · rw [hv] at hvp
      have hp1 := hvp _ rfl
      dsimp only at hp1
      have hs := tk_sk_b f hp1.2
      show lf t le sg (if _ then _ else if _ then _ else _) = (match rs_tl f L t 401 p1 c1 (emo t tim ((em t l1 (le, sg)).1, (em t l1 (le, sg)).2)).1 (emo t tim ((em t l1 (le, sg)).1, (em t l1 (le, sg)).2)).2 with
        | .error e => .error e
        | .ok (n2, mk2, le2, sg2) => rs_sl f L t 401 n2 mk2 (emo t add (le2, sg2)).1 (emo t add (le2, sg2)).2)
      have ez : emo t tim ((em t l1 (le, sg)).1, (em t l1 (le, sg)).2) = em t (l1 ++ (if tim = 0 then [] else [tim])) (le, sg) := by
        unfold emo
        rw [em_app]
      rw [ez]
      generalize l1 ++ (if tim = 0 then [] else [tim]) = l2
      by_cases hc : tk_ch f L (tk_sk f L p1) = 42 ∨ tk_ch f L (tk_sk f L p1) = 47 ∨ tk_ch f L (tk_sk f L p1) = 37
      · have hlt : tk_sk f L p1 < L := by
          rcases Int.lt_or_le (tk_sk f L p1) L with h | h
          · exact h
          · have e : tk_ch f L (tk_sk f L p1) = -1 := if_neg (by omega)
            rw [e] at hc; omega
        rw [if_pos hc, lf_pre, sl_eq hL n (tk_sk f L p1 + 1) c1 _ add _ _ (by omega) (by omega) (by omega)]
        rw [show (401 : Nat) = 400 + 1 from rfl]
        conv => rhs; unfold rs_tl
        rw [if_pos hc]
        rcases hv2 : rs_val f L t (tk_sk f L p1 + 1) c1 (em t l2 (le, sg)).1 (em t l2 (le, sg)).2 with e | ⟨n1, mk1, le1, sg1⟩
        · rfl
        · have hp2 := rs_val_p (by omega) hv2
          dsimp only at hp2 ⊢
          have ee : emo t (rs_top (f (tk_sk f L p1)) + 16 * 0) (le1, sg1) = (ab_up le1 t (le1 t + 1), ab_up sg1 (400 * t + le1 t) (rs_top (f (tk_sk f L p1)) + 16 * 0)) := by
            unfold emo
            rw [if_neg (rs_top_nz _)]
            rfl
          rw [ee, tl_fuel (400 + 1) 400 n1 mk1 _ _ (by omega) (by omega) (by omega)]
      · rw [if_neg hc]
        have etl : rs_tl f L t 401 p1 c1 (em t l2 (le, sg)).1 (em t l2 (le, sg)).2 = .ok (tk_sk f L p1, c1, (em t l2 (le, sg)).1, (em t l2 (le, sg)).2) := by
          rw [show (401 : Nat) = 400 + 1 from rfl]
          unfold rs_tl
          rw [if_neg hc]
        rw [etl]
        dsimp only
        have ez2 : emo t add ((em t l2 (le, sg)).1, (em t l2 (le, sg)).2) = em t (l2 ++ (if add = 0 then [] else [add])) (le, sg) := by
          unfold emo
          rw [em_app]
        rw [ez2]
        generalize l2 ++ (if add = 0 then [] else [add]) = l3
        have hss : tk_sk f L (tk_sk f L p1) = tk_sk f L p1 := tk_sk_sk f L p1 hp1.2
        rw [show (401 : Nat) = 400 + 1 from rfl]
        conv => rhs; unfold rs_sl
        rw [hss]
        by_cases ha : tk_ch f L (tk_sk f L p1) = 43 ∨ tk_ch f L (tk_sk f L p1) = 45
        · have hlt : tk_sk f L p1 < L := by
            rcases Int.lt_or_le (tk_sk f L p1) L with h | h
            · exact h
            · have e : tk_ch f L (tk_sk f L p1) = -1 := if_neg (by omega)
              rw [e] at ha; omega
          rw [if_pos ha, if_pos ha, lf_pre, sl_eq hL n (tk_sk f L p1 + 1) c1 0 _ _ _ (by omega) (by omega) (by omega)]
          unfold rs_term
          rcases hv2 : rs_val f L t (tk_sk f L p1 + 1) c1 (em t l3 (le, sg)).1 (em t l3 (le, sg)).2 with e | ⟨n1, mk1, le1, sg1⟩
          · rfl
          · have hp2 := rs_val_p (by omega) hv2
            dsimp only at hp2 ⊢
            have e0 : emo t 0 (le1, sg1) = (le1, sg1) := rfl
            rw [e0]
            rcases hv3 : rs_tl f L t 401 n1 mk1 le1 sg1 with e | ⟨n2, mk2, le2, sg2⟩
            · rfl
            · have hp3 := rs_tl_p 401 hp2.2 hv3
              dsimp only at hp3 ⊢
              have ee : emo t (rs_sop (f (tk_sk f L p1)) + 16 * 0) (le2, sg2) = (ab_up le2 t (le2 t + 1), ab_up sg2 (400 * t + le2 t) (rs_sop (f (tk_sk f L p1)) + 16 * 0)) := by
                unfold emo
                rw [if_neg (rs_sop_nz _)]
                rfl
              rw [ee, sl_fuel 401 400 n2 mk2 _ _ (by omega) (by omega) (by omega)]
        · rw [if_neg ha, if_neg ha]
          rfl
theorem sum_eq {f : Int → Int} {L t p c : Int} {le sg : Int → Int} (hL : L ≤ 400) (h0 : 0 ≤ p) (h1 : p ≤ L) : rs_sum f L t p c le sg = lf t le sg (c_sum f L p c) := by
  unfold c_sum
  rw [sl_eq hL 401 p c 0 0 le sg h0 h1 (by omega)]
  unfold rs_sum rs_term
  rcases rs_val f L t p c le sg with e | ⟨n1, mk1, le1, sg1⟩
  · rfl
  · dsimp only
    have e0 : emo t 0 (le1, sg1) = (le1, sg1) := rfl
    rw [e0]
    rcases rs_tl f L t 401 n1 mk1 le1 sg1 with e | ⟨n2, mk2, le2, sg2⟩
    · rfl
    · dsimp only
      have e0 : emo t 0 (le2, sg2) = (le2, sg2) := rfl
      rw [e0]
theorem cmp_eq {f : Int → Int} {L t p c : Int} {le sg : Int → Int} (hL : L ≤ 400) (h0 : 0 ≤ p) (h1 : p ≤ L) : rs_cmp f L t p c le sg = lf t le sg (c_cmp f L p c) := by
  have hsp := fun z => rs_sum_p (tape := f) (taped := L) (t := t) (nx := p) (md := c) (le := le) (sg := sg) (z := z) h1
  unfold rs_cmp c_cmp
  rw [sum_eq hL h0 h1] at hsp ⊢
  rcases hv : c_sum f L p c with e | ⟨p1, c1, l1⟩
  · rfl
  · rw [hv] at hsp
    have hp1 := hsp _ rfl
    dsimp only at hp1
    have hs := tk_sk_b f hp1.2
    show (if _ then _ else _) = lf t le sg (if _ then _ else _)
    by_cases hc : tk_ch f L (tk_sk f L p1) = 60 ∨ tk_ch f L (tk_sk f L p1) = 61 ∨ tk_ch f L (tk_sk f L p1) = 62
    · have hlt : tk_sk f L p1 < L := by
        rcases Int.lt_or_le (tk_sk f L p1) L with h | h
        · exact h
        · have e : tk_ch f L (tk_sk f L p1) = -1 := if_neg (by omega)
          rw [e] at hc; omega
      have hal : 0 ≤ rs_also f L (tk_sk f L p1) ∧ tk_sk f L p1 + 1 + rs_also f L (tk_sk f L p1) ≤ L := by
        unfold rs_also
        split <;> omega
      rw [if_pos hc, if_pos hc]
      unfold rs_c2
      by_cases h60 : c1 = 60
      · rw [if_pos h60, if_pos h60]
        rfl
      · rw [if_neg h60, if_neg h60]
        unfold rs_c3
        rw [sum_eq hL (by omega) hal.2]
        rcases c_sum f L (tk_sk f L p1 + 1 + rs_also f L (tk_sk f L p1)) (c1 + 1) with e | ⟨p2, c2, l2⟩
        · rfl
        · show Except.ok _ = Except.ok (p2, c2, (em t (l1 ++ (l2 ++ _)) (le, sg)).1, (em t (l1 ++ (l2 ++ _)) (le, sg)).2)
          rw [em_app, em_app]
          rfl
    · rw [if_neg hc, if_neg hc]
      rfl
