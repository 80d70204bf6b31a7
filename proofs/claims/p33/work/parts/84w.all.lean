/-! a RING's whole text -/
def b_ct (f : Int → Int) (L i n : Int) (rd : Int → Int) : Except Int (Int → Int) := match rs_clause f L n i rd with
  | .error e => .error e
  | .ok (n2, rd2) => rs_go f L (40 - i).toNat n2 (i + 1) rd2
theorem b_ct_go {f : Int → Int} {L i n : Int} {rd : Int → Int} (h : 0 ≤ i) (h1 : i ≤ 39) : rs_go f L (40 - i).toNat n (i + 1) rd = if tk_ch f L (tk_sk f L n) = 59 then b_ct f L (i + 1) (tk_sk f L n + 1) rd else if tk_ch f L (tk_sk f L n) = -1 then .ok rd else .error (1 + 8 * tk_sk f L n + 0) := by
  rw [show (40 - i).toNat = (40 - (i + 1)).toNat + 1 by omega]
  rfl
theorem b_ct_er {f : Int → Int} {L i n e : Int} {rd : Int → Int} (h : rs_clause f L n i rd = .error e) : b_ct f L i n rd = .error e := by
  unfold b_ct
  rw [h]
theorem b_ct_ok {f : Int → Int} {L i n n2 : Int} {rd rd2 : Int → Int} (h : rs_clause f L n i rd = .ok (n2, rd2)) (h0 : 0 ≤ i) (h1 : i ≤ 39) : b_ct f L i n rd = if tk_ch f L (tk_sk f L n2) = 59 then b_ct f L (i + 1) (tk_sk f L n2 + 1) rd2 else if tk_ch f L (tk_sk f L n2) = -1 then .ok rd2 else .error (1 + 8 * tk_sk f L n2 + 0) := by
  rw [← b_ct_go h0 h1]
  conv => lhs; unfold b_ct
  rw [h]
/-- at the loop's head: more to come, or at the end; X what the whole text comes to -/
def b_lp (f : Int → Int) (L : Int) (tp : Nat) (c : Int × List Int) (o : Nat) (w : ab_W) (more i : Int) (X : Except Int (Int → Int)) : Prop := (more = 1 ∧ i ≤ 40 ∧ ∃ (n : Int) (rd : Int → Int), (0 ≤ n ∧ n ≤ L) ∧ a_T f 1 L tp w (0, tk_sk f L n, c) ∧ b_rel o rd w ∧ ((i = 0 ∧ rd 0 = 0) ∨ (1 ≤ i ∧ rd 0 = 1)) ∧ (0 ≤ rd 2 ∧ rd 2 ≤ 12) ∧ b_ct f L i n rd = X) ∨ (more = 0 ∧ ((∃ e p : Int, (1 ≤ e ∧ e ≤ 3205) ∧ a_T f 1 L tp w (e, p, c) ∧ X = .error e) ∨ ∃ (n : Int) (rd : Int → Int), (0 ≤ n ∧ n ≤ L) ∧ a_T f 1 L tp w (0, tk_sk f L n, c) ∧ b_rel o rd w ∧ rd 0 = 1 ∧ X = (if tk_ch f L (tk_sk f L n) = -1 then .ok rd else .error (1 + 8 * tk_sk f L n + 0))))
def b_ra (f : Int → Int) (L : Int) (tp : Nat) (c : Int × List Int) (o : Nat) (w : ab_W) (v : Int) : Except Int (Int → Int) → Prop
  | .error e => v = e ∧ (1 ≤ e ∧ e ≤ 3205)
  | .ok rd => v = 0 ∧ b_rel o rd w ∧ tm_g w o 0 = some (ab_I 1) ∧ rd 0 = 1
theorem sg_end {f : Int → Int} {L s : Int} (hfb : ∀ j, -128 ≤ f j ∧ f j ≤ 127) : k_sign f L s = -1 ↔ tk_ch f L s = -1 := by
  have hb := hfb s
  rcases k_cases f L s with k | k | k | k | k | k <;> constructor <;> intro z <;> omega
def b_ans : Except Int (Int → Int) → Int
  | .error e => -2 - e
  | .ok rd => rd 1
