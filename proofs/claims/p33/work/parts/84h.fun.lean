/-! what the RuleReader does, as functions of the Tape's state -/
def a_w (x : Int) : Int := (Int32.ofInt x).toInt
theorem a_w_b (x : Int) : -2147483648 ≤ a_w x ∧ a_w x ≤ 2147483647 := ab_toin _
theorem k_wl_b (f : Int → Int) (s e : Int) : ∀ (l : List Int) (w m : Int), 0 ≤ w → -1 ≤ k_wl f s e l w m ∧ k_wl f s e l w m ≤ w + l.length
  | [], w, m, h => by unfold k_wl; constructor <;> (try simp only [List.length_nil]) <;> omega
  | b :: r, w, m, h => by
    have h1 := k_wl_b f s e r (w + 1) 0 (by omega)
    have h2 := k_wl_b f s e r w (-1) h
    have h3 := k_wl_b f s e r w (m + 1) h
    unfold k_wl
    simp only [List.length_cons]
    (repeat' split) <;> omega
theorem k_bs_b : ∀ K, K < g_ln.length → (k_bs K).length ≤ 2000 := by decide +kernel
theorem a_wd_b (f : Int → Int) {K : Nat} (L : Int) (G : a_S) (hK : K < g_ln.length) : -1 ≤ a_wd f K L G ∧ a_wd f K L G ≤ 2000 := by
  have h1 := k_wl_b f G.2.1 (tk_le f L G.2.1) (k_bs K) 0 0 (by omega)
  have h2 := k_bs_b K hK
  unfold a_wd k_wd
  split
  · split <;> omega
  · omega
def a_tim (s : Int) : Int := if s = 42 then -23 else if s = 47 then -24 else if s = 37 then -25 else 0
def a_add (s : Int) : Int := if s = 43 then -21 else if s = 45 then -22 else 0
def a_cmo (s : Int) : Int := if s = 60 then -26 else if s = 256 then -27 else if s = 61 then -28 else if s = 257 then -29 else if s = 62 then -30 else 0
def a_ct1 (G : a_S) : a_S := (G.1, G.2.1, a_w (G.2.2.1 + 1), G.2.2.2)
def a_cnt (G : a_S) : a_S := if 60 ≤ G.2.2.1 then a_ct1 (a_fail 3 G) else a_ct1 G
def a_oe (x : Int) (G : a_S) : a_S := if x = 0 then G else a_em x G
def a_oa (b x : Int) (G : a_S) : a_S := if b = 0 then G else a_em x G
section AF
variable (f : Int → Int) (K : Nat) (L : Int)
def a_chk (G : a_S) : a_S := if ¬ a_wd f K L G = -1 ∧ a_wd f K L G < 12 then a_cnt G else if ¬ a_sg f L G = -2 then a_cnt (a_fail 0 G) else if a_nb f L G = -1 then a_cnt (a_fail 1 G) else a_cnt G
def a_vl (G : a_S) : a_S := if a_wd f K L (a_chk f K L G) = -1 then a_em (a_nb f L (a_chk f K L G)) (a_chk f K L G) else a_em (-1 - a_wd f K L (a_chk f K L G)) (a_chk f K L G)
def a_h (G : a_S) : a_S := a_adv f L (a_vl f K L G)
def a_sl : Nat → Int → Int → a_S → a_S
  | 0, _, _, G => G
  | n + 1, tim, add, G => if a_tim (a_sg f L (a_h f K L G)) = 0 then (if a_add (a_sg f L (a_h f K L G)) = 0 then a_oe add (a_oe tim (a_h f K L G)) else a_sl n (a_tim (a_sg f L (a_h f K L G))) (a_add (a_sg f L (a_h f K L G))) (a_adv f L (a_oe add (a_oe tim (a_h f K L G))))) else a_sl n (a_tim (a_sg f L (a_h f K L G))) add (a_adv f L (a_oe tim (a_h f K L G)))
abbrev a_sum (G : a_S) : a_S := a_sl f K L 61 0 0 G
def a_cm1 (G : a_S) : a_S := if a_cmo (a_sg f L (a_sum f K L G)) = 0 then a_fail 0 (a_sum f K L G) else a_sum f K L G
def a_cmp (G : a_S) : a_S := a_em (a_cmo (a_sg f L (a_sum f K L G))) (a_sum f K L (a_adv f L (a_cnt (a_cm1 f K L G))))
def a_br (G : a_S) : a_S := if a_sg f L G = 93 then a_adv f L G else a_fail 0 G
def a_t2 (oo : Int) (G : a_S) : a_S := if oo = 0 then G else if a_wd f K L G = 15 then G else a_em (-32) G
def a_tst (F : a_S → a_S) : Nat → Int → Int → a_S → a_S
  | 0, _, _, G => G
  | n + 1, aa, oo, G => if a_wd f K L (F G) = 15 then a_tst F n 1 (if oo = 0 then 0 else 1) (a_adv f L (a_t2 f K L oo (a_oa aa (-31) (F G)))) else if a_wd f K L (F G) = 16 then a_tst F n 0 1 (a_adv f L (a_t2 f K L oo (a_oa aa (-31) (F G)))) else a_t2 f K L oo (a_oa aa (-31) (F G))
def a_fact : Nat → a_S → a_S
  | 0, G => if a_sg f L G = 91 then a_fail 2 G else if a_wd f K L G = 14 then a_fail 2 G else a_cmp f K L G
  | k + 1, G => if a_sg f L G = 91 then a_br f L (a_tst f K L (a_fact k) 61 0 0 (a_adv f L G)) else if a_wd f K L G = 14 then a_em (-33) (a_fact k (a_adv f L G)) else a_cmp f K L G
def a_cl1 (n : Nat) (G : a_S) : a_S := if a_wd f K L G = 12 then (if n = 0 then a_fail 4 G else G) else a_fail 0 G
def a_cl2 (G : a_S) : a_S := if a_wd f K L G = 13 then a_em (-35) (a_tst f K L (a_fact f K L 10) 61 0 0 (a_adv f L G)) else a_em (-34) G
def a_al : Nat → a_S → a_S
  | 0, G => G
  | n + 1, G => if a_sg f L (a_cl2 f K L (a_sum f K L (a_adv f L (a_cl1 f K L n G)))) = 59 then a_al n (a_adv f L (a_cl2 f K L (a_sum f K L (a_adv f L (a_cl1 f K L n G))))) else a_cl2 f K L (a_sum f K L (a_adv f L (a_cl1 f K L n G)))
def a_all (G : a_S) : a_S := if a_sg f L (a_al f K L 13 G) = -1 then a_al f K L 13 G else a_fail 0 (a_al f K L 13 G)
end AF
section AL
variable {f : Int → Int} {K : Nat} {L : Int} {G : a_S}
theorem a_em_1 {x : Int} : (a_em x G).1 = G.1 ∧ (a_em x G).2.1 = G.2.1 ∧ (a_em x G).2.2.1 = G.2.2.1 := by unfold a_em; split <;> exact ⟨rfl, rfl, rfl⟩
theorem a_em_sg {x : Int} : a_sg f L (a_em x G) = a_sg f L G := by unfold a_sg; rw [a_em_1.1, a_em_1.2.1]
theorem a_em_nb {x : Int} : a_nb f L (a_em x G) = a_nb f L G := by unfold a_nb; rw [a_em_1.1, a_em_1.2.1]
theorem a_em_wd {x : Int} : a_wd f K L (a_em x G) = a_wd f K L G := by unfold a_wd; rw [a_em_1.1, a_em_1.2.1]
theorem a_oe_sg {x : Int} : a_sg f L (a_oe x G) = a_sg f L G := by unfold a_oe; split; rfl; exact a_em_sg
theorem a_oe_nb {x : Int} : a_nb f L (a_oe x G) = a_nb f L G := by unfold a_oe; split; rfl; exact a_em_nb
theorem a_oe_wd {x : Int} : a_wd f K L (a_oe x G) = a_wd f K L G := by unfold a_oe; split; rfl; exact a_em_wd
theorem a_oa_sg {b x : Int} : a_sg f L (a_oa b x G) = a_sg f L G := by unfold a_oa; split; rfl; exact a_em_sg
theorem a_oa_wd {b x : Int} : a_wd f K L (a_oa b x G) = a_wd f K L G := by unfold a_oa; split; rfl; exact a_em_wd
theorem a_t2_sg {o : Int} : a_sg f L (a_t2 f K L o G) = a_sg f L G := by unfold a_t2; split; rfl; split; rfl; exact a_em_sg
theorem a_t2_wd {o : Int} : a_wd f K L (a_t2 f K L o G) = a_wd f K L G := by unfold a_t2; split; rfl; split; rfl; exact a_em_wd
theorem a_slA {i tim add : Int} (h0 : 0 ≤ i) (h1 : i ≤ 60) (h : ¬ a_tim (a_sg f L (a_h f K L G)) = 0) : a_sl f K L (61 - i).toNat tim add G = a_sl f K L (61 - (i + 1)).toNat (a_tim (a_sg f L (a_h f K L G))) add (a_adv f L (a_oe tim (a_h f K L G))) := by
  rw [show (61 - i).toNat = (61 - (i + 1)).toNat + 1 by omega]
  exact if_neg h
theorem a_slB {i tim add : Int} (h0 : 0 ≤ i) (h1 : i ≤ 60) (h : a_tim (a_sg f L (a_h f K L G)) = 0) (h2 : ¬ a_add (a_sg f L (a_h f K L G)) = 0) : a_sl f K L (61 - i).toNat tim add G = a_sl f K L (61 - (i + 1)).toNat (a_tim (a_sg f L (a_h f K L G))) (a_add (a_sg f L (a_h f K L G))) (a_adv f L (a_oe add (a_oe tim (a_h f K L G)))) := by
  rw [show (61 - i).toNat = (61 - (i + 1)).toNat + 1 by omega]
  exact (if_pos h).trans (if_neg h2)
theorem a_slC {i tim add : Int} (h0 : 0 ≤ i) (h1 : i ≤ 60) (h : a_tim (a_sg f L (a_h f K L G)) = 0) (h2 : a_add (a_sg f L (a_h f K L G)) = 0) : a_sl f K L (61 - i).toNat tim add G = a_oe add (a_oe tim (a_h f K L G)) := by
  rw [show (61 - i).toNat = (61 - (i + 1)).toNat + 1 by omega]
  exact (if_pos h).trans (if_pos h2)
theorem a_tsA {F : a_S → a_S} {i aa oo o : Int} (h0 : 0 ≤ i) (h1 : i ≤ 60) (h : a_wd f K L (F G) = 15) (ho : (oo = 0 ∧ o = 0) ∨ (¬ oo = 0 ∧ o = 1)) : a_tst f K L F (61 - i).toNat aa oo G = a_tst f K L F (61 - (i + 1)).toNat 1 o (a_adv f L (a_t2 f K L oo (a_oa aa (-31) (F G)))) := by
  rw [show (61 - i).toNat = (61 - (i + 1)).toNat + 1 by omega]
  have : o = (if oo = 0 then 0 else 1) := by split <;> omega
  rw [this]
  exact if_pos h
theorem a_tsB {F : a_S → a_S} {i aa oo : Int} (h0 : 0 ≤ i) (h1 : i ≤ 60) (h : a_wd f K L (F G) = 16) : a_tst f K L F (61 - i).toNat aa oo G = a_tst f K L F (61 - (i + 1)).toNat 0 1 (a_adv f L (a_t2 f K L oo (a_oa aa (-31) (F G)))) := by
  rw [show (61 - i).toNat = (61 - (i + 1)).toNat + 1 by omega]
  exact (if_neg (by omega)).trans (if_pos h)
theorem a_tsC {F : a_S → a_S} {i aa oo : Int} (h0 : 0 ≤ i) (h1 : i ≤ 60) (h : ¬ a_wd f K L (F G) = 15) (h2 : ¬ a_wd f K L (F G) = 16) : a_tst f K L F (61 - i).toNat aa oo G = a_t2 f K L oo (a_oa aa (-31) (F G)) := by
  rw [show (61 - i).toNat = (61 - (i + 1)).toNat + 1 by omega]
  exact (if_neg h).trans (if_neg h2)
theorem a_f1 {a : Int} (h : 10 ≤ a) (hs : a_sg f L G = 91 ∨ a_wd f K L G = 14) : a_fail 2 G = a_fact f K L (10 - a).toNat G := by
  rw [show (10 - a).toNat = 0 by omega]
  show _ = (if a_sg f L G = 91 then a_fail 2 G else if a_wd f K L G = 14 then a_fail 2 G else a_cmp f K L G)
  (repeat' split) <;> first | rfl | (exfalso; omega)
theorem a_f2 {a : Int} (hs : ¬ a_sg f L G = 91) (hw : ¬ a_wd f K L G = 14) : a_cmp f K L G = a_fact f K L (10 - a).toNat G := by
  rcases (10 - a).toNat with _ | k
  · show _ = (if a_sg f L G = 91 then a_fail 2 G else if a_wd f K L G = 14 then a_fail 2 G else a_cmp f K L G)
    rw [if_neg hs, if_neg hw]
  · show _ = (if a_sg f L G = 91 then a_br f L (a_tst f K L (a_fact f K L k) 61 0 0 (a_adv f L G)) else if a_wd f K L G = 14 then a_em (-33) (a_fact f K L k (a_adv f L G)) else a_cmp f K L G)
    rw [if_neg hs, if_neg hw]
theorem a_f3 {a : Int} (h : a < 10) (hs : a_sg f L G = 91) : a_br f L (a_tst f K L (a_fact f K L (10 - (a + 1)).toNat) 61 0 0 (a_adv f L G)) = a_fact f K L (10 - a).toNat G := by
  rw [show (10 - a).toNat = (10 - (a + 1)).toNat + 1 by omega]
  exact (if_pos hs).symm
theorem a_f4 {a : Int} (h : a < 10) (hs : ¬ a_sg f L G = 91) (hw : a_wd f K L G = 14) : a_em (-33) (a_fact f K L (10 - (a + 1)).toNat (a_adv f L G)) = a_fact f K L (10 - a).toNat G := by
  rw [show (10 - a).toNat = (10 - (a + 1)).toNat + 1 by omega]
  exact ((if_neg hs).trans (if_pos hw)).symm
theorem a_alA {i : Int} (h0 : 0 ≤ i) (h1 : i ≤ 12) (h : a_sg f L (a_cl2 f K L (a_sum f K L (a_adv f L (a_cl1 f K L (13 - (i + 1)).toNat G)))) = 59) : a_al f K L (13 - i).toNat G = a_al f K L (13 - (i + 1)).toNat (a_adv f L (a_cl2 f K L (a_sum f K L (a_adv f L (a_cl1 f K L (13 - (i + 1)).toNat G))))) := by
  rw [show (13 - i).toNat = (13 - (i + 1)).toNat + 1 by omega]
  exact if_pos h
theorem a_alB {i : Int} (h0 : 0 ≤ i) (h1 : i ≤ 12) (h : ¬ a_sg f L (a_cl2 f K L (a_sum f K L (a_adv f L (a_cl1 f K L (13 - (i + 1)).toNat G)))) = 59) : a_al f K L (13 - i).toNat G = a_cl2 f K L (a_sum f K L (a_adv f L (a_cl1 f K L (13 - (i + 1)).toNat G))) := by
  rw [show (13 - i).toNat = (13 - (i + 1)).toNat + 1 by omega]
  exact if_neg h
end AL
