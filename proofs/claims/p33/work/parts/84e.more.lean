theorem tx_fb {N : Nat} {T : Nat → tm_S} {w : ab_W} {tp : Nat} {f : Int → Int} (hW : tm_W N T w) (hS : T (tp + 1) = tm_ai 1 400 (-128) 127) (hf : ∀ j, tm_g w (tp + 1) j = some (ab_I (f j))) : ∀ j, -128 ≤ f j ∧ f j ≤ 127 := by
  intro j
  obtain ⟨a, e, h0, h1⟩ := tm_peekA (K := j) hW hS
  rw [hf j] at e
  injection e with e
  injection e with e
  omega
def k_at (K : Nat) (i : Int) : Int := ((g_by.getD K []).getD i.toNat 0).toInt
theorem k_at_b {K : Nat} {i : Int} (hK : K < g_ln.length) (h0 : 0 ≤ i) (h1 : i < ((g_ln.getD K 0 : Nat) : Int)) : 32 ≤ k_at K i ∧ k_at K i ≤ 122 := (sb_all K hK).2 i.toNat (by omega)
theorem k_bs_len : ∀ K, K < g_ln.length → (k_bs K).length = g_ln.getD K 0 := by decide +kernel
theorem k_drop {K : Nat} {i : Int} (hK : K < g_ln.length) (h0 : 0 ≤ i) (h1 : i < ((g_ln.getD K 0 : Nat) : Int)) : (k_bs K).drop i.toNat = k_at K i :: (k_bs K).drop (i + 1).toNat := by
  have hl := k_bs_len K hK
  have hlt : i.toNat < (k_bs K).length := by omega
  rw [List.drop_eq_getElem_cons hlt, show (i + 1).toNat = i.toNat + 1 by omega]
  have h2 : i.toNat < (g_by.getD K []).length := by
    have : (k_bs K).length = (g_by.getD K []).length := List.length_map ..
    omega
  have hq : (k_bs K)[i.toNat]? = some (k_at K i) := by
    unfold k_bs k_at
    generalize g_by.getD K [] = bl at h2 ⊢
    rw [List.getElem?_map, List.getD_eq_getElem?_getD, List.getElem?_eq_getElem h2]
    rfl
  rw [List.getElem?_eq_getElem hlt] at hq
  rw [Option.some.inj hq]
theorem k_dropE {K : Nat} {i : Int} (hK : K < g_ln.length) (h1 : ((g_ln.getD K 0 : Nat) : Int) ≤ i) : (k_bs K).drop i.toNat = [] := by
  have hl := k_bs_len K hK
  exact List.drop_eq_nil_of_le (by omega)
/-- a step along the words -/
theorem k_wl_bl {f : Int → Int} {s e which same : Int} {r : List Int} : k_wl f s e (32 :: r) which same = k_wl f s e r (which + 1) 0 := by
  unfold k_wl; rw [if_pos rfl]; cases r <;> rfl
theorem k_wl_no {f : Int → Int} {s e which same b : Int} {r : List Int} (hb : ¬ b = 32) (h : ¬ (0 ≤ same ∧ s + same < e ∧ f (s + same) = b)) : k_wl f s e (b :: r) which same = k_wl f s e r which (-1) := by
  conv => lhs; unfold k_wl
  rw [if_neg hb, if_neg h]
theorem k_wl_yes {f : Int → Int} {s e which same b : Int} {r : List Int} (hb : ¬ b = 32) (h : 0 ≤ same ∧ s + same < e ∧ f (s + same) = b) (hl : (r = [] ∨ r.head? = some 32) ∧ s + same + 1 = e) : k_wl f s e (b :: r) which same = which := by
  conv => lhs; unfold k_wl
  rw [if_neg hb, if_pos h, if_pos hl]
theorem k_wl_on {f : Int → Int} {s e which same b : Int} {r : List Int} (hb : ¬ b = 32) (h : 0 ≤ same ∧ s + same < e ∧ f (s + same) = b) (hl : ¬ ((r = [] ∨ r.head? = some 32) ∧ s + same + 1 = e)) : k_wl f s e (b :: r) which same = k_wl f s e r which (same + 1) := by
  conv => lhs; unfold k_wl
  rw [if_neg hb, if_pos h, if_neg hl]
theorem k_last {K : Nat} {i : Int} (hK : K < g_ln.length) (h0 : 0 ≤ i) (h1 : i < ((g_ln.getD K 0 : Nat) : Int)) : ((k_bs K).drop (i + 1).toNat = [] ∨ ((k_bs K).drop (i + 1).toNat).head? = some 32) ↔ (i + 1 = ((g_ln.getD K 0 : Nat) : Int) ∨ (i + 1 < ((g_ln.getD K 0 : Nat) : Int) ∧ k_at K (i + 1) = 32)) := by
  rcases Int.lt_or_le (i + 1) ((g_ln.getD K 0 : Nat) : Int) with h | h
  · rw [k_drop hK (by omega) h]
    constructor
    · rintro (e | e)
      · cases e
      · exact Or.inr ⟨h, Option.some.inj e⟩
    · rintro (e | ⟨-, e⟩)
      · omega
      · exact Or.inr (congrArg some e)
  · rw [k_dropE hK h]
    constructor
    · intro _; exact Or.inl (by omega)
    · intro _; exact Or.inl rfl
theorem kk_0 {f : Int → Int} {L s : Int} (h : L ≤ s) : k_kind f L s = 0 := if_pos h
theorem kk_1 {f : Int → Int} {L s : Int} (h : s < L) (h1 : 48 ≤ f s ∧ f s ≤ 57) : k_kind f L s = 1 := by
  unfold k_kind; rw [if_neg (by omega), if_pos h1]
theorem kk_2 {f : Int → Int} {L s : Int} (h : s < L) (h2 : 97 ≤ f s ∧ f s ≤ 122) : k_kind f L s = 2 := by
  unfold k_kind; rw [if_neg (by omega), if_neg (by omega), if_pos h2]
theorem kk_3 {f : Int → Int} {L s : Int} (h : s + 1 < L ∧ f (s + 1) = 61 ∧ (f s = 60 ∨ f s = 62)) : k_kind f L s = 3 := by
  unfold k_kind; rw [if_neg (by omega), if_neg (by omega), if_neg (by omega), if_pos h]
theorem kk_4 {f : Int → Int} {L s : Int} (h : s < L) (h1 : ¬ (48 ≤ f s ∧ f s ≤ 57)) (h2 : ¬ (97 ≤ f s ∧ f s ≤ 122)) (h3 : ¬ (s + 1 < L ∧ f (s + 1) = 61 ∧ (f s = 60 ∨ f s = 62))) : k_kind f L s = 4 := by
  unfold k_kind; rw [if_neg (by omega), if_neg h1, if_neg h2, if_neg h3]
theorem tap_fr {tp wd wd2 : Nat} {f f2 : Int → Int} {L a e s sg nu wo L2 a2 e2 s2 sg2 nu2 wo2 : Int} {w w2 : ab_W} (h : tap tp f L a wd e s sg nu wo w) (h2 : tap tp f2 L2 a2 wd2 e2 s2 sg2 nu2 wo2 w2) (j : Int) : (j = 1 → L2 = L) → (j = 2 → a2 = a) → (j = 3 → wd2 = wd) → (j = 4 → e2 = e) → (j = 5 → s2 = s) → (j = 6 → sg2 = sg) → (j = 7 → nu2 = nu) → (j = 8 → wo2 = wo) → tm_g w2 tp j = tm_g w tp j := by
  intro q1 q2 q3 q4 q5 q6 q7 q8
  unfold tm_g
  rw [h.1, h2.1]
  show (if 0 ≤ j then ([ab_R (tp + 1), ab_I L2, ab_I a2, ab_R wd2, ab_I e2, ab_I s2, ab_I sg2, ab_I nu2, ab_I wo2] : List ab_V)[j.toNat]? else none) = (if 0 ≤ j then ([ab_R (tp + 1), ab_I L, ab_I a, ab_R wd, ab_I e, ab_I s, ab_I sg, ab_I nu, ab_I wo] : List ab_V)[j.toNat]? else none)
  by_cases h0 : 0 ≤ j
  · rw [if_pos h0, if_pos h0]
    rcases (by omega : j = 0 ∨ j = 1 ∨ j = 2 ∨ j = 3 ∨ j = 4 ∨ j = 5 ∨ j = 6 ∨ j = 7 ∨ j = 8 ∨ 9 ≤ j) with rfl | rfl | rfl | rfl | rfl | rfl | rfl | rfl | rfl | h9
    · rfl
    · rw [q1 rfl]; rfl
    · rw [q2 rfl]; rfl
    · rw [q3 rfl]; rfl
    · rw [q4 rfl]; rfl
    · rw [q5 rfl]; rfl
    · rw [q6 rfl]; rfl
    · rw [q7 rfl]; rfl
    · rw [q8 rfl]; rfl
    · rw [List.getElem?_eq_none (by show 9 ≤ j.toNat; omega), List.getElem?_eq_none (by show 9 ≤ j.toNat; omega)]
  · rw [if_neg h0, if_neg h0]
theorem k_le_fin {f : Int → Int} {L t e : Int} (h : tk_le f L t = e) (hx : L ≤ t ∨ ¬ (97 ≤ f t ∧ f t ≤ 122)) : t = e := by
  have e1 : tk_le f L t = t := tk_to_e (decide_eq_false (by omega))
  omega
theorem k_sk0 {f : Int → Int} {L i : Int} (h : L ≤ i ∨ ¬ f i = 32) : tk_sk f L i = i := tk_to_e (decide_eq_false (by omega))
theorem k_f0 {f : Int → Int} {L s : Int} {K : Nat} (h : L ≤ s) : s = k_end f L s ∧ -1 = k_sign f L s ∧ -1 = k_num f L s ∧ -1 = k_wd K f L s := by
  have hk := kk_0 (f := f) h
  unfold k_end k_sign k_num k_wd
  rw [hk]
  exact ⟨rfl, rfl, rfl, rfl⟩
theorem k_f1 {f : Int → Int} {L s a n : Int} {K : Nat} (h : s < L) (h1 : 48 ≤ f s ∧ f s ≤ 57) (ha : a = tk_de f L s) (hn : n = ct_num f L s) : a = k_end f L s ∧ -2 = k_sign f L s ∧ n = k_num f L s ∧ -1 = k_wd K f L s := by
  have hk := kk_1 h h1
  unfold k_end k_sign k_num k_wd
  rw [hk]
  exact ⟨ha, rfl, hn, rfl⟩
theorem k_f2 {f : Int → Int} {L s a n : Int} {K : Nat} (h : s < L) (h1 : 97 ≤ f s ∧ f s ≤ 122) (ha : a = tk_le f L s) (hn : n = k_wl f s (tk_le f L s) (k_bs K) 0 0) : a = k_end f L s ∧ -3 = k_sign f L s ∧ -1 = k_num f L s ∧ n = k_wd K f L s := by
  have hk := kk_2 h h1
  unfold k_end k_sign k_num k_wd
  rw [hk]
  exact ⟨ha, rfl, rfl, hn⟩
theorem k_f4 {f : Int → Int} {L s a n : Int} {K : Nat} (h : s < L) (h1 : ¬ (48 ≤ f s ∧ f s ≤ 57)) (h2 : ¬ (97 ≤ f s ∧ f s ≤ 122)) (ha : a = (if s + 1 < L ∧ f (s + 1) = 61 ∧ (f s = 60 ∨ f s = 62) then s + 2 else s + 1)) (hn : n = (if s + 1 < L ∧ f (s + 1) = 61 ∧ (f s = 60 ∨ f s = 62) then (if f s = 60 then 256 else 257) else f s % 256)) : a = k_end f L s ∧ n = k_sign f L s ∧ -1 = k_num f L s ∧ -1 = k_wd K f L s := by
  by_cases h3 : s + 1 < L ∧ f (s + 1) = 61 ∧ (f s = 60 ∨ f s = 62)
  · rw [if_pos h3] at ha hn
    have hk := kk_3 h3
    unfold k_end k_sign k_num k_wd
    rw [hk]
    exact ⟨ha, hn, rfl, rfl⟩
  · rw [if_neg h3] at ha hn
    have hk := kk_4 h h1 h2 h3
    unfold k_end k_sign k_num k_wd
    rw [hk]
    exact ⟨ha, hn, rfl, rfl⟩
theorem k_wl_nil {f : Int → Int} {s e a b : Int} : k_wl f s e [] a b = -1 := rfl
