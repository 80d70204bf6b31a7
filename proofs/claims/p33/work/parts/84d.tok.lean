/-! tokens of the class's Tape, as it stands before one -/
section TK
variable {G : ab_G} {rs : List String} {M : ab_M} {d bc bs pc : Nat} {l : ab_L} {st : List ab_V} {w : ab_W} {Q : Option ab_V → ab_W → Prop} {N : Nat} {T : Nat → tm_S}
theorem tm_baK {o n : Nat} {lo hi j a : Int} (hd : decode M.2.1 pc = .ok (.baload, 1)) (hW : tm_W N T w) (hS : T o = tm_ai 1 n lo hi) (h0 : 0 ≤ j) (hn : j < n) (hj : ab_in j) (hg : tm_g w o j = some (ab_I a)) (kk : ab_Ev G rs M d bc bs (pc + 1) l (.inl a :: st) w Q) : ab_Ev G rs M d bc bs pc l (.inl j :: .inr (.inr (some o)) :: st) w Q := by
  have h := hW.2.1 o
  rw [hS] at h
  obtain ⟨f, hc, hb⟩ := h
  refine ev_baload hd hc h0 hn hj ?_
  have e : f j = a := by
    unfold tm_g at hg; rw [hc] at hg
    have hg : some (ab_I (f j)) = some (ab_I a) := hg
    injection hg with hg; injection hg
  rw [e]; exact kk
end TK
theorem k_byte : ∀ b : Int, -128 ≤ b → b ≤ 127 → ab_iand b 255 = b % 256 := by
  intro b h0 h1
  have h : ∀ n : Nat, n < 256 → ab_iand ((n : Int) - 128) 255 = ((n : Int) - 128) % 256 := by decide +kernel
  have := h (b + 128).toNat (by omega)
  rw [show (((b + 128).toNat : Nat) : Int) - 128 = b by omega] at this
  exact this
def k_kind (f : Int → Int) (L s : Int) : Int := if L ≤ s then 0 else if 48 ≤ f s ∧ f s ≤ 57 then 1 else if 97 ≤ f s ∧ f s ≤ 122 then 2 else if s + 1 < L ∧ f (s + 1) = 61 ∧ (f s = 60 ∨ f s = 62) then 3 else 4
def k_sign (f : Int → Int) (L s : Int) : Int := if k_kind f L s = 0 then -1 else if k_kind f L s = 1 then -2 else if k_kind f L s = 2 then -3 else if k_kind f L s = 3 then (if f s = 60 then 256 else 257) else f s % 256
def k_end (f : Int → Int) (L s : Int) : Int := if k_kind f L s = 0 then s else if k_kind f L s = 1 then tk_de f L s else if k_kind f L s = 2 then tk_le f L s else if k_kind f L s = 3 then s + 2 else s + 1
def k_num (f : Int → Int) (L s : Int) : Int := if k_kind f L s = 1 then ct_num f L s else -1
/-- which of the words (their bytes with blanks between) stands from s to e -/
def k_wl (f : Int → Int) (s e : Int) : List Int → Int → Int → Int
  | [], _, _ => -1
  | b :: r, which, same => if b = 32 then k_wl f s e r (which + 1) 0 else if 0 ≤ same ∧ s + same < e ∧ f (s + same) = b then (if (r = [] ∨ r.head? = some 32) ∧ s + same + 1 = e then which else k_wl f s e r which (same + 1)) else k_wl f s e r which (-1)
def k_bs (K : Nat) : List Int := (g_by.getD K []).map (fun b => b.toInt)
def k_wd (K : Nat) (f : Int → Int) (L s : Int) : Int := if k_kind f L s = 2 then k_wl f s (tk_le f L s) (k_bs K) 0 0 else -1
theorem tap_of {N : Nat} {T : Nat → tm_S} {w : ab_W} {tp wd : Nat} {f : Int → Int} {L a e s sg nu wo : Int} (hW : tm_W N T w) (h_tp : is_Ta T tp) (k1 : tm_g w tp 1 = some (ab_I L)) (k2 : tm_g w tp 2 = some (ab_I a)) (k3 : tm_g w tp 3 = some (ab_R wd)) (k4 : tm_g w tp 4 = some (ab_I e)) (k5 : tm_g w tp 5 = some (ab_I s)) (k6 : tm_g w tp 6 = some (ab_I sg)) (k7 : tm_g w tp 7 = some (ab_I nu)) (k8 : tm_g w tp 8 = some (ab_I wo)) (hf : ∀ j, tm_g w (tp + 1) j = some (ab_I (f j))) : tap tp f L a wd e s sg nu wo w := by
  obtain ⟨t0, t1⟩ := h_tp
  obtain ⟨vs, hc, hl, hv⟩ := tm_cell hW t0
  obtain ⟨v0, hv0, e0⟩ := hv 0 _ rfl
  have e0 : v0 = ab_R (tp + 1) := e0
  subst e0
  have h1 := tm_gob2 (k := 1) rfl hc k1
  have h2 := tm_gob2 (k := 2) rfl hc k2
  have h3 := tm_gob2 (k := 3) rfl hc k3
  have h4 := tm_gob2 (k := 4) rfl hc k4
  have h5 := tm_gob2 (k := 5) rfl hc k5
  have h6 := tm_gob2 (k := 6) rfl hc k6
  have h7 := tm_gob2 (k := 7) rfl hc k7
  have h8 := tm_gob2 (k := 8) rfl hc k8
  have hl : vs.length = 9 := hl
  refine ⟨?_, ?_⟩
  · rw [hc]
    have ev : vs = [ab_R (tp + 1), ab_I L, ab_I a, ab_R wd, ab_I e, ab_I s, ab_I sg, ab_I nu, ab_I wo] := by
      apply List.ext_getElem?
      intro i
      rcases (by omega : i = 0 ∨ i = 1 ∨ i = 2 ∨ i = 3 ∨ i = 4 ∨ i = 5 ∨ i = 6 ∨ i = 7 ∨ i = 8 ∨ 9 ≤ i) with rfl | rfl | rfl | rfl | rfl | rfl | rfl | rfl | rfl | h
      · exact hv0
      · exact h1
      · exact h2
      · exact h3
      · exact h4
      · exact h5
      · exact h6
      · exact h7
      · exact h8
      · rw [List.getElem?_eq_none (by omega), List.getElem?_eq_none (by show 9 ≤ i; omega)]
    rw [ev]
  · have h := hW.2.1 (tp + 1)
    rw [t1] at h
    obtain ⟨f', hc', -⟩ := h
    rw [hc']
    have ef : f' = f := by
      funext j
      have hj := hf j
      unfold tm_g at hj
      rw [hc'] at hj
      have hj : some (ab_I (f' j)) = some (ab_I (f j)) := hj
      injection hj with hj
      injection hj
    rw [ef]
theorem tap_g {tp wd : Nat} {f : Int → Int} {L a e s sg nu wo : Int} {w : ab_W} (h : tap tp f L a wd e s sg nu wo w) : (tm_g w tp 1 = some (ab_I L) ∧ tm_g w tp 2 = some (ab_I a) ∧ tm_g w tp 3 = some (ab_R wd) ∧ tm_g w tp 4 = some (ab_I e)) ∧ (tm_g w tp 5 = some (ab_I s) ∧ tm_g w tp 6 = some (ab_I sg) ∧ tm_g w tp 7 = some (ab_I nu) ∧ tm_g w tp 8 = some (ab_I wo)) ∧ ∀ j, tm_g w (tp + 1) j = some (ab_I (f j)) := by
  obtain ⟨h0, h1⟩ := h
  refine ⟨⟨?_, ?_, ?_, ?_⟩, ⟨?_, ?_, ?_, ?_⟩, fun j => ?_⟩
  · exact tm_gob (k := 1) rfl h0 rfl
  · exact tm_gob (k := 2) rfl h0 rfl
  · exact tm_gob (k := 3) rfl h0 rfl
  · exact tm_gob (k := 4) rfl h0 rfl
  · exact tm_gob (k := 5) rfl h0 rfl
  · exact tm_gob (k := 6) rfl h0 rfl
  · exact tm_gob (k := 7) rfl h0 rfl
  · exact tm_gob (k := 8) rfl h0 rfl
  · unfold tm_g; rw [h1]; rfl
/-- the Tape's two cells anew, all else as it was -/
theorem tap_W {N : Nat} {T : Nat → tm_S} {w w2 : ab_W} {tp wd : Nat} {f : Int → Int} {L a e s sg nu wo : Int} (hW : tm_W N T w) (h_tp : is_Ta T tp) (h : tap tp f L a wd e s sg nu wo w2) (hfr : fr_at tp 2 w w2) (b1 : 0 ≤ L ∧ L ≤ 400) (b2 : 0 ≤ a ∧ a ≤ 400) (b3 : ∃ k, wd = ab_sb + k ∧ k < g_ln.length) (b4 : ab_in e) (b5 : 0 ≤ s ∧ s ≤ 400) (b6 : ab_in sg) (b7 : ab_in nu) (b8 : ab_in wo) (b9 : ∀ k, -128 ≤ f k ∧ f k ≤ 127) : tm_W N T w2 ∧ ∀ (p : Nat) (j : Int), ¬ (p = tp ∨ p = tp + 1) → tm_g w2 p j = tm_g w p j := by
  obtain ⟨t0, t1⟩ := h_tp
  obtain ⟨h0, h1⟩ := h
  have hlen : w2.length = w.length := hfr.1
  have hoth : ∀ p, ¬ (p = tp ∨ p = tp + 1) → w2[p]? = w[p]? := fun p hp => hfr.2 p (by omega)
  refine ⟨⟨by rw [hlen]; exact hW.1, fun p => ?_, fun x hx => ?_⟩, fun p j hp => by unfold tm_g; rw [hoth p hp]⟩
  · rcases Nat.decEq p tp with n0 | rfl
    · rcases Nat.decEq p (tp + 1) with n1 | rfl
      · rw [hoth p (by omega)]; exact hW.2.1 p
      · rw [t1, h1]; exact ⟨f, rfl, b9⟩
    · rw [t0, h0]
      refine ⟨_, rfl, rfl, fun k F hF => ?_⟩
      obtain ⟨k3, rfl, hk3⟩ := b3
      match k with
      | 0 => cases hF; exact ⟨_, rfl, rfl⟩
      | 1 => cases hF; exact ⟨_, rfl, L, rfl, b1.1, b1.2⟩
      | 2 => cases hF; exact ⟨_, rfl, a, rfl, b2.1, b2.2⟩
      | 3 => cases hF; exact ⟨_, rfl, k3, rfl, hk3⟩
      | 4 => cases hF; exact ⟨_, rfl, e, rfl, b4.1, b4.2⟩
      | 5 => cases hF; exact ⟨_, rfl, s, rfl, b5.1, b5.2⟩
      | 6 => cases hF; exact ⟨_, rfl, sg, rfl, b6.1, b6.2⟩
      | 7 => cases hF; exact ⟨_, rfl, nu, rfl, b7.1, b7.2⟩
      | 8 => cases hF; exact ⟨_, rfl, wo, rfl, b8.1, b8.2⟩
      | k + 9 => cases hF
  · rw [hlen]
    obtain ⟨p, hp⟩ := List.mem_iff_getElem?.mp hx
    rcases Nat.decEq p tp with n0 | rfl
    · rcases Nat.decEq p (tp + 1) with n1 | rfl
      · rw [hoth p (by omega)] at hp
        exact hW.2.2 x (List.mem_of_getElem? hp)
      · rw [h1] at hp
        obtain rfl := Option.some.inj hp
        trivial
    · rw [h0] at hp
      obtain rfl := Option.some.inj hp
      have hl : p + 1 < w.length := by rw [← hlen]; exact tm_lt h1
      obtain ⟨k3, rfl, hk3⟩ := b3
      intro v hv
      simp only [List.mem_cons, List.not_mem_nil, or_false] at hv
      rcases hv with rfl | rfl | rfl | rfl | rfl | rfl | rfl | rfl | rfl
      · exact Or.inl hl
      · trivial
      · trivial
      · exact Or.inr (Nat.le_add_right _ _)
      · trivial
      · trivial
      · trivial
      · trivial
      · trivial
