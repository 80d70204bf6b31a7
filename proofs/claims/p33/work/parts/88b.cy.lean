theorem is_Di.cong {T T2 : Nat → tm_S} {o : Nat} (h : is_Di T o) (e : ∀ p, o ≤ p → p < o + 5 → T2 p = T p) : is_Di T2 o := by
  obtain ⟨h0, h1, h2, h3, h4⟩ := h
  exact ⟨(e _ (by omega) (by omega)).trans h0, (e _ (by omega) (by omega)).trans h1, (e _ (by omega) (by omega)).trans h2, (e _ (by omega) (by omega)).trans h3, (e _ (by omega) (by omega)).trans h4⟩
theorem is_RiH.cong {T T2 : Nat → tm_S} {o : Nat} {hl hh : Int} (h : is_RiH T o hl hh) (e : ∀ p, o ≤ p → p < o + 13 → T2 p = T p) : is_RiH T2 o hl hh := by
  obtain ⟨h0, h1, h2, h3, h4, h5, h6, h7, h8, h9, h10, h11, h12⟩ := h
  exact ⟨(e _ (by omega) (by omega)).trans h0, (e _ (by omega) (by omega)).trans h1, (e _ (by omega) (by omega)).trans h2, (e _ (by omega) (by omega)).trans h3, (e _ (by omega) (by omega)).trans h4, (e _ (by omega) (by omega)).trans h5, (e _ (by omega) (by omega)).trans h6, (e _ (by omega) (by omega)).trans h7, (e _ (by omega) (by omega)).trans h8, (e _ (by omega) (by omega)).trans h9, (e _ (by omega) (by omega)).trans h10, (e _ (by omega) (by omega)).trans h11, (e _ (by omega) (by omega)).trans h12⟩
theorem is_Ta.cong {T T2 : Nat → tm_S} {o : Nat} (h : is_Ta T o) (e : ∀ p, o ≤ p → p < o + 2 → T2 p = T p) : is_Ta T2 o := by
  obtain ⟨h0, h1⟩ := h
  exact ⟨(e _ (by omega) (by omega)).trans h0, (e _ (by omega) (by omega)).trans h1⟩
theorem is_Ac.cong {T T2 : Nat → tm_S} {o : Nat} (h : is_Ac T o) (e : ∀ p, o ≤ p → p < o + 4 → T2 p = T p) : is_Ac T2 o := by
  obtain ⟨h0, h1, h2, h3⟩ := h
  exact ⟨(e _ (by omega) (by omega)).trans h0, (e _ (by omega) (by omega)).trans h1, (e _ (by omega) (by omega)).trans h2, (e _ (by omega) (by omega)).trans h3⟩
theorem is_Ru.cong {T T2 : Nat → tm_S} {o : Nat} (h : is_Ru T o) (e : ∀ p, o ≤ p → p < o + 2 → T2 p = T p) : is_Ru T2 o := by
  obtain ⟨h0, h1⟩ := h
  exact ⟨(e _ (by omega) (by omega)).trans h0, (e _ (by omega) (by omega)).trans h1⟩
theorem is_Ma.cong {T T2 : Nat → tm_S} {o : Nat} (h : is_Ma T o) (e : ∀ p, o ≤ p → p < o + 2 → T2 p = T p) : is_Ma T2 o := by
  obtain ⟨h0, h1⟩ := h
  exact ⟨(e _ (by omega) (by omega)).trans h0, (e _ (by omega) (by omega)).trans h1⟩
theorem is_Pl.cong {T T2 : Nat → tm_S} {o : Nat} (h : is_Pl T o) (e : ∀ p, o ≤ p → p < o + 5 → T2 p = T p) : is_Pl T2 o := by
  obtain ⟨h0, h1, h2, h3, h4⟩ := h
  exact ⟨(e _ (by omega) (by omega)).trans h0, (e _ (by omega) (by omega)).trans h1, (e _ (by omega) (by omega)).trans h2, (e _ (by omega) (by omega)).trans h3, (e _ (by omega) (by omega)).trans h4⟩
theorem is_Tr.cong {T T2 : Nat → tm_S} {o : Nat} (h : is_Tr T o) (e : ∀ p, o ≤ p → p < o + 6 → T2 p = T p) : is_Tr T2 o := by
  obtain ⟨h0, h1, h2, h3, h4, h5⟩ := h
  exact ⟨(e _ (by omega) (by omega)).trans h0, (e _ (by omega) (by omega)).trans h1, (e _ (by omega) (by omega)).trans h2, (e _ (by omega) (by omega)).trans h3, (e _ (by omega) (by omega)).trans h4, (e _ (by omega) (by omega)).trans h5⟩
theorem is_Gu.cong {T T2 : Nat → tm_S} {o : Nat} (h : is_Gu T o) (e : ∀ p, o ≤ p → p < o + 4 → T2 p = T p) : is_Gu T2 o := by
  obtain ⟨h0, h1, h2, h3⟩ := h
  exact ⟨(e _ (by omega) (by omega)).trans h0, (e _ (by omega) (by omega)).trans h1, (e _ (by omega) (by omega)).trans h2, (e _ (by omega) (by omega)).trans h3⟩
theorem is_Ro.cong {T T2 : Nat → tm_S} {o : Nat} {n : Nat} (h : is_Ro T o n) (e : ∀ p, o ≤ p → p < o + 2 → T2 p = T p) : is_Ro T2 o n := by
  obtain ⟨h0, h1, hn⟩ := h
  exact ⟨(e _ (by omega) (by omega)).trans h0, (e _ (by omega) (by omega)).trans h1, hn⟩
abbrev is_C (T : Nat → tm_S) (a b : Nat) : Prop := is_All T 0 1 29 30 31 32 36 38 40 45 51 a b
theorem is_C.cong {T T2 : Nat → tm_S} {a b : Nat} (h : is_C T a b) (e : ∀ p, p < 107 → T2 p = T p) : is_C T2 a b := by
  obtain ⟨h1, h2, h3, h4, h5, h6, h7, h8, hzz⟩ := h
  obtain ⟨h9, h10, h11, h12, h13, h14, h15⟩ := hzz
  exact ⟨(e _ (by omega)).trans h1, (e _ (by omega)).trans h2, (e _ (by omega)).trans h3, (e _ (by omega)).trans h4, h5.cong (fun p _ _ => e p (by omega)), h6.cong (fun p _ _ => e p (by omega)), h7.cong (fun p _ _ => e p (by omega)), h8.cong (fun p _ _ => e p (by omega)), h9.cong (fun p _ _ => e p (by omega)), h10.cong (fun p _ _ => e p (by omega)), h11.cong (fun p _ _ => e p (by omega)), h12.cong (fun p _ _ => e p (by omega)), h13.cong (fun p _ _ => e p (by omega)), h14, h15⟩
theorem is_C.swap {T : Nat → tm_S} {a b : Nat} (h : is_C T a b) : is_C T b a := by
  obtain ⟨h1, h2, h3, h4, h5, h6, h7, h8, hzz⟩ := h
  obtain ⟨h9, h10, h11, h12, h13, h14, h15⟩ := hzz
  exact ⟨h1, h2, h3, h4, h5, h6, h7, h8, h9, h10, h11, h13, h12, h14, h15.elim (fun z => Or.inr ⟨z.2, z.1⟩) (fun z => Or.inl ⟨z.2, z.1⟩)⟩
theorem is_C.ab {T : Nat → tm_S} {a b : Nat} (h : is_C T a b) : a = 3 ∧ b = 16 ∨ a = 16 ∧ b = 3 := h.2.2.2.2.2.2.2.2.2.2.2.2.2.2
def ci_F (N : Nat) (T : Nat → tm_S) (w : ab_W) (a b : Nat) (rc x : Int) (ix mk tf : Int → Int) (tl : Int) (wm : ab_W) : Prop :=
  tm_W N T w ∧ is_C T a b ∧ (tm_g w 0 1 = some (ab_R a) ∧ tm_g w 0 2 = some (ab_R b) ∧ tm_g w 0 6 = some (ab_I rc) ∧ tm_g w 1 1 = some (ab_I tl) ∧ ∀ j, tm_g w 2 j = some (ab_I (tf j))) ∧ ((0 ≤ rc ∧ rc ≤ 6) ∧ (N : Int) = 129 + 2 * rc) ∧ (∀ j : Int, 0 ≤ j → j < rc → ∃ q n : Nat, tm_g w 31 j = some (ab_R q) ∧ is_Ro T q n ∧ 129 ≤ q ∧ q + 1 < N) ∧ (∀ j : Int, 0 ≤ j → j < 4 → ∃ ik : Nat, tm_g w 29 j = some (ab_R ik) ∧ is_Ri T ik ∧ (ik : Int) = 55 + 13 * j) ∧ ac_ok w 32 ∧ tm_g w a 6 = some (ab_I x) ∧ (∀ j : Int, 0 ≤ j → j ≤ 3 → tm_g w 30 j = some (ab_I (mk j))) ∧ (∀ j : Int, 0 ≤ j → j ≤ 3 → ∀ ik : Nat, (ik : Int) = 55 + 13 * j → tm_g w ik 6 = some (ab_I (ix j))) ∧ (∀ (i : Nat) (e : ab_E), wm[i]? = some e → T (107 + i) = fun c => c = some (ab_shE 107 e))
theorem cf_keep {N : Nat} {T : Nat → tm_S} {w w2 : ab_W} {a b : Nat} {rc x tl : Int} {ix mk tf : Int → Int} {wm : ab_W} (h : ci_F N T w a b rc x ix mk tf tl wm) (hW : tm_W N T w2) (hk : ∀ (p : Nat) (j : Int), (p = 0 ∧ (j = 1 ∨ j = 2 ∨ j = 6) ∨ (p = 1 ∧ j = 1) ∨ p = 2 ∨ p = 31 ∨ p = 29 ∨ p = 30 ∨ (p = a ∧ j = 6) ∨ (55 ≤ p ∧ j = 6)) → tm_g w2 p j = tm_g w p j) (hac : ac_ok w2 32) : ci_F N T w2 a b rc x ix mk tf tl wm := by
  obtain ⟨h1, h2, ⟨h3, h4, h5, h5a, h5b⟩, h6, h7, h8, h9, h10, h11, h12, h13⟩ := h
  refine ⟨hW, h2, ⟨(hk 0 1 (by omega)).trans h3, (hk 0 2 (by omega)).trans h4, (hk 0 6 (by omega)).trans h5, (hk 1 1 (by omega)).trans h5a, fun j => (hk 2 j (by omega)).trans (h5b j)⟩, h6, fun j j0 j1 => ?_, fun j j0 j1 => ?_, hac, (hk a 6 (by omega)).trans h10, fun j j0 j1 => (hk 30 j (by omega)).trans (h11 j j0 j1), fun j j0 j1 ik e => (hk ik 6 (by omega)).trans (h12 j j0 j1 ik e), h13⟩
  · obtain ⟨q, n, k1, k2⟩ := h7 j j0 j1
    exact ⟨q, n, (hk 31 j (by omega)).trans k1, k2⟩
  · obtain ⟨ik, k1, k2⟩ := h8 j j0 j1
    exact ⟨ik, (hk 29 j (by omega)).trans k1, k2⟩
theorem an_l13 {vs : List ab_V} {v0 v1 v2 v3 v4 v5 v6 v7 v8 v9 v10 v11 v12 : ab_V} (hl : vs.length = 13) (h0 : vs[0]? = some v0) (h1 : vs[1]? = some v1) (h2 : vs[2]? = some v2) (h3 : vs[3]? = some v3) (h4 : vs[4]? = some v4) (h5 : vs[5]? = some v5) (h6 : vs[6]? = some v6) (h7 : vs[7]? = some v7) (h8 : vs[8]? = some v8) (h9 : vs[9]? = some v9) (h10 : vs[10]? = some v10) (h11 : vs[11]? = some v11) (h12 : vs[12]? = some v12) : vs = [v0, v1, v2, v3, v4, v5, v6, v7, v8, v9, v10, v11, v12] := List.ext_getElem? (fun i => match i with
  | 0 => h0
  | 1 => h1
  | 2 => h2
  | 3 => h3
  | 4 => h4
  | 5 => h5
  | 6 => h6
  | 7 => h7
  | 8 => h8
  | 9 => h9
  | 10 => h10
  | 11 => h11
  | 12 => h12
  | i + 13 => by rw [List.getElem?_eq_none (by omega)]; rfl)
theorem an_l2 {vs : List ab_V} {v0 v1 : ab_V} (hl : vs.length = 2) (h0 : vs[0]? = some v0) (h1 : vs[1]? = some v1) : vs = [v0, v1] := List.ext_getElem? (fun i => match i with
  | 0 => h0
  | 1 => h1
  | i + 2 => by rw [List.getElem?_eq_none (by omega)]; rfl)
theorem tu_of {N : Nat} {T : Nat → tm_S} {w : ab_W} {a b : Nat} {rc : Int} (hW : tm_W N T w) (hA : is_C T a b) (kn : tm_g w 0 1 = some (ab_R a)) (kt : tm_g w 0 2 = some (ab_R b)) (krc : tm_g w 0 6 = some (ab_I rc)) : tu_at a b rc w := by
  obtain ⟨vs, c0, cl, cv⟩ := tm_cell hW hA.1
  have ev := an_l13 cl (an_r (k := 0) cv rfl) (tm_gob2 (k := 1) rfl c0 kn) (tm_gob2 (k := 2) rfl c0 kt) (an_r (k := 3) cv rfl) (an_r (k := 4) cv rfl) (an_r (k := 5) cv rfl) (tm_gob2 (k := 6) rfl c0 krc) (an_r (k := 7) cv rfl) (an_r (k := 8) cv rfl) (an_r (k := 9) cv rfl) (an_r (k := 10) cv rfl) (an_r (k := 11) cv rfl) (an_r (k := 12) cv rfl)
  rw [ev] at c0
  exact c0
theorem mac_of {N : Nat} {T : Nat → tm_S} {w : ab_W} {m : Nat} (hW : tm_W N T w) (hS : is_Ma T m) : ∃ (sk : Int → Int64) (tp : Int), mac m sk tp w := by
  obtain ⟨vs, c0, cl, cv⟩ := tm_cell hW hS.1
  obtain ⟨v, hv, b, rfl, -⟩ := cv 1 _ rfl
  have h := hW.2.1 (m + 1)
  rw [hS.2] at h
  obtain ⟨f, hc⟩ := h
  have ev := an_l2 cl (an_r (k := 0) cv rfl) hv
  rw [ev] at c0
  exact ⟨f, b, c0, hc⟩
theorem arr_of {N : Nat} {T : Nat → tm_S} {w : ab_W} {p t n : Nat} (hW : tm_W N T w) (hS : T p = tm_ar t n) : ∃ fr : Int → Option Nat, w[p]? = some (ab_ar t n fr) ∧ ∀ (r : Int) (q : Nat), tm_g w p r = some (ab_R q) → fr r = some q := by
  have h := hW.2.1 p
  rw [hS] at h
  obtain ⟨f, hc⟩ := h
  refine ⟨f, hc, fun r q hg => ?_⟩
  unfold tm_g at hg
  rw [hc] at hg
  have z : some (Sum.inr (Sum.inr (f r)) : ab_V) = some (Sum.inr (Sum.inr (some q))) := hg
  injection z with z
  injection z with z
  injection z
theorem ai_of {N : Nat} {T : Nat → tm_S} {w : ab_W} {p t n : Nat} {lo hi : Int} (hW : tm_W N T w) (hS : T p = tm_ai t n lo hi) : ∃ g : Int → Int, w[p]? = some (ab_ai t n g) ∧ ∀ (r v : Int), tm_g w p r = some (ab_I v) → g r = v := by
  have h := hW.2.1 p
  rw [hS] at h
  obtain ⟨f, hc, -⟩ := h
  refine ⟨f, hc, fun r v hg => ?_⟩
  unfold tm_g at hg
  rw [hc] at hg
  have z : some (ab_I (f r)) = some (ab_I v) := hg
  injection z with z
  injection z
def cy_im (w : ab_W) (mk ix images : Int → Int) : Prop := ∀ j : Int, 0 ≤ j → j ≤ 3 → ∀ ik : Nat, (ik : Int) = 55 + 13 * j → (∃ (g : Int → Int) (y : Int), ri_at_j ik g y w ∧ sg_ok 23999 g) ∧ (mk j = 1 → ri_at_j ik (sp_img images j) (ix j) w)
def cy_ru (w : ab_W) (rc : Int) (ru : Int → List c_C) : Prop := ∀ r : Int, 0 ≤ r → r < rc → ∃ (q n : Nat) (cd : Int → Int), tm_g w 31 r = some (ab_R q) ∧ 129 ≤ q ∧ w[q]? = some (ab_ob 6 [ab_R (q + 1)]) ∧ w[q + 1]? = some (ab_ai 0 n cd) ∧ (((ru r).map a_cc).flatten.length = n ∧ n ≤ 100000) ∧ ∀ (k : Nat) (v : Int), ((ru r).map a_cc).flatten[k]? = some v → cd (k : Int) = v
def cy_X (w : ab_W) (a : Nat) (rc x : Int) (mk ix said was : Int → Int) (undone : Int) (images : Int → Int) (ru : Int → List c_C) : Prop := ri_at_j a said x w ∧ ag said was undone w ∧ cy_im w mk ix images ∧ cy_ru w rc ru
def cy_I (w : ab_W) : fs_S → ab_W → Prop
  | ⟨x, ix, im, tf, tl, rc, said, was, undone, images, ru⟩, wm => ∃ (N : Nat) (T : Nat → tm_S) (a b : Nat), ci_F N T w a b rc x ix im tf tl wm ∧ cy_X w a rc x im ix said was undone images ru
abbrev cy_Q (S : fs_S) (wm : ab_W) : Option ab_V → ab_W → Prop := fun r w2 => (∃ v, r = some (ab_I v)) ∧ cy_I w2 S wm
abbrev cy_A (A : Int) (S : fs_S) (wm : ab_W) : Option ab_V → ab_W → Prop := fun r w2 => r = some (ab_I A) ∧ cy_I w2 S wm
def fs_ok (c : Int) : fs_S → Prop
  | ⟨x, ix, im, _, _, rules, said, was, undone, images, ru⟩ => sgc c said ∧ (0 ≤ x ∧ x ≤ 2147483647) ∧ ((0 ≤ undone ∧ undone ≤ 20) ∧ snw c undone was) ∧ (∀ j, 0 ≤ j → j ≤ 3 → im j = 0 ∨ im j = 1) ∧ (∀ j, 0 ≤ j → j ≤ 3 → im j = 1 → sgc c (sp_img images j)) ∧ (∀ j, 0 ≤ j → j ≤ 3 → 0 ≤ ix j ∧ ix j ≤ 2147483647) ∧ (0 ≤ rules ∧ rules ≤ 6) ∧ ∀ r, 0 ≤ r → r < rules → ∀ k ∈ ru r, gc k
theorem my_ok {c : Int} {S : fs_S} {wm : ab_W} (h : my_I c S wm) : fs_ok c S := by
  obtain ⟨x, ix, mk, tape, taped, rules, said, was, undone, images, ru⟩ := S
  obtain ⟨sign, leng, clause, clauses, read, next, wrong, number, hzz⟩ := h
  obtain ⟨text, made, deep, lines, opn, opened, stack, top, hzz⟩ := hzz
  obtain ⟨word, kept, sumOf, faced, slotAt, dayAt, row, bestRow, hzz⟩ := hzz
  obtain ⟨tMany, tMost, drawX, -, ⟨m1, m2, m3, m4, m5, m6, m7, m8, m9⟩, m10⟩ := hzz
  exact ⟨m3, m4, m5, m7, m8, m9, m2.1, fun r h0 h1 => (m10 r h0 h1).1⟩
section CYF
variable {N : Nat} {T : Nat → tm_S} {w w1 w2 : ab_W} {said was images ix mk : Int → Int} {u rc : Int} {ru : Int → List c_C}
theorem ag_fr (hW : tm_W N T w) (hW2 : tm_W N T w2) (hS : is_Ac T 32) (e : ∀ (p : Nat) (j : Int), 32 ≤ p → p < 36 → tm_g w2 p j = tm_g w p j) (h : ag said was u w) : ag said was u w2 := by
  obtain ⟨ki, f1, s1, nx, h1, h2⟩ := h
  exact ⟨ki, f1, s1, nx, br_ac hW hW2 hS (fun p j a b => e p j a (by omega)) h1, h2⟩
theorem ag_sm {ki f1 s1 : Int → Int} {nx : Int} (sm : an_sm w1 w2) (hW2 : tm_W N T w2) (hS : is_Ac T 32) (h : acl 32 ki f1 s1 u nx w1) (hnx : 0 ≤ nx ∧ nx < 20) (hu : 0 ≤ u ∧ u ≤ 20) (hin : ∀ k, 0 ≤ k → k < 20 → ab_in (ki k) ∧ ab_in (f1 k) ∧ ab_in (s1 k)) (har : ar said was u nx ki f1 s1) : ag said was u w2 := by
  obtain ⟨k2, f2, s2, h1, h2⟩ := acl_sm h (by omega) (by omega) hin sm hW2 hS
  refine ⟨k2, f2, s2, nx, h1, hnx, hu, fun k k0 k1 => ?_, ar_cg har h2⟩
  obtain ⟨e1, e2, e3⟩ := h2 k k0 k1
  rw [e1, e2, e3]
  exact hin k k0 k1
theorem im_fr (hW : tm_W N T w) (hW2 : tm_W N T w2) (hS : ∀ j : Int, 0 ≤ j → j < 4 → ∃ ik : Nat, tm_g w 29 j = some (ab_R ik) ∧ is_Ri T ik ∧ (ik : Int) = 55 + 13 * j) (e : ∀ (p : Nat) (j : Int), 55 ≤ p → p < 107 → tm_g w2 p j = tm_g w p j) (h : cy_im w mk ix images) : cy_im w2 mk ix images := by
  intro j j0 j1 ik hik
  obtain ⟨i2, -, k2, k3⟩ := hS j j0 (by omega)
  have ei : i2 = ik := by omega
  subst ei
  have hce := br_ri hW hW2 k2 (fun p q a b => e p q (by omega) (by omega))
  obtain ⟨⟨g, y, q1, q3⟩, q2⟩ := h j j0 j1 i2 hik
  exact ⟨⟨g, y, rj_ce q1 hce, q3⟩, fun z => rj_ce (q2 z) hce⟩
theorem ru_fr (hW : tm_W N T w) (hW2 : tm_W N T w2) (hS : ∀ j : Int, 0 ≤ j → j < rc → ∃ q n : Nat, tm_g w 31 j = some (ab_R q) ∧ is_Ro T q n ∧ 129 ≤ q ∧ q + 1 < N) (e : ∀ (p : Nat) (j : Int), (p = 31 ∨ 129 ≤ p) → tm_g w2 p j = tm_g w p j) (h : cy_ru w rc ru) : cy_ru w2 rc ru := by
  intro r r0 r1
  obtain ⟨q, n, cd, h1, h2, h3, h4, h5⟩ := h r r0 r1
  obtain ⟨q2, n2, g1, g2, -⟩ := hS r r0 r1
  have eq : q2 = q := by
    rw [h1] at g1
    injection g1 with g1
    injection g1 with g1
    injection g1 with g1
    injection g1 with g1
    exact g1.symm
  subst eq
  exact ⟨q2, n, cd, (e 31 r (Or.inl rfl)).trans h1, h2, (br_o hW hW2 g2.1 (fun j => e _ j (Or.inr h2))).trans h3, (br_ai hW hW2 g2.2.1 (fun j => e _ j (Or.inr (by omega)))).trans h4, h5⟩
theorem ri_fr {a : Nat} {x : Int} {f : Int → Int} (hW : tm_W N T w) (hW2 : tm_W N T w2) (hS : is_Ri T a) (e : ∀ (p : Nat) (j : Int), a ≤ p → p < a + 13 → tm_g w2 p j = tm_g w p j) (h : ri_at_j a f x w) : ri_at_j a f x w2 := rj_ce h (br_ri hW hW2 hS e)
end CYF
theorem is_C.ri {T : Nat → tm_S} {a b : Nat} (h : is_C T a b) : is_Ri T a := h.2.2.2.2.2.2.2.2.2.2.2.1
theorem is_C.ac {T : Nat → tm_S} {a b : Nat} (h : is_C T a b) : is_Ac T 32 := h.2.2.2.2.2.1
theorem is_C.ma {T : Nat → tm_S} {a b : Nat} (h : is_C T a b) : is_Ma T 38 := h.2.2.2.2.2.2.2.1
theorem at_4 {c u : Int} {said was : Int → Int} (h1 : sgc c said) (h2 : snw c u was) : ∀ i, 0 ≤ i → i ≤ u → 0 ≤ at_ said was u i 4 ∧ at_ said was u i 4 ≤ 11 := by
  intro i i0 i1
  unfold at_
  by_cases z : i = 0
  · rw [if_pos z]
    exact h1.1.1 4 (by decide) (by decide)
  · rw [if_neg z]
    exact (h2 (u - i) (by omega) (by omega)).1 4 (by decide) (by decide)
theorem pass_j {f : Int → Int} (h4 : 0 ≤ f 4 ∧ f 4 ≤ 11) {j : Int} (j4 : j ≠ 4) (j5 : j ≠ 5) (j6 : j ≠ 6) (j7 : j ≠ 7) (hr : j < 34 ∨ 46 ≤ j) : sp_pass f j = f j := by
  unfold sp_pass sp_passAt
  have tj := (sp_turns_j (sp_by (sp_n f (sp_rateNow f))) (ab_up f 7 0) h4 (sp_n f (sp_rateNow f)).natAbs).2 j j4 hr
  generalize sp_turns (sp_by (sp_n f (sp_rateNow f))) (ab_up f 7 0) (sp_n f (sp_rateNow f)).natAbs = g at tj
  have e : ab_up f 7 0 j = f j := ab_upn _ _ j7
  unfold sp_goesOn
  split
  · rw [ab_upn _ _ j5, tj, e]
  · rw [ab_upn _ _ j6, ab_upn _ _ j5, ab_upn _ _ j5, tj, e]
set_option maxRecDepth 4000 in
theorem cy_house {w : ab_W} {S : fs_S} {wm : ab_W} {c : Int} (h : cy_I w S wm) (hok : fs_ok c S) (hcm : c ≤ 1000) (y1 : Int) (hy1 : ab_in y1) (y2 : Int) (hy2 : ab_in y2) : ab_Mt g_G g_rs mt_Tu_house 3 0 0 [ab_R 0, ab_I y1, ab_I y2] w (cy_A (fa_house S y1 y2) S wm) := by
  obtain ⟨x, ix, mk, tf, tl, rc, said, was, undone, images, ru⟩ := S
  obtain ⟨N, T, a, b, hF, hR, hag, himg, hrul⟩ := h
  obtain ⟨hW, hA, ⟨kn, kt, krc, ktl, ktf⟩, ⟨hrc, hN⟩, hrl, him, hac, hx, hmd, hix, hseg⟩ := id hF
  obtain ⟨o1, o2, o3, o4, o5, o6, o7, o8⟩ := hok
  have hab := hA.ab
  have hab2 : a = 3 ∨ a = 16 := by omega
  have t0 := tu_of hW hA kn kt krc
  have sA := sg_all o1.1
  refine (co_Tu_house o1.1 t0 hR y1 hy1 y2 hy2).conseq (fun r w2 h => ?_)
  obtain ⟨rfl, rfl⟩ := h
  exact ⟨rfl, N, T, a, b, hF, hR, hag, himg, hrul⟩
set_option maxRecDepth 4000 in
theorem cy_direction {w : ab_W} {S : fs_S} {wm : ab_W} {c : Int} (h : cy_I w S wm) (hok : fs_ok c S) (hcm : c ≤ 1000) (y1 : Int) (hy1 : ab_in y1) (y2 : Int) (hy2 : ab_in y2) : ab_Mt g_G g_rs mt_Tu_direction 3 0 0 [ab_R 0, ab_I y1, ab_I y2] w (cy_A (fa_direction S y1 y2) S wm) := by
  obtain ⟨x, ix, mk, tf, tl, rc, said, was, undone, images, ru⟩ := S
  obtain ⟨N, T, a, b, hF, hR, hag, himg, hrul⟩ := h
  obtain ⟨hW, hA, ⟨kn, kt, krc, ktl, ktf⟩, ⟨hrc, hN⟩, hrl, him, hac, hx, hmd, hix, hseg⟩ := id hF
  obtain ⟨o1, o2, o3, o4, o5, o6, o7, o8⟩ := hok
  have hab := hA.ab
  have hab2 : a = 3 ∨ a = 16 := by omega
  have t0 := tu_of hW hA kn kt krc
  have sA := sg_all o1.1
  refine (co_Tu_direction o1.1 t0 hR y1 hy1 y2 hy2).conseq (fun r w2 h => ?_)
  obtain ⟨rfl, rfl⟩ := h
  exact ⟨rfl, N, T, a, b, hF, hR, hag, himg, hrul⟩
set_option maxRecDepth 4000 in
theorem cy_rateOf {w : ab_W} {S : fs_S} {wm : ab_W} {c : Int} (h : cy_I w S wm) (hok : fs_ok c S) (hcm : c ≤ 1000) (y1 : Int) (hy1 : ab_in y1) : ab_Mt g_G g_rs mt_Tu_rateOf 1 0 0 [ab_R 0, ab_I y1] w (cy_A (fa_rateOf S y1) S wm) := by
  obtain ⟨x, ix, mk, tf, tl, rc, said, was, undone, images, ru⟩ := S
  obtain ⟨N, T, a, b, hF, hR, hag, himg, hrul⟩ := h
  obtain ⟨hW, hA, ⟨kn, kt, krc, ktl, ktf⟩, ⟨hrc, hN⟩, hrl, him, hac, hx, hmd, hix, hseg⟩ := id hF
  obtain ⟨o1, o2, o3, o4, o5, o6, o7, o8⟩ := hok
  have hab := hA.ab
  have hab2 : a = 3 ∨ a = 16 := by omega
  have t0 := tu_of hW hA kn kt krc
  have sA := sg_all o1.1
  refine (co_Tu_rateOf o1.1 t0 hR y1 hy1).conseq (fun r w2 h => ?_)
  obtain ⟨rfl, rfl⟩ := h
  exact ⟨rfl, N, T, a, b, hF, hR, hag, himg, hrul⟩
set_option maxRecDepth 4000 in
theorem cy_worn {w : ab_W} {S : fs_S} {wm : ab_W} {c : Int} (h : cy_I w S wm) (hok : fs_ok c S) (hcm : c ≤ 1000) (y1 : Int) (hy1 : ab_in y1) : ab_Mt g_G g_rs mt_Tu_worn 1 0 0 [ab_R 0, ab_I y1] w (cy_A (fa_worn S y1) S wm) := by
  obtain ⟨x, ix, mk, tf, tl, rc, said, was, undone, images, ru⟩ := S
  obtain ⟨N, T, a, b, hF, hR, hag, himg, hrul⟩ := h
  obtain ⟨hW, hA, ⟨kn, kt, krc, ktl, ktf⟩, ⟨hrc, hN⟩, hrl, him, hac, hx, hmd, hix, hseg⟩ := id hF
  obtain ⟨o1, o2, o3, o4, o5, o6, o7, o8⟩ := hok
  have hab := hA.ab
  have hab2 : a = 3 ∨ a = 16 := by omega
  have t0 := tu_of hW hA kn kt krc
  have sA := sg_all o1.1
  refine (co_Tu_worn o1.1 t0 hR y1 hy1).conseq (fun r w2 h => ?_)
  obtain ⟨rfl, rfl⟩ := h
  exact ⟨rfl, N, T, a, b, hF, hR, hag, himg, hrul⟩
set_option maxRecDepth 4000 in
theorem cy_count {w : ab_W} {S : fs_S} {wm : ab_W} {c : Int} (h : cy_I w S wm) (hok : fs_ok c S) (hcm : c ≤ 1000) (y1 : Int) (hy1 : ab_in y1) : ab_Mt g_G g_rs mt_Tu_count 3 0 0 [ab_R 0, ab_I y1] w (cy_A (fa_count S y1) S wm) := by
  obtain ⟨x, ix, mk, tf, tl, rc, said, was, undone, images, ru⟩ := S
  obtain ⟨N, T, a, b, hF, hR, hag, himg, hrul⟩ := h
  obtain ⟨hW, hA, ⟨kn, kt, krc, ktl, ktf⟩, ⟨hrc, hN⟩, hrl, him, hac, hx, hmd, hix, hseg⟩ := id hF
  obtain ⟨o1, o2, o3, o4, o5, o6, o7, o8⟩ := hok
  have hab := hA.ab
  have hab2 : a = 3 ∨ a = 16 := by omega
  have t0 := tu_of hW hA kn kt krc
  have sA := sg_all o1.1
  obtain ⟨ki, f1, s1, nx, hacl, -⟩ := id hag
  obtain ⟨vs, c0, cl, cv⟩ := tm_cell hW hA.2.2.2.2.1.1
  obtain ⟨tt, ett⟩ : ∃ tt, vs = ab_R 2 :: ab_I tl :: tt := by
    have v0 := an_r (k := 0) cv rfl
    have v1 := tm_gob2 (k := 1) rfl c0 ktl
    rcases vs with _ | ⟨x0, _ | ⟨x1, tt⟩⟩
    · cases v0
    · cases v1
    · cases v0
      cases v1
      exact ⟨tt, rfl⟩
  rw [ett] at c0
  refine (co_Tu_count o1.1 t0 hR hacl c0 y1 hy1).conseq (fun r w2 h => ?_)
  obtain ⟨rfl, rfl⟩ := h
  exact ⟨rfl, N, T, a, b, hF, hR, hag, himg, hrul⟩
set_option maxRecDepth 4000 in
theorem cy_errand {w : ab_W} {S : fs_S} {wm : ab_W} {c : Int} (h : cy_I w S wm) (hok : fs_ok c S) (hcm : c ≤ 1000) (y1 : Int) (hy1 : ab_in y1) (y2 : Int) (hy2 : ab_in y2) (y3 : Int) (hy3 : ab_in y3) (y4 : Int) (hy4 : ab_in y4) : ab_Mt g_G g_rs mt_Tu_errand 2 0 0 [ab_R 0, ab_I y1, ab_I y2, ab_I y3, ab_I y4] w (cy_Q S wm) := by
  obtain ⟨x, ix, mk, tf, tl, rc, said, was, undone, images, ru⟩ := S
  obtain ⟨N, T, a, b, hF, hR, hag, himg, hrul⟩ := h
  obtain ⟨hW, hA, ⟨kn, kt, krc, ktl, ktf⟩, ⟨hrc, hN⟩, hrl, him, hac, hx, hmd, hix, hseg⟩ := id hF
  obtain ⟨o1, o2, o3, o4, o5, o6, o7, o8⟩ := hok
  have hab := hA.ab
  have hab2 : a = 3 ∨ a = 16 := by omega
  have t0 := tu_of hW hA kn kt krc
  have sA := sg_all o1.1
  refine (tm_Tu_errand hW hA kn kt y1 (by omega) (by omega) y2 (by omega) (by omega) y3 (by omega) (by omega) y4 (by omega) (by omega)).conseq (fun r w2 h => ?_)
  obtain ⟨rfl, v, rfl, -⟩ := h
  exact ⟨⟨v, rfl⟩, N, T, a, b, hF, hR, hag, himg, hrul⟩
set_option maxRecDepth 4000 in
theorem cy_stay {w : ab_W} {S : fs_S} {wm : ab_W} {c : Int} (h : cy_I w S wm) (hok : fs_ok c S) (hcm : c ≤ 1000) (y1 : Int) (hy1 : ab_in y1) : ab_Mt g_G g_rs mt_Tu_stay 4 0 0 [ab_R 0, ab_I y1] w (cy_Q S wm) := by
  obtain ⟨x, ix, mk, tf, tl, rc, said, was, undone, images, ru⟩ := S
  obtain ⟨N, T, a, b, hF, hR, hag, himg, hrul⟩ := h
  obtain ⟨hW, hA, ⟨kn, kt, krc, ktl, ktf⟩, ⟨hrc, hN⟩, hrl, him, hac, hx, hmd, hix, hseg⟩ := id hF
  obtain ⟨o1, o2, o3, o4, o5, o6, o7, o8⟩ := hok
  have hab := hA.ab
  have hab2 : a = 3 ∨ a = 16 := by omega
  have t0 := tu_of hW hA kn kt krc
  have sA := sg_all o1.1
  refine (tm_Tu_stay hW hA kn kt y1 (by omega) (by omega)).conseq (fun r w2 h => ?_)
  obtain ⟨rfl, v, rfl, -⟩ := h
  exact ⟨⟨v, rfl⟩, N, T, a, b, hF, hR, hag, himg, hrul⟩
set_option maxRecDepth 4000 in
theorem cy_swings {w : ab_W} {S : fs_S} {wm : ab_W} {c : Int} (h : cy_I w S wm) (hok : fs_ok c S) (hcm : c ≤ 1000) (y1 : Int) (hy1 : ab_in y1) : ab_Mt g_G g_rs mt_Tu_swings 2 0 0 [ab_R 0, ab_I y1] w (cy_Q S wm) := by
  obtain ⟨x, ix, mk, tf, tl, rc, said, was, undone, images, ru⟩ := S
  obtain ⟨N, T, a, b, hF, hR, hag, himg, hrul⟩ := h
  obtain ⟨hW, hA, ⟨kn, kt, krc, ktl, ktf⟩, ⟨hrc, hN⟩, hrl, him, hac, hx, hmd, hix, hseg⟩ := id hF
  obtain ⟨o1, o2, o3, o4, o5, o6, o7, o8⟩ := hok
  have hab := hA.ab
  have hab2 : a = 3 ∨ a = 16 := by omega
  have t0 := tu_of hW hA kn kt krc
  have sA := sg_all o1.1
  refine (tm_Tu_swings hW hA kn kt y1 (by omega) (by omega)).conseq (fun r w2 h => ?_)
  obtain ⟨rfl, v, rfl, -⟩ := h
  exact ⟨⟨v, rfl⟩, N, T, a, b, hF, hR, hag, himg, hrul⟩
set_option maxRecDepth 4000 in
theorem cy_spare {w : ab_W} {S : fs_S} {wm : ab_W} {c : Int} (h : cy_I w S wm) (hok : fs_ok c S) (hcm : c ≤ 1000) (y1 : Int) (hy1 : ab_in y1) (y2 : Int) (hy2 : ab_in y2) (y3 : Int) (hy3 : ab_in y3) : ab_Mt g_G g_rs mt_Tu_spare 2 0 0 [ab_R 0, ab_I y1, ab_I y2, ab_I y3] w (cy_Q S wm) := by
  obtain ⟨x, ix, mk, tf, tl, rc, said, was, undone, images, ru⟩ := S
  obtain ⟨N, T, a, b, hF, hR, hag, himg, hrul⟩ := h
  obtain ⟨hW, hA, ⟨kn, kt, krc, ktl, ktf⟩, ⟨hrc, hN⟩, hrl, him, hac, hx, hmd, hix, hseg⟩ := id hF
  obtain ⟨o1, o2, o3, o4, o5, o6, o7, o8⟩ := hok
  have hab := hA.ab
  have hab2 : a = 3 ∨ a = 16 := by omega
  have t0 := tu_of hW hA kn kt krc
  have sA := sg_all o1.1
  refine (tm_Tu_spare hW hA kn kt y1 (by omega) (by omega) y2 (by omega) (by omega) y3 (by omega) (by omega)).conseq (fun r w2 h => ?_)
  obtain ⟨rfl, v, rfl, -⟩ := h
  exact ⟨⟨v, rfl⟩, N, T, a, b, hF, hR, hag, himg, hrul⟩
set_option maxRecDepth 4000 in
theorem cy_days {w : ab_W} {S : fs_S} {wm : ab_W} {c : Int} (h : cy_I w S wm) (hok : fs_ok c S) (hcm : c ≤ 1000) (y1 : Int) (hy1 : ab_in y1) (y2 : Int) (hy2 : ab_in y2) (y3 : Int) (hy3 : ab_in y3) (y4 : Int) (hy4 : ab_in y4) : ab_Mt g_G g_rs mt_Tu_days 3 0 0 [ab_R 0, ab_I y1, ab_I y2, ab_I y3, ab_I y4] w (cy_Q S wm) := by
  obtain ⟨x, ix, mk, tf, tl, rc, said, was, undone, images, ru⟩ := S
  obtain ⟨N, T, a, b, hF, hR, hag, himg, hrul⟩ := h
  obtain ⟨hW, hA, ⟨kn, kt, krc, ktl, ktf⟩, ⟨hrc, hN⟩, hrl, him, hac, hx, hmd, hix, hseg⟩ := id hF
  obtain ⟨o1, o2, o3, o4, o5, o6, o7, o8⟩ := hok
  have hab := hA.ab
  have hab2 : a = 3 ∨ a = 16 := by omega
  have t0 := tu_of hW hA kn kt krc
  have sA := sg_all o1.1
  refine (tm_Tu_days hW hA kn kt y1 (by omega) (by omega) y2 (by omega) (by omega) y3 (by omega) (by omega) y4 (by omega) (by omega)).conseq (fun r w2 h => ?_)
  obtain ⟨rfl, v, rfl, -⟩ := h
  exact ⟨⟨v, rfl⟩, N, T, a, b, hF, hR, hag, himg, hrul⟩
set_option maxRecDepth 4000 in
theorem cy_trade {w : ab_W} {S : fs_S} {wm : ab_W} {c : Int} (h : cy_I w S wm) (hok : fs_ok c S) (hcm : c ≤ 1000) (y1 : Int) (hy1 : ab_in y1) : ab_Mt g_G g_rs mt_Tu_trade 4 0 0 [ab_R 0, ab_I y1] w (cy_Q S wm) := by
  obtain ⟨x, ix, mk, tf, tl, rc, said, was, undone, images, ru⟩ := S
  obtain ⟨N, T, a, b, hF, hR, hag, himg, hrul⟩ := h
  obtain ⟨hW, hA, ⟨kn, kt, krc, ktl, ktf⟩, ⟨hrc, hN⟩, hrl, him, hac, hx, hmd, hix, hseg⟩ := id hF
  obtain ⟨o1, o2, o3, o4, o5, o6, o7, o8⟩ := hok
  have hab := hA.ab
  have hab2 : a = 3 ∨ a = 16 := by omega
  have t0 := tu_of hW hA kn kt krc
  have sA := sg_all o1.1
  refine (tm_Tu_trade hW hA kn kt y1 (by omega) (by omega)).conseq (fun r w2 h => ?_)
  obtain ⟨hW2, v, rfl, hf, -⟩ := h
  exact ⟨⟨v, rfl⟩, N, T, a, b, cf_keep hF hW2 (fun p j hK => hf p j (by omega)) (hac.fr (fun k => hf _ k (by omega)) (fun k => hf _ k (by omega)) (fun k => hf _ k (by omega))), ri_fr hW hW2 hA.ri (fun p j q0 q1 => hf p j (by omega)) hR, ag_fr hW hW2 hA.ac (fun p j q0 q1 => hf p j (by omega)) hag, im_fr hW hW2 him (fun p j q0 q1 => hf p j (by omega)) himg, ru_fr hW hW2 hrl (fun p j q0 => hf p j (by omega)) hrul⟩
set_option maxRecDepth 4000 in
theorem cy_turned {w : ab_W} {S : fs_S} {wm : ab_W} {c : Int} (h : cy_I w S wm) (hok : fs_ok c S) (hcm : c ≤ 1000) (y1 : Int) (hy1 : ab_in y1) : ab_Mt g_G g_rs mt_Tu_turned 4 0 0 [ab_R 0, ab_I y1] w (cy_Q S wm) := by
  obtain ⟨x, ix, mk, tf, tl, rc, said, was, undone, images, ru⟩ := S
  obtain ⟨N, T, a, b, hF, hR, hag, himg, hrul⟩ := h
  obtain ⟨hW, hA, ⟨kn, kt, krc, ktl, ktf⟩, ⟨hrc, hN⟩, hrl, him, hac, hx, hmd, hix, hseg⟩ := id hF
  obtain ⟨o1, o2, o3, o4, o5, o6, o7, o8⟩ := hok
  have hab := hA.ab
  have hab2 : a = 3 ∨ a = 16 := by omega
  have t0 := tu_of hW hA kn kt krc
  have sA := sg_all o1.1
  refine (tm_Tu_turned hW hA kn kt y1 (by omega) (by omega)).conseq (fun r w2 h => ?_)
  obtain ⟨hW2, v, rfl, hf, -⟩ := h
  exact ⟨⟨v, rfl⟩, N, T, a, b, cf_keep hF hW2 (fun p j hK => hf p j (by omega)) (hac.fr (fun k => hf _ k (by omega)) (fun k => hf _ k (by omega)) (fun k => hf _ k (by omega))), ri_fr hW hW2 hA.ri (fun p j q0 q1 => hf p j (by omega)) hR, ag_fr hW hW2 hA.ac (fun p j q0 q1 => hf p j (by omega)) hag, im_fr hW hW2 him (fun p j q0 q1 => hf p j (by omega)) himg, ru_fr hW hW2 hrl (fun p j q0 => hf p j (by omega)) hrul⟩
set_option maxRecDepth 4000 in
theorem cy_look {w : ab_W} {S : fs_S} {wm : ab_W} {c : Int} (h : cy_I w S wm) (hok : fs_ok c S) (hcm : c ≤ 1000) (y1 : Int) (hy1 : ab_in y1) (y2 : Int) (hy2 : ab_in y2) : ab_Mt g_G g_rs mt_Tu_look 4 0 0 [ab_R 0, ab_I y1, ab_I y2] w (cy_Q S wm) := by
  obtain ⟨x, ix, mk, tf, tl, rc, said, was, undone, images, ru⟩ := S
  obtain ⟨N, T, a, b, hF, hR, hag, himg, hrul⟩ := h
  obtain ⟨hW, hA, ⟨kn, kt, krc, ktl, ktf⟩, ⟨hrc, hN⟩, hrl, him, hac, hx, hmd, hix, hseg⟩ := id hF
  obtain ⟨o1, o2, o3, o4, o5, o6, o7, o8⟩ := hok
  have hab := hA.ab
  have hab2 : a = 3 ∨ a = 16 := by omega
  have t0 := tu_of hW hA kn kt krc
  have sA := sg_all o1.1
  refine (tm_Tu_look hW hA kn kt y1 (by omega) (by omega) y2 (by omega) (by omega)).conseq (fun r w2 h => ?_)
  obtain ⟨hW2, v, rfl, hf, -⟩ := h
  exact ⟨⟨v, rfl⟩, N, T, a, b, cf_keep hF hW2 (fun p j hK => hf p j (by omega)) (hac.fr (fun k => hf _ k (by omega)) (fun k => hf _ k (by omega)) (fun k => hf _ k (by omega))), ri_fr hW hW2 hA.ri (fun p j q0 q1 => hf p j (by omega)) hR, ag_fr hW hW2 hA.ac (fun p j q0 q1 => hf p j (by omega)) hag, im_fr hW hW2 him (fun p j q0 q1 => hf p j (by omega)) himg, ru_fr hW hW2 hrl (fun p j q0 => hf p j (by omega)) hrul⟩
set_option maxRecDepth 4000 in
theorem cy_plan {w : ab_W} {S : fs_S} {wm : ab_W} {c : Int} (h : cy_I w S wm) (hok : fs_ok c S) (hcm : c ≤ 1000) (y1 : Int) (hy1 : ab_in y1) (y2 : Int) (hy2 : y2 = 0 ∨ y2 = 1) (y3 : Int) (hy3 : ab_in y3) : ab_Mt g_G g_rs mt_Tu_plan 4 0 0 [ab_R 0, ab_I y1, ab_I y2, ab_I y3] w (cy_Q S wm) := by
  obtain ⟨x, ix, mk, tf, tl, rc, said, was, undone, images, ru⟩ := S
  obtain ⟨N, T, a, b, hF, hR, hag, himg, hrul⟩ := h
  obtain ⟨hW, hA, ⟨kn, kt, krc, ktl, ktf⟩, ⟨hrc, hN⟩, hrl, him, hac, hx, hmd, hix, hseg⟩ := id hF
  obtain ⟨o1, o2, o3, o4, o5, o6, o7, o8⟩ := hok
  have hab := hA.ab
  have hab2 : a = 3 ∨ a = 16 := by omega
  have t0 := tu_of hW hA kn kt krc
  have sA := sg_all o1.1
  refine (tm_Tu_plan hW hA kn kt y1 (by omega) (by omega) y2 (by omega) (by omega) y3 (by omega) (by omega)).conseq (fun r w2 h => ?_)
  obtain ⟨hW2, v, rfl, hf, -⟩ := h
  exact ⟨⟨v, rfl⟩, N, T, a, b, cf_keep hF hW2 (fun p j hK => hf p j (by omega)) (hac.fr (fun k => hf _ k (by omega)) (fun k => hf _ k (by omega)) (fun k => hf _ k (by omega))), ri_fr hW hW2 hA.ri (fun p j q0 q1 => hf p j (by omega)) hR, ag_fr hW hW2 hA.ac (fun p j q0 q1 => hf p j (by omega)) hag, im_fr hW hW2 him (fun p j q0 q1 => hf p j (by omega)) himg, ru_fr hW hW2 hrl (fun p j q0 => hf p j (by omega)) hrul⟩
set_option maxRecDepth 4000 in
theorem cy_apart {w : ab_W} {S : fs_S} {wm : ab_W} {c : Int} (h : cy_I w S wm) (hok : fs_ok c S) (hcm : c ≤ 1000) (y1 : Int) (hy1 : ab_in y1) (y2 : Int) (hy2 : ab_in y2) (y3 : Int) (hy3 : ab_in y3) (y4 : Int) (hy4 : ab_in y4) (y5 : Int) (hy5 : ab_in y5) : ab_Mt g_G g_rs mt_Tu_apart 7 0 0 [ab_R 0, ab_I y1, ab_I y2, ab_I y3, ab_I y4, ab_I y5] w (cy_Q S wm) := by
  obtain ⟨x, ix, mk, tf, tl, rc, said, was, undone, images, ru⟩ := S
  obtain ⟨N, T, a, b, hF, hR, hag, himg, hrul⟩ := h
  obtain ⟨hW, hA, ⟨kn, kt, krc, ktl, ktf⟩, ⟨hrc, hN⟩, hrl, him, hac, hx, hmd, hix, hseg⟩ := id hF
  obtain ⟨o1, o2, o3, o4, o5, o6, o7, o8⟩ := hok
  have hab := hA.ab
  have hab2 : a = 3 ∨ a = 16 := by omega
  have t0 := tu_of hW hA kn kt krc
  have sA := sg_all o1.1
  refine (tm_Tu_apart hW hA kn kt y1 (by omega) (by omega) y2 (by omega) (by omega) y3 (by omega) (by omega) y4 (by omega) (by omega) y5 (by omega) (by omega) rc krc (fun j h0 h1 => by obtain ⟨q, n, k1, k2, -⟩ := hrl j h0 h1; exact ⟨q, n, k1, k2⟩)).conseq (fun r w2 h => ?_)
  obtain ⟨hW2, v, rfl, hf, -⟩ := h
  exact ⟨⟨v, rfl⟩, N, T, a, b, cf_keep hF hW2 (fun p j hK => hf p j (by omega)) (hac.fr (fun k => hf _ k (by omega)) (fun k => hf _ k (by omega)) (fun k => hf _ k (by omega))), ri_fr hW hW2 hA.ri (fun p j q0 q1 => hf p j (by omega)) hR, ag_fr hW hW2 hA.ac (fun p j q0 q1 => hf p j (by omega)) hag, im_fr hW hW2 him (fun p j q0 q1 => hf p j (by omega)) himg, ru_fr hW hW2 hrl (fun p j q0 => hf p j (by omega)) hrul⟩
set_option maxRecDepth 4000 in
theorem cy_hour {w : ab_W} {S : fs_S} {wm : ab_W} {c : Int} (h : cy_I w S wm) (hok : fs_ok c S) (hcm : c ≤ 1000) : ab_Mt g_G g_rs mt_Tu_hour 2 0 0 [ab_R 0] w (cy_A (fa_hour S) (fs_hour S) wm) := by
  obtain ⟨x, ix, mk, tf, tl, rc, said, was, undone, images, ru⟩ := S
  obtain ⟨N, T, a, b, hF, hR, hag, himg, hrul⟩ := h
  obtain ⟨hW, hA, ⟨kn, kt, krc, ktl, ktf⟩, ⟨hrc, hN⟩, hrl, him, hac, hx, hmd, hix, hseg⟩ := id hF
  obtain ⟨o1, o2, o3, o4, o5, o6, o7, o8⟩ := hok
  have hab := hA.ab
  have hab2 : a = 3 ∨ a = 16 := by omega
  have t0 := tu_of hW hA kn kt krc
  have sA := sg_all o1.1
  obtain ⟨ki, f1, s1, nx, hacl, hnx, hu, hin, har⟩ := id hag
  refine (an_mt (co_Tu_hour o1.1 t0 hR hab2 hacl hnx hu) (tm_Tu_hour hW hA kn kt hac) (fun r w' h => h.1) (fun r w' h => by rw [h.1.1, hW.1])).conseq (fun r w2 h => ?_)
  obtain ⟨⟨hW2, v, rfl, hf, l1, u1, hac2⟩, r1, w1, ⟨-, hcase⟩, sm, sr⟩ := h
  have hF2 := cf_keep hF hW2 (fun p j hK => hf p j (by omega)) hac2
  have im2 := im_fr hW hW2 him (fun p j q0 q1 => hf p j (by omega)) himg
  have ru2 := ru_fr hW hW2 hrl (fun p j q0 => hf p j (by omega)) hrul
  rcases hcase with ⟨g, e1, hR1, hA1⟩ | ⟨g, e1, e2⟩
  · have g2 := g
    have rr : -3 ≤ sp_rateNow said ∧ sp_rateNow said ≤ 3 := sA.2.2.2.2.2.2.2.2.2.1 (10 + said 5) (by have := sA.2.2.2.2.2.1; omega) (by have := sA.2.2.2.2.2.1; omega)
    have epass : cs_passAt (sp_rateNow said) said = sp_pass said := cs_pass_sp sA.2.2.2.2.1 g.2
    rw [epass] at e1 hR1
    have hps := o1.pass g.2
    have q4 := (sg_all hps.1).2.2.2.2.1
    have bn : -3 ≤ sp_n said (sp_rateNow said) ∧ sp_n said (sp_rateNow said) ≤ 3 := by unfold sp_n; split <;> omega
    have eq1 : sp_pass said 1 = said 1 := pass_j sA.2.2.2.2.1 (by decide) (by decide) (by decide) (by decide) (by decide)
    have ev := an_int sr e1 rfl (by omega) ⟨by omega, by omega⟩
    have hsg := hps
    have hk := ar_keep (said2 := sp_pass said) har hnx hu sA.2.1.2 (at_4 o1 o3.2) (by rw [eq1]) (Or.inl ⟨rfl, by unfold sp_n; split <;> omega, by unfold sp_n; split <;> omega, sA.2.2.2.2.2.2.2.1⟩) (fun j _ _ => ua_hour sA.2.2.2.2.1 sA.2.2.2.2.2.1 j)
    simp only [fa_hour, fs_hour, if_pos g2]
    refine ⟨by rw [ev], N, T, a, b, hF2, rj_sm hR1 hsg.1 (by omega) sm hW2 hA.ri, ?_, im2, ru2⟩
    have eu : (if 20 < undone + 1 then 20 else undone + 1) = sp_ku undone + 1 := by unfold sp_ku; split <;> split <;> omega
    rw [eu] at hA1
    exact ag_sm sm hW2 hA.ac hA1 (by omega) (by unfold sp_ku; split <;> omega) (fun k k0 k1 => by
      obtain ⟨z1, z2, z3⟩ := hin k k0 k1
      unfold ab_up
      refine ⟨?_, ?_, ?_⟩ <;> split <;> first | assumption | omega) hk
  · subst e2
    have ev := an_int sr e1 rfl (by decide) ⟨by omega, by omega⟩
    simp only [fa_hour, fs_hour, if_neg g]
    exact ⟨by rw [ev], N, T, a, b, hF2, rj_sm hR o1.1 (by omega) sm hW2 hA.ri, ag_sm sm hW2 hA.ac hacl hnx hu hin har, im2, ru2⟩
set_option maxRecDepth 4000 in
theorem cy_rate {w : ab_W} {S : fs_S} {wm : ab_W} {c : Int} (h : cy_I w S wm) (hok : fs_ok c S) (hcm : c ≤ 1000) (y1 : Int) (hy1 : ab_in y1) (y2 : Int) (hy2 : ab_in y2) : ab_Mt g_G g_rs mt_Tu_rate 2 0 0 [ab_R 0, ab_I y1, ab_I y2] w (cy_A (fa_rate S y1 y2) (fs_rate S y1 y2) wm) := by
  obtain ⟨x, ix, mk, tf, tl, rc, said, was, undone, images, ru⟩ := S
  obtain ⟨N, T, a, b, hF, hR, hag, himg, hrul⟩ := h
  obtain ⟨hW, hA, ⟨kn, kt, krc, ktl, ktf⟩, ⟨hrc, hN⟩, hrl, him, hac, hx, hmd, hix, hseg⟩ := id hF
  obtain ⟨o1, o2, o3, o4, o5, o6, o7, o8⟩ := hok
  have hab := hA.ab
  have hab2 : a = 3 ∨ a = 16 := by omega
  have t0 := tu_of hW hA kn kt krc
  have sA := sg_all o1.1
  obtain ⟨ki, f1, s1, nx, hacl, hnx, hu, hin, har⟩ := id hag
  refine (an_mt (co_Tu_rate o1.1 t0 hR hab2 hacl hnx hu y1 hy1 y2 hy2) (tm_Tu_rate hW hA kn kt y1 (by omega) (by omega) y2 (by omega) (by omega) hac) (fun r w' h => h.1) (fun r w' h => by rw [h.1.1, hW.1])).conseq (fun r w2 h => ?_)
  obtain ⟨⟨hW2, v, rfl, hf, l1, u1, hac2⟩, r1, w1, ⟨-, hcase⟩, sm, sr⟩ := h
  have hF2 := cf_keep hF hW2 (fun p j hK => hf p j (by omega)) hac2
  have im2 := im_fr hW hW2 him (fun p j q0 q1 => hf p j (by omega)) himg
  have ru2 := ru_fr hW hW2 hrl (fun p j q0 => hf p j (by omega)) hrul
  rcases hcase with ⟨g, e1, hR1, hA1⟩ | ⟨g, e1, e2⟩
  · have g2 := g
    have rr := sA.2.2.2.2.2.2.2.2.2.1 (10 + y1) (by omega) (by omega)
    have ev := an_int sr e1 rfl (by omega) ⟨by omega, by omega⟩
    have hsg := o1.up (j := 10 + y1) (v := y2) (by unfold sg_lo sg_hi; rw [if_pos (by omega), if_neg (by omega), if_pos (by omega)]; omega) (by omega) (by omega) (by omega) (by omega)
    have hk := ar_keep (said2 := ab_up said (10 + y1) y2) har hnx hu sA.2.1.2 (at_4 o1 o3.2) (ab_upn _ _ (by omega)) (Or.inr (Or.inl ⟨rfl, g.2.1, rr⟩)) (fun j _ _ => ua_rate j)
    simp only [fa_rate, fs_rate, if_pos g2]
    refine ⟨by rw [ev], N, T, a, b, hF2, rj_sm hR1 hsg.1 (by omega) sm hW2 hA.ri, ?_, im2, ru2⟩
    have eu : (if 20 < undone + 1 then 20 else undone + 1) = sp_ku undone + 1 := by unfold sp_ku; split <;> split <;> omega
    rw [eu] at hA1
    exact ag_sm sm hW2 hA.ac hA1 (by omega) (by unfold sp_ku; split <;> omega) (fun k k0 k1 => by
      obtain ⟨z1, z2, z3⟩ := hin k k0 k1
      unfold ab_up
      refine ⟨?_, ?_, ?_⟩ <;> split <;> first | assumption | omega) hk
  · subst e2
    have ev := an_int sr e1 rfl (by decide) ⟨by omega, by omega⟩
    simp only [fa_rate, fs_rate, if_neg g]
    exact ⟨by rw [ev], N, T, a, b, hF2, rj_sm hR o1.1 (by omega) sm hW2 hA.ri, ag_sm sm hW2 hA.ac hacl hnx hu hin har, im2, ru2⟩
set_option maxRecDepth 4000 in
theorem cy_swap {w : ab_W} {S : fs_S} {wm : ab_W} {c : Int} (h : cy_I w S wm) (hok : fs_ok c S) (hcm : c ≤ 1000) (y1 : Int) (hy1 : ab_in y1) (y2 : Int) (hy2 : ab_in y2) : ab_Mt g_G g_rs mt_Tu_swap 2 0 0 [ab_R 0, ab_I y1, ab_I y2] w (cy_A (fa_swap S y1 y2) (fs_swap S y1 y2) wm) := by
  obtain ⟨x, ix, mk, tf, tl, rc, said, was, undone, images, ru⟩ := S
  obtain ⟨N, T, a, b, hF, hR, hag, himg, hrul⟩ := h
  obtain ⟨hW, hA, ⟨kn, kt, krc, ktl, ktf⟩, ⟨hrc, hN⟩, hrl, him, hac, hx, hmd, hix, hseg⟩ := id hF
  obtain ⟨o1, o2, o3, o4, o5, o6, o7, o8⟩ := hok
  have hab := hA.ab
  have hab2 : a = 3 ∨ a = 16 := by omega
  have t0 := tu_of hW hA kn kt krc
  have sA := sg_all o1.1
  obtain ⟨ki, f1, s1, nx, hacl, hnx, hu, hin, har⟩ := id hag
  refine (an_mt (co_Tu_swap o1.1 t0 hR hab2 hacl hnx hu y1 hy1 y2 hy2) (tm_Tu_swap hW hA kn kt y1 (by omega) (by omega) y2 (by omega) (by omega) hac) (fun r w' h => h.1) (fun r w' h => by rw [h.1.1, hW.1])).conseq (fun r w2 h => ?_)
  obtain ⟨⟨hW2, v, rfl, hf, l1, u1, hac2⟩, r1, w1, ⟨-, hcase⟩, sm, sr⟩ := h
  have hF2 := cf_keep hF hW2 (fun p j hK => hf p j (by omega)) hac2
  have im2 := im_fr hW hW2 him (fun p j q0 q1 => hf p j (by omega)) himg
  have ru2 := ru_fr hW hW2 hrl (fun p j q0 => hf p j (by omega)) hrul
  rcases hcase with ⟨g, e1, hR1, hA1⟩ | ⟨g, e1, e2⟩
  · have g2 := g
    have b1 := sA.2.1.2
    have hi : ∀ k : Int, 46 ≤ k → k < 53 → sg_lo k = 0 ∧ sg_hi k = 11 := fun k h0 h1 => by unfold sg_lo sg_hi; rw [if_neg (by omega), if_neg (by omega), if_neg (by omega), if_neg (by omega), if_neg (by omega), if_pos (by omega)]; exact ⟨rfl, rfl⟩
    have s1' := o1.1.1 (46 + y1) (by omega) (by omega)
    have s2' := o1.1.1 (46 + y2) (by omega) (by omega)
    have q1 := hi (46 + y1) (by omega) (by omega)
    have q2 := hi (46 + y2) (by omega) (by omega)
    have ev := an_int sr e1 rfl (by decide) ⟨by omega, by omega⟩
    have hsg := (o1.up (j := 46 + y1) (v := said (46 + y2)) (by omega) (by omega) (by omega) (by omega) (by omega)).up (j := 46 + y2) (v := said (46 + y1)) (by omega) (by omega) (by omega) (by omega) (by omega)
    have hk := ar_keep (said2 := ab_up (ab_up said (46 + y1) (said (46 + y2))) (46 + y2) (said (46 + y1))) har hnx hu sA.2.1.2 (at_4 o1 o3.2) ((ab_upn _ _ (by omega)).trans (ab_upn _ _ (by omega))) (Or.inr (Or.inr (Or.inl ⟨rfl, g.1, g.2.1⟩))) (fun j _ _ => ua_swap j)
    simp only [fa_swap, fs_swap, if_pos g2]
    refine ⟨by rw [ev], N, T, a, b, hF2, rj_sm hR1 hsg.1 (by omega) sm hW2 hA.ri, ?_, im2, ru2⟩
    have eu : (if 20 < undone + 1 then 20 else undone + 1) = sp_ku undone + 1 := by unfold sp_ku; split <;> split <;> omega
    rw [eu] at hA1
    exact ag_sm sm hW2 hA.ac hA1 (by omega) (by unfold sp_ku; split <;> omega) (fun k k0 k1 => by
      obtain ⟨z1, z2, z3⟩ := hin k k0 k1
      unfold ab_up
      refine ⟨?_, ?_, ?_⟩ <;> split <;> first | assumption | omega) hk
  · subst e2
    have ev := an_int sr e1 rfl (by decide) ⟨by omega, by omega⟩
    simp only [fa_swap, fs_swap, if_neg g]
    exact ⟨by rw [ev], N, T, a, b, hF2, rj_sm hR o1.1 (by omega) sm hW2 hA.ri, ag_sm sm hW2 hA.ac hacl hnx hu hin har, im2, ru2⟩
set_option maxRecDepth 4000 in
theorem cy_stop {w : ab_W} {S : fs_S} {wm : ab_W} {c : Int} (h : cy_I w S wm) (hok : fs_ok c S) (hcm : c ≤ 1000) : ab_Mt g_G g_rs mt_Tu_stop 2 0 0 [ab_R 0] w (cy_A (fa_stop S) (fs_stop S) wm) := by
  obtain ⟨x, ix, mk, tf, tl, rc, said, was, undone, images, ru⟩ := S
  obtain ⟨N, T, a, b, hF, hR, hag, himg, hrul⟩ := h
  obtain ⟨hW, hA, ⟨kn, kt, krc, ktl, ktf⟩, ⟨hrc, hN⟩, hrl, him, hac, hx, hmd, hix, hseg⟩ := id hF
  obtain ⟨o1, o2, o3, o4, o5, o6, o7, o8⟩ := hok
  have hab := hA.ab
  have hab2 : a = 3 ∨ a = 16 := by omega
  have t0 := tu_of hW hA kn kt krc
  have sA := sg_all o1.1
  obtain ⟨ki, f1, s1, nx, hacl, hnx, hu, hin, har⟩ := id hag
  refine (an_mt (co_Tu_stop o1.1 t0 hR hab2 hacl hnx hu) (tm_Tu_stop hW hA kn kt hac) (fun r w' h => h.1) (fun r w' h => by rw [h.1.1, hW.1])).conseq (fun r w2 h => ?_)
  obtain ⟨⟨hW2, v, rfl, hf, l1, u1, hac2⟩, r1, w1, ⟨-, hcase⟩, sm, sr⟩ := h
  have hF2 := cf_keep hF hW2 (fun p j hK => hf p j (by omega)) hac2
  have im2 := im_fr hW hW2 him (fun p j q0 q1 => hf p j (by omega)) himg
  have ru2 := ru_fr hW hW2 hrl (fun p j q0 => hf p j (by omega)) hrul
  rcases hcase with ⟨g, e1, hR1, hA1⟩ | ⟨g, e1, e2⟩
  · have g2 := g
    have b8 := o1.2
    have ev := an_int sr e1 rfl (by decide) ⟨by omega, by omega⟩
    have hsg := ((o1.mono.up (j := 7) (v := 1) (by decide) (by decide) (by decide) (by omega) (by decide)).up (j := 8) (v := said 8 + 1) (by rw [show sg_lo 8 = 0 by decide, show sg_hi 8 = 100000 by decide]; have := sA.2.2.2.2.2.2.2.2.1; omega) (by decide) (by decide) (by omega) (by decide))
    have hk := ar_keep (said2 := ab_up (ab_up said 7 1) 8 (said 8 + 1)) har hnx hu sA.2.1.2 (at_4 o1 o3.2) ((ab_upn _ _ (by decide)).trans (ab_upn _ _ (by decide))) (Or.inr (Or.inr (Or.inr ⟨rfl, rfl, rfl⟩))) (fun j _ _ => ua_stop g.2 j)
    simp only [fa_stop, fs_stop, if_pos g2]
    refine ⟨by rw [ev], N, T, a, b, hF2, rj_sm hR1 hsg.1 (by omega) sm hW2 hA.ri, ?_, im2, ru2⟩
    have eu : (if 20 < undone + 1 then 20 else undone + 1) = sp_ku undone + 1 := by unfold sp_ku; split <;> split <;> omega
    rw [eu] at hA1
    exact ag_sm sm hW2 hA.ac hA1 (by omega) (by unfold sp_ku; split <;> omega) (fun k k0 k1 => by
      obtain ⟨z1, z2, z3⟩ := hin k k0 k1
      unfold ab_up
      refine ⟨?_, ?_, ?_⟩ <;> split <;> first | assumption | omega) hk
  · subst e2
    have ev := an_int sr e1 rfl (by decide) ⟨by omega, by omega⟩
    simp only [fa_stop, fs_stop, if_neg g]
    exact ⟨by rw [ev], N, T, a, b, hF2, rj_sm hR o1.1 (by omega) sm hW2 hA.ri, ag_sm sm hW2 hA.ac hacl hnx hu hin har, im2, ru2⟩
