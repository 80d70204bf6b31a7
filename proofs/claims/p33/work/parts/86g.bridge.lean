/-! worlds by shape and worlds by cells -/
theorem br_ai {N : Nat} {T : Nat → tm_S} {w w2 : ab_W} {p t n : Nat} {lo hi : Int} (h : tm_W N T w) (h2 : tm_W N T w2) (hS : T p = tm_ai t n lo hi) (e : ∀ j, tm_g w2 p j = tm_g w p j) : w2[p]? = w[p]? := by
  have a := h.2.1 p
  have b := h2.2.1 p
  rw [hS] at a b
  obtain ⟨f, ha, -⟩ := a
  obtain ⟨g, hb, -⟩ := b
  have eg : g = f := funext (fun k => by
    have z := e k
    unfold tm_g at z
    rw [ha, hb] at z
    have z2 : some (ab_I (g k)) = some (ab_I (f k)) := z
    injection z2 with z2
    injection z2)
  rw [ha, hb, eg]
theorem br_al {N : Nat} {T : Nat → tm_S} {w w2 : ab_W} {p n : Nat} (h : tm_W N T w) (h2 : tm_W N T w2) (hS : T p = tm_al n) (e : ∀ j, tm_g w2 p j = tm_g w p j) : w2[p]? = w[p]? := by
  have a := h.2.1 p
  have b := h2.2.1 p
  rw [hS] at a b
  obtain ⟨f, ha⟩ := a
  obtain ⟨g, hb⟩ := b
  have eg : g = f := funext (fun k => by
    have z := e k
    unfold tm_g at z
    rw [ha, hb] at z
    have z2 : some (ab_J (g k)) = some (ab_J (f k)) := z
    injection z2 with z2
    injection z2 with z2
    injection z2)
  rw [ha, hb, eg]
theorem br_o {N : Nat} {T : Nat → tm_S} {w w2 : ab_W} {p c : Nat} {fs : List tm_F} (h : tm_W N T w) (h2 : tm_W N T w2) (hS : T p = tm_o c fs) (e : ∀ j, tm_g w2 p j = tm_g w p j) : w2[p]? = w[p]? := by
  obtain ⟨va, ha, -, -⟩ := tm_cell h hS
  obtain ⟨vb, hb, -, -⟩ := tm_cell h2 hS
  have ev : vb = va := List.ext_getElem? (fun k => by
    have z := e (k : Int)
    unfold tm_g at z
    rw [ha, hb] at z
    have z2 : (if (0 : Int) ≤ (k : Int) then vb[(k : Int).toNat]? else none) = (if (0 : Int) ≤ (k : Int) then va[(k : Int).toNat]? else none) := z
    rw [if_pos (by omega), if_pos (by omega), Int.toNat_natCast] at z2
    exact z2)
  rw [ha, hb, ev]
theorem br_ri {N : Nat} {T : Nat → tm_S} {w w2 : ab_W} {o : Nat} (h : tm_W N T w) (h2 : tm_W N T w2) (hS : is_Ri T o) (e : ∀ (p : Nat) (j : Int), o ≤ p → p < o + 13 → tm_g w2 p j = tm_g w p j) : ∀ p, o ≤ p → p < o + 13 → w2[p]? = w[p]? := by
  obtain ⟨t0, t1, t2, t3, t4, t5, t6, t7, t8, t9, t10, t11, t12⟩ := hS
  intro p h0 h1
  rcases (by omega : p = o ∨ p = o + 1 ∨ p = o + 2 ∨ p = o + 3 ∨ p = o + 4 ∨ p = o + 5 ∨ p = o + 6 ∨ p = o + 7 ∨ p = o + 8 ∨ p = o + 9 ∨ p = o + 10 ∨ p = o + 11 ∨ p = o + 12) with z | z | z | z | z | z | z | z | z | z | z | z | z <;> subst z
  · exact br_o h h2 t0 (fun j => e _ j h0 h1)
  · exact br_ai h h2 t1 (fun j => e _ j h0 h1)
  · exact br_ai h h2 t2 (fun j => e _ j h0 h1)
  · exact br_ai h h2 t3 (fun j => e _ j h0 h1)
  · exact br_ai h h2 t4 (fun j => e _ j h0 h1)
  · exact br_al h h2 t5 (fun j => e _ j h0 h1)
  · exact br_ai h h2 t6 (fun j => e _ j h0 h1)
  · exact br_ai h h2 t7 (fun j => e _ j h0 h1)
  · exact br_o h h2 t8 (fun j => e _ j h0 h1)
  · exact br_ai h h2 t9 (fun j => e _ j h0 h1)
  · exact br_ai h h2 t10 (fun j => e _ j h0 h1)
  · exact br_ai h h2 t11 (fun j => e _ j h0 h1)
  · exact br_ai h h2 t12 (fun j => e _ j h0 h1)
theorem br_ac {N : Nat} {T : Nat → tm_S} {w w2 : ab_W} {c : Nat} {ki f1 s1 : Int → Int} {sz nx : Int} (h : tm_W N T w) (h2 : tm_W N T w2) (hS : is_Ac T c) (e : ∀ (p : Nat) (j : Int), c ≤ p → p < c + 4 → tm_g w2 p j = tm_g w p j) (ha : acl c ki f1 s1 sz nx w) : acl c ki f1 s1 sz nx w2 := by
  obtain ⟨t0, t1, t2, t3⟩ := hS
  obtain ⟨a0, a1, a2, a3⟩ := ha
  exact ⟨(br_o h h2 t0 (fun j => e _ j (by omega) (by omega))).trans a0, (br_ai h h2 t1 (fun j => e _ j (by omega) (by omega))).trans a1, (br_ai h h2 t2 (fun j => e _ j (by omega) (by omega))).trans a2, (br_ai h h2 t3 (fun j => e _ j (by omega) (by omega))).trans a3⟩
theorem an_a {N : Nat} {T : Nat → tm_S} {w1 w2 : ab_W} {p t n : Nat} {lo hi : Int} {g : Int → Int} (sm : an_sm w1 w2) (h2 : tm_W N T w2) (hS : T p = tm_ai t n lo hi) (hlo : -2147483648 ≤ lo) (hhi : hi ≤ 2147483647) (e1 : w1[p]? = some (ab_ai t n g)) : ∃ g2 : Int → Int, w2[p]? = some (ab_ai t n g2) ∧ ∀ k : Int, 0 ≤ k → k < n → ab_in (g k) → g2 k = g k := by
  have b := h2.2.1 p
  rw [hS] at b
  obtain ⟨g2, hb, hbd⟩ := b
  refine ⟨g2, hb, fun k h0 h1 hg => ?_⟩
  have z := sm.1 p t n t g g2 e1 hb k.toNat (by omega)
  rw [Int.toNat_of_nonneg h0] at z
  have hk := hbd k
  exact ((ab_eq hg (by omega)).mp z).symm
theorem an_l {N : Nat} {T : Nat → tm_S} {w1 w2 : ab_W} {p n : Nat} {g : Int → Int64} (sm : an_sm w1 w2) (h2 : tm_W N T w2) (hS : T p = tm_al n) (e1 : w1[p]? = some (ab_al n g)) : ∃ g2 : Int → Int64, w2[p]? = some (ab_al n g2) ∧ ∀ k : Int, 0 ≤ k → k < n → g2 k = g k := by
  have b := h2.2.1 p
  rw [hS] at b
  obtain ⟨g2, hb⟩ := b
  refine ⟨g2, hb, fun k h0 h1 => ?_⟩
  have z := sm.2.1 p n g g2 e1 hb k.toNat (by omega)
  rw [Int.toNat_of_nonneg h0] at z
  exact z.symm
theorem an_f {w1 w2 : ab_W} {p c k : Nat} {r : vw_C} {fs vs : List ab_V} {Fs : List tm_F} {lo hi a : Int} (sm : an_sm w1 w2) (hr : g_G.1[c]? = some r) (hk : k < r.2.2) (e1 : w1[p]? = some (ab_ob c fs)) (e2 : w2[p]? = some (ab_ob c vs)) (hv : ∀ (k : Nat) (F : tm_F), Fs[k]? = some F → ∃ v, vs[k]? = some v ∧ F v) (hF : Fs[k]? = some (tm_i lo hi)) (hlo : -2147483648 ≤ lo) (hhi : hi ≤ 2147483647) (ha : fs[k]? = some (ab_I a)) (hin : ab_in a) : vs[k]? = some (ab_I a) := by
  obtain ⟨v, hv1, b, rfl, h0, h1⟩ := hv k _ hF
  have z := sm.2.2 p c r fs vs hr e1 e2 k a b hk ha hv1
  rw [hv1, (ab_eq hin (by omega)).mp z]
theorem an_r {k : Nat} {vs : List ab_V} {Fs : List tm_F} {q : Nat} (hv : ∀ (k : Nat) (F : tm_F), Fs[k]? = some F → ∃ v, vs[k]? = some v ∧ F v) (hF : Fs[k]? = some (tm_r q)) : vs[k]? = some (ab_R q) := by
  obtain ⟨v, hv1, hv2⟩ := hv k _ hF
  rw [hv1]
  exact congrArg some hv2
theorem an_l18 {vs : List ab_V} {v0 v1 v2 v3 v4 v5 v6 v7 v8 v9 v10 v11 v12 v13 v14 v15 v16 v17 : ab_V} (hl : vs.length = 18) (h0 : vs[0]? = some v0) (h1 : vs[1]? = some v1) (h2 : vs[2]? = some v2) (h3 : vs[3]? = some v3) (h4 : vs[4]? = some v4) (h5 : vs[5]? = some v5) (h6 : vs[6]? = some v6) (h7 : vs[7]? = some v7) (h8 : vs[8]? = some v8) (h9 : vs[9]? = some v9) (h10 : vs[10]? = some v10) (h11 : vs[11]? = some v11) (h12 : vs[12]? = some v12) (h13 : vs[13]? = some v13) (h14 : vs[14]? = some v14) (h15 : vs[15]? = some v15) (h16 : vs[16]? = some v16) (h17 : vs[17]? = some v17) : vs = [v0, v1, v2, v3, v4, v5, v6, v7, v8, v9, v10, v11, v12, v13, v14, v15, v16, v17] := List.ext_getElem? (fun i => match i with
  | 0 => h0
  | 1 => h1
  | 2 => h2
  | 3 => h3
  | 4 => h4
  | 5 => h5
  | 6 => h6
  | 7 => h7
  | 8 => h8
  | 9 => h9
  | 10 => h10
  | 11 => h11
  | 12 => h12
  | 13 => h13
  | 14 => h14
  | 15 => h15
  | 16 => h16
  | 17 => h17
  | i + 18 => by rw [List.getElem?_eq_none (by omega)]; rfl)
theorem an_l5 {vs : List ab_V} {v0 v1 v2 v3 v4 : ab_V} (hl : vs.length = 5) (h0 : vs[0]? = some v0) (h1 : vs[1]? = some v1) (h2 : vs[2]? = some v2) (h3 : vs[3]? = some v3) (h4 : vs[4]? = some v4) : vs = [v0, v1, v2, v3, v4] := List.ext_getElem? (fun i => match i with
  | 0 => h0
  | 1 => h1
  | 2 => h2
  | 3 => h3
  | 4 => h4
  | i + 5 => by rw [List.getElem?_eq_none (by omega)]; rfl)
theorem rj_sm {N : Nat} {T : Nat → tm_S} {w1 w2 : ab_W} {o : Nat} {f : Int → Int} {x B : Int} (h : ri_at_j o f x w1) (hI : sg_ok B f) (hx : ab_in x) (sm : an_sm w1 w2) (h2 : tm_W N T w2) (hS : is_Ri T o) : ri_at_j o f x w2 := by
  obtain ⟨i0, i1, i2, i3, i4, i5, i6, i7, hzz⟩ := sg_all hI
  obtain ⟨i8, i9, i10, i11, i12, i13, i14, i15, hzz⟩ := hzz
  obtain ⟨i16, i17⟩ := hzz
  obtain ⟨sl, fs, vo, li, ra, wo, dh, da, hzz⟩ := h
  obtain ⟨ds, dn, vw, q0, q1, q2, q3, q4, hzz⟩ := hzz
  obtain ⟨q5, q6, q7, q8, q9, q10, q11, q12, hzz⟩ := hzz
  obtain ⟨e1, e2, e3, e4, e5, e6, e7, e8, e9⟩ := hzz
  obtain ⟨t0, t1, t2, t3, t4, t5, t6, t7, t8, t9, t10, t11, t12⟩ := hS
  obtain ⟨vs, c0, cl, cv⟩ := tm_cell h2 t0
  obtain ⟨vd, d0, dl, dv⟩ := tm_cell h2 t8
  obtain ⟨sl2, c1, k_sl⟩ := an_a sm h2 t1 (by decide) (by decide) q1
  obtain ⟨fs2, c2, k_fs⟩ := an_a sm h2 t2 (by decide) (by decide) q2
  obtain ⟨vo2, c3, k_vo⟩ := an_a sm h2 t3 (by decide) (by decide) q3
  obtain ⟨li2, c4, k_li⟩ := an_a sm h2 t4 (by decide) (by decide) q4
  obtain ⟨ra2, c6, k_ra⟩ := an_a sm h2 t6 (by decide) (by decide) q6
  obtain ⟨wo2, c7, k_wo⟩ := an_a sm h2 t7 (by decide) (by decide) q7
  obtain ⟨dh2, c9, k_dh⟩ := an_a sm h2 t9 (by decide) (by decide) q9
  obtain ⟨da2, c10, k_da⟩ := an_a sm h2 t10 (by decide) (by decide) q10
  obtain ⟨ds2, c11, k_ds⟩ := an_a sm h2 t11 (by decide) (by decide) q11
  obtain ⟨dn2, c12, k_dn⟩ := an_a sm h2 t12 (by decide) (by decide) q12
  obtain ⟨vw2, c5, k_vw⟩ := an_l sm h2 t5 q5
  have ev := an_l18 cl (an_f (k := 0) sm rfl (by decide) q0 c0 cv rfl (by decide) (by decide) rfl (by omega)) (an_f (k := 1) sm rfl (by decide) q0 c0 cv rfl (by decide) (by decide) rfl (by omega)) (an_f (k := 2) sm rfl (by decide) q0 c0 cv rfl (by decide) (by decide) rfl (by omega)) (an_f (k := 3) sm rfl (by decide) q0 c0 cv rfl (by decide) (by decide) rfl (by omega)) (an_f (k := 4) sm rfl (by decide) q0 c0 cv rfl (by decide) (by decide) rfl (by omega)) (an_f (k := 5) sm rfl (by decide) q0 c0 cv rfl (by decide) (by decide) rfl (by omega)) (an_f (k := 6) sm rfl (by decide) q0 c0 cv rfl (by decide) (by decide) rfl (by omega)) (an_f (k := 7) sm rfl (by decide) q0 c0 cv rfl (by decide) (by decide) rfl (by omega)) (an_f (k := 8) sm rfl (by decide) q0 c0 cv rfl (by decide) (by decide) rfl (by omega)) (an_f (k := 9) sm rfl (by decide) q0 c0 cv rfl (by decide) (by decide) rfl (by omega)) (an_r (k := 10) cv rfl) (an_r (k := 11) cv rfl) (an_r (k := 12) cv rfl) (an_r (k := 13) cv rfl) (an_r (k := 14) cv rfl) (an_r (k := 15) cv rfl) (an_r (k := 16) cv rfl) (an_r (k := 17) cv rfl)
  have ed := an_l5 dl (an_f (k := 0) sm rfl (by decide) q8 d0 dv rfl (by decide) (by decide) rfl (by omega)) (an_r (k := 1) dv rfl) (an_r (k := 2) dv rfl) (an_r (k := 3) dv rfl) (an_r (k := 4) dv rfl)
  rw [ev] at c0
  rw [ed] at d0
  refine ⟨sl2, fs2, vo2, li2, ra2, wo2, dh2, da2, ds2, dn2, vw2, c0, c1, c2, c3, c4, c5, c6, c7, d0, c9, c10, c11, c12, fun k a b => ?_, fun k a b => ?_, fun k a b => ?_, fun k a b => ?_, fun k a b => ?_, fun k a b => ?_, fun d h a b c e => ?_, fun k a b => ?_, fun k a b => ?_⟩
  · have z := e1 k a b
    rw [k_sl k a (by omega) (by omega), k_fs k a (by omega) (by omega), k_vo k a (by omega) (by omega)]
    exact z
  · have z := e1 k a b
    rw [k_sl k a (by omega) (by omega), k_fs k a (by omega) (by omega), k_vo k a (by omega) (by omega)]
    exact e2 k a b
  · have z := e3 k a b
    rw [k_li k a (by omega) (by omega)]
    exact z
  · have z := e3 k a b
    rw [k_li k a (by omega) (by omega)]
    exact e4 k a b
  · have z := e5 k a b
    have y := i9 (10 + k) (by omega) (by omega)
    rw [k_ra k a (by omega) (by omega)]
    exact z
  · have z := e6 k a b
    have y := i10 (34 + k) (by omega) (by omega)
    rw [k_wo k a (by omega) (by omega)]
    exact z
  · have z := e7 d h a b c e
    unfold cs_sorts at z ⊢
    rw [k_vw h c (by omega)]
    exact z
  · have z := e8 k a b
    rw [k_dh k a (by omega) (by omega), k_da k a (by omega) (by omega), k_ds k a (by omega) (by omega), k_dn k a (by omega) (by omega)]
    exact z
  · have z := e8 k a b
    rw [k_dh k a (by omega) (by omega), k_da k a (by omega) (by omega), k_ds k a (by omega) (by omega), k_dn k a (by omega) (by omega)]
    exact e9 k a b
theorem acl_sm {N : Nat} {T : Nat → tm_S} {w1 w2 : ab_W} {c : Nat} {ki f1 s1 : Int → Int} {sz nx : Int} (h : acl c ki f1 s1 sz nx w1) (hsz : ab_in sz) (hnx : ab_in nx) (hin : ∀ k, 0 ≤ k → k < 20 → ab_in (ki k) ∧ ab_in (f1 k) ∧ ab_in (s1 k)) (sm : an_sm w1 w2) (h2 : tm_W N T w2) (hS : is_Ac T c) : ∃ k2 f2 s2 : Int → Int, acl c k2 f2 s2 sz nx w2 ∧ ∀ k, 0 ≤ k → k < 20 → k2 k = ki k ∧ f2 k = f1 k ∧ s2 k = s1 k := by
  obtain ⟨q0, q1, q2, q3⟩ := h
  obtain ⟨t0, t1, t2, t3⟩ := hS
  obtain ⟨vs, c0, cl, cv⟩ := tm_cell h2 t0
  obtain ⟨k2, c1, z1⟩ := an_a sm h2 t1 (by decide) (by decide) q1
  obtain ⟨f2, c2, z2⟩ := an_a sm h2 t2 (by decide) (by decide) q2
  obtain ⟨s2, c3, z3⟩ := an_a sm h2 t3 (by decide) (by decide) q3
  have ev := an_l5 cl (an_r (k := 0) cv rfl) (an_r (k := 1) cv rfl) (an_r (k := 2) cv rfl) (an_f (k := 3) sm rfl (by decide) q0 c0 cv rfl (by decide) (by decide) rfl hsz) (an_f (k := 4) sm rfl (by decide) q0 c0 cv rfl (by decide) (by decide) rfl hnx)
  rw [ev] at c0
  exact ⟨k2, f2, s2, ⟨c0, c1, c2, c3⟩, fun k h0 h1 => ⟨z1 k h0 h1 (hin k h0 h1).1, z2 k h0 h1 (hin k h0 h1).2.1, z3 k h0 h1 (hin k h0 h1).2.2⟩⟩
theorem an_int {r1 r2 : Option ab_V} {a b : Int} (h : an_sr r1 r2) (e1 : r1 = some (ab_I a)) (e2 : r2 = some (ab_I b)) (ha : ab_in a) (hb : ab_in b) : b = a := ((ab_eq ha hb).mp (h a b e1 e2)).symm
/-- a Ring whose row is said otherwise, where it counts the same -/
theorem rj_cg {o : Nat} {f g : Int → Int} {x B : Int} {w : ab_W} (h : ri_at_j o f x w) (hI : sg_ok B f) (e : ∀ k, 0 ≤ k → k < 191 → g k = f k) : ri_at_j o g x w := by
  obtain ⟨i0, i1, i2, i3, i4, i5, i6, i7, hzz⟩ := sg_all hI
  obtain ⟨i8, i9, i10, i11, i12, i13, i14, i15, hzz⟩ := hzz
  obtain ⟨i16, i17⟩ := hzz
  obtain ⟨sl, fs, vo, li, ra, wo, dh, da, ds, dn, vw, hC, re⟩ := ri_un_j h
  have u : ∀ j, 0 ≤ j → j < 191 → g j = f j := e
  refine ri_mk_j (u 0 (by omega) (by omega)) (u 4 (by omega) (by omega)) (u 5 (by omega) (by omega)) (u 6 (by omega) (by omega)) (u 7 (by omega) (by omega)) (u 8 (by omega) (by omega)) (u 1 (by omega) (by omega)) (u 2 (by omega) (by omega)) (u 3 (by omega) (by omega)) (u 190 (by omega) (by omega)) hC (rj_re_up re (by omega) (by omega) (fun j hj => u j (by omega) (by omega)) (fun k a b => ?_) (fun k a b => ?_) (fun k a b => ?_) (fun k a b => ?_))
  · rw [u _ (by omega) (by omega)]
    exact re.2.2.2.2.1 k a b
  · rw [u _ (by omega) (by omega)]
    exact re.2.2.2.2.2.1 k a b
  · rw [u _ (by omega) (by omega)] at b
    exact re.2.2.2.2.2.2.2.1 k a b
  · rw [u _ (by omega) (by omega)] at b
    rw [u _ (by omega) (by omega), u _ (by omega) (by omega), u _ (by omega) (by omega), u _ (by omega) (by omega)]
    exact re.2.2.2.2.2.2.2.2 k a b
