theorem ri_re_cp_j {f sl fs vo li ra wo dh da ds dn sl2 fs2 vo2 li2 ra2 wo2 dh2 da2 ds2 dn2 : Int → Int} {vw vw2 : Int → Int64} (re : ri_re_j f sl fs vo li ra wo dh da ds dn vw) (g1b : f 1 ≤ 7) (g9 : f 190 ≤ 10) : ri_re_j f (ab_cp sl sl2 0 0 7) (ab_cp fs fs2 0 0 7) (ab_cp vo vo2 0 0 7) (ab_cp li li2 0 0 35) (ab_cp ra ra2 0 0 24) (ab_cp wo wo2 0 0 12) (ab_cp dh dh2 0 0 10) (ab_cp da da2 0 0 10) (ab_cp ds ds2 0 0 10) (ab_cp dn dn2 0 0 10) (ab_cp vw vw2 0 0 24) := by
  obtain ⟨e1, e2, e3, e4, e5, e6, e7, e8, e9⟩ := re
  refine ⟨fun k a b => ?_, fun k a b => ?_, fun k a b => ?_, fun k a b => ?_, fun k a b => ?_, fun k a b => ?_, fun d h a b c e => ?_, fun k a b => ?_, fun k a b => ?_⟩
  · rw [ab_cp_in _ _ a (by omega), ab_cp_in _ _ a (by omega), ab_cp_in _ _ a (by omega)]; exact e1 k a b
  · rw [ab_cp_in _ _ a (by omega), ab_cp_in _ _ a (by omega), ab_cp_in _ _ a (by omega)]; exact e2 k a b
  · rw [ab_cp_in _ _ a (by omega)]; exact e3 k a b
  · rw [ab_cp_in _ _ a (by omega)]; exact e4 k a b
  · rw [ab_cp_in _ _ a (by omega)]; exact e5 k a b
  · rw [ab_cp_in _ _ a (by omega)]; exact e6 k a b
  · unfold cs_sorts
    rw [ab_cp_in _ _ c (by omega)]
    exact e7 d h a b c e
  · rw [ab_cp_in _ _ a (by omega), ab_cp_in _ _ a (by omega), ab_cp_in _ _ a (by omega), ab_cp_in _ _ a (by omega)]; exact e8 k a b
  · rw [ab_cp_in _ _ a (by omega), ab_cp_in _ _ a (by omega), ab_cp_in _ _ a (by omega), ab_cp_in _ _ a (by omega)]; exact e9 k a b
/-- a Ring copied -/
theorem cf_Ri_copyFrom_j {o p : Nat} {f g : Int → Int} {x y B : Int} {w : ab_W} (hI : sg_ok B f) (hR : ri_at_j p f x w) (hT : ri_at_j o g y w) (hd : o + 13 ≤ p ∨ p + 13 ≤ o) : ab_Mt g_G g_rs mt_Ri_copyFrom 2 0 0 [ab_R o, ab_R p] w (fun r w2 => r = none ∧ ri_at_j o f x w2 ∧ ri_at_j p f x w2 ∧ fr_at o 13 w w2) := by
  obtain ⟨i0, i1, i2, i3, i4, i5, i6, i7, hzz⟩ := sg_all hI
  obtain ⟨i8, i9, i10, i11, i12, i13, i14, i15, hzz⟩ := hzz
  obtain ⟨i16, i17⟩ := hzz
  obtain ⟨slp, fsp, vop, lip, rap, wop, dhp, dap, dsp, dnp, vwp, hp, rep⟩ := ri_un_j hR
  obtain ⟨sl, fs, vo, li, ra, wo, dh, da, ds, dn, vw, hC, re⟩ := ri_un_j hT
  refine ab_Mt.conseq (fun r w2 h => ?_) (co_Ri_copyFrom hC hp hd i0 i7)
  exact ⟨h.1, ri_mk_j rfl rfl rfl rfl rfl rfl rfl rfl rfl rfl h.2.1 (ri_re_cp_j rep (by omega) (by omega)), ri_mk_j rfl rfl rfl rfl rfl rfl rfl rfl rfl rfl h.2.2.1 rep, h.2.2.2⟩
