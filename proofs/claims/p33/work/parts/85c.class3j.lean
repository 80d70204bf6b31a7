def ri_re_j (f sl fs vo li ra wo dh da ds dn : Int → Int) (vw : Int → Int64) : Prop := (∀ k, 0 ≤ k → k < f 1 → (0 ≤ sl k ∧ sl k ≤ 11) ∧ (0 ≤ fs k ∧ fs k ≤ 11) ∧ (0 ≤ vo k ∧ vo k ≤ 9)) ∧ (∀ k, 0 ≤ k → k < f 1 → sl k = f (46 + k) ∧ fs k = f (143 + k) ∧ vo k = f (53 + k)) ∧ (∀ k, 0 ≤ k → k < 5 * f 1 → -9 ≤ li k ∧ li k ≤ 9) ∧ (∀ k, 0 ≤ k → k < 5 * f 1 → li k = f (60 + k)) ∧ (∀ k, 0 ≤ k → k < 24 → ra k = f (10 + k)) ∧ (∀ k, 0 ≤ k → k < 12 → wo k = f (34 + k)) ∧ (∀ d h, 0 ≤ d → d ≤ 11 → 0 ≤ h → h ≤ 23 → cs_sorts vw d h = ((sp_sortsAt f d h : Nat) : Int)) ∧ (∀ k, 0 ≤ k → k < f 190 → (0 ≤ dh k ∧ dh k ≤ 6) ∧ (0 ≤ da k ∧ da k ≤ 99) ∧ (0 ≤ ds k ∧ ds k ≤ 4) ∧ (0 ≤ dn k ∧ dn k ≤ 1)) ∧ (∀ k, 0 ≤ k → k < f 190 → dh k = f (150 + 4 * k) ∧ da k = f (150 + 4 * k + 1) ∧ ds k = f (150 + 4 * k + 2) ∧ dn k = f (150 + 4 * k + 3))
theorem ri_un_j {o : Nat} {f : Int → Int} {x : Int} {w : ab_W} (hR : ri_at_j o f x w) : ∃ (sl fs vo li ra wo dh da ds dn : Int → Int) (vw : Int → Int64), (rgc o (f 0) (f 4) (f 5) (f 6) (f 7) (f 8) x (f 1) (f 2) (f 3) sl fs vo li vw ra wo (f 190) dh da ds dn w) ∧ ri_re_j f sl fs vo li ra wo dh da ds dn vw := by
  obtain ⟨sl, fs, vo, li, ra, wo, dh, da, hzz⟩ := hR
  obtain ⟨ds, dn, vw, q0, q1, q2, q3, q4, hzz⟩ := hzz
  obtain ⟨q5, q6, q7, q8, q9, q10, q11, q12, hzz⟩ := hzz
  obtain ⟨e1, e2, e3, e4, e5, e6, e7, e8, e9⟩ := hzz
  exact ⟨sl, fs, vo, li, ra, wo, dh, da, ds, dn, vw, ⟨q0, q1, q2, q3, q4, q5, q6, q7, q8, q9, q10, q11, q12⟩, e1, e2, e3, e4, e5, e6, e7, e8, e9⟩
theorem ri_mk_j {o : Nat} {told : Int} {an : Int} {hr : Int} {dy : Int} {sp : Int} {ss : Int} {x : Int} {ho : Int} {si : Int} {ga : Int} {sl : Int → Int} {fs : Int → Int} {vo : Int → Int} {li : Int → Int} {vw : Int → Int64} {ra : Int → Int} {wo : Int → Int} {dl : Int} {dh : Int → Int} {da : Int → Int} {ds : Int → Int} {dn : Int → Int} {f : Int → Int} {w : ab_W} (h_told : f 0 = told) (h_an : f 4 = an) (h_hr : f 5 = hr) (h_dy : f 6 = dy) (h_sp : f 7 = sp) (h_ss : f 8 = ss) (h_ho : f 1 = ho) (h_si : f 2 = si) (h_ga : f 3 = ga) (h_dl : f 190 = dl) (hC : (rgc o told an hr dy sp ss x ho si ga sl fs vo li vw ra wo dl dh da ds dn w)) (re : ri_re_j f sl fs vo li ra wo dh da ds dn vw) : ri_at_j o f x w := by
  subst h_told h_an h_hr h_dy h_sp h_ss h_ho h_si h_ga h_dl
  obtain ⟨q0, q1, q2, q3, q4, q5, q6, q7, q8, q9, q10, q11, q12⟩ := hC
  obtain ⟨e1, e2, e3, e4, e5, e6, e7, e8, e9⟩ := re
  exact ⟨sl, fs, vo, li, ra, wo, dh, da, ds, dn, vw, q0, q1, q2, q3, q4, q5, q6, q7, q8, q9, q10, q11, q12, e1, e2, e3, e4, e5, e6, e7, e8, e9⟩
/-- what is told stays, whatever turns -/
theorem ri_re_c_j {f g sl fs vo li ra wo wo2 dh da ds dn : Int → Int} {vw : Int → Int64} (re : ri_re_j f sl fs vo li ra wo dh da ds dn vw) (h2 : f 2 ≤ 12) (hj : ∀ j, (0 ≤ j ∧ j < 4) ∨ (10 ≤ j ∧ j < 34) ∨ 46 ≤ j → g j = f j) (hw : ∀ k, 0 ≤ k → k < 12 → wo2 k = g (34 + k)) (h1 : 0 ≤ f 1) : ri_re_j g sl fs vo li ra wo2 dh da ds dn vw := by
  obtain ⟨e1, e2, e3, e4, e5, e6, e7, e8, e9⟩ := re
  have g1 := hj 1 (by omega)
  have g9 := hj 190 (by omega)
  refine ⟨by rw [g1]; exact e1, fun k a b => ?_, by rw [g1]; exact e3, fun k a b => ?_, fun k a b => ?_, hw, fun d h a b c e => ?_, by rw [g9]; exact e8, fun k a b => ?_⟩
  · rw [g1] at b
    rw [hj (46 + k) (by omega), hj (143 + k) (by omega), hj (53 + k) (by omega)]
    exact e2 k a b
  · rw [g1] at b
    rw [hj (60 + k) (by omega)]
    exact e4 k a b
  · rw [hj (10 + k) (by omega)]
    exact e5 k a b
  · rw [sp_sortsAt_c d h h2 (fun j q => hj j (by omega))]
    exact e7 d h a b c e
  · rw [g9] at b
    rw [hj (150 + 4 * k) (by omega), hj (150 + 4 * k + 1) (by omega), hj (150 + 4 * k + 2) (by omega), hj (150 + 4 * k + 3) (by omega)]
    exact e9 k a b
set_option maxHeartbeats 4000000 in
set_option maxRecDepth 10000 in
theorem lf_Ri_passHour_j {o : Nat} {f : Int → Int} {x B : Int} {w0 : ab_W} {sl fs vo li ra dh da ds dn : Int → Int} {vw : Int → Int64} (hI : sg_ok B f) {wo wo0 : Int → Int} {w : ab_W} (re : ri_re_j f sl fs vo li ra wo0 dh da ds dn vw) (r0 n0 : Int) (i : Int) (hC : (rgc o (f 0) ((sp_turns (sp_by n0) (ab_up f 7 0) n0.natAbs) 4) (f 5) (f 6) (f 7) (f 8) x (f 1) (f 2) (f 3) sl fs vo li vw ra wo (f 190) dh da ds dn w)) (hf : fr_at o 13 w0 w) (hw : ∀ k, 0 ≤ k → k < 12 → wo k = (sp_turns (sp_by n0) (ab_up f 7 0) n0.natAbs) (34 + k)) : ab_Ev g_G g_rs mt_Ri_passHour 1 0 0 66 [some (ab_R o), some (ab_I r0), some (ab_I n0), some (ab_I (sp_by n0)), some (ab_I i)] [] w (fun r w2 => r = some (ab_I n0) ∧ ri_at_j o (cs_on (sp_turns (sp_by n0) (ab_up f 7 0) n0.natAbs)) x w2 ∧ fr_at o 13 w0 w2) := by
  obtain ⟨i0, i1, i2, i3, i4, i5, i6, i7, hzz⟩ := sg_all hI
  obtain ⟨i8, i9, i10, i11, i12, i13, i14, i15, hzz⟩ := hzz
  obtain ⟨i16, i17⟩ := hzz
  obtain ⟨q0, q1, q2, q3, q4, q5, q6, q7, q8, q9, q10, q11, q12⟩ := id hC
  have tj := (sp_turns_j (sp_by n0) (ab_up f 7 0) (show 0 ≤ f 4 ∧ f 4 ≤ 11 by omega) n0.natAbs).2
  generalize sp_turns (sp_by n0) (ab_up f 7 0) n0.natAbs = g at *
  refine ev_aload_n de_Ri_passHour_66 rfl rfl ?_
  refine ev_iconst de_Ri_passHour_67 ?_
  refine ev_putfield de_Ri_passHour_68 q0 (fp_Ri_55 _) (Nat.le_of_ble_eq_true rfl) (Or.inl rfl) ?_
  refine ev_gen (P := fun w1 => (rgc o (f 0) (g 4) (f 5) (f 6) (0) (f 8) x (f 1) (f 2) (f 3) sl fs vo li vw ra wo (f 190) dh da ds dn w1) ∧ fr_at o 13 w0 w1) ⟨rgc_o hC, fr_set hf (by omega) (by omega)⟩ (fun w1 hCf => ?_)
  obtain ⟨hC, hf⟩ := hCf
  obtain ⟨q0, q1, q2, q3, q4, q5, q6, q7, q8, q9, q10, q11, q12⟩ := id hC
  refine ev_aload_n de_Ri_passHour_71 rfl rfl ?_
  refine ev_dup de_Ri_passHour_72 rfl ?_
  refine ev_getfield de_Ri_passHour_73 q0 fl_Ri_49 rfl ?_
  refine ev_iconst de_Ri_passHour_76 ?_
  refine ev_iadd de_Ri_passHour_77 ?_
  refine ev_putfield de_Ri_passHour_78 q0 (fp_Ri_49 _) (Nat.le_of_ble_eq_true rfl) trivial ?_
  refine ev_gen (P := fun w1 => (rgc o (f 0) (g 4) (f 5 + 1) (f 6) (0) (f 8) x (f 1) (f 2) (f 3) sl fs vo li vw ra wo (f 190) dh da ds dn w1) ∧ fr_at o 13 w0 w1) ⟨rgc_o hC, fr_set hf (by omega) (by omega)⟩ (fun w1 hCf => ?_)
  obtain ⟨hC, hf⟩ := hCf
  obtain ⟨q0, q1, q2, q3, q4, q5, q6, q7, q8, q9, q10, q11, q12⟩ := id hC
  refine ev_aload_n de_Ri_passHour_81 rfl rfl ?_
  refine ev_getfield de_Ri_passHour_82 q0 fl_Ri_49 rfl ?_
  refine ev_bipush de_Ri_passHour_85 rfl ?_
  refine ev_icmp_ne (tgt := 111) de_Ri_passHour_87 (by decide) (by omega) (by omega) (fun h87 => ?_) (fun h87 => ?_)
  · skip
    refine ev_iload_n de_Ri_passHour_111 rfl rfl ?_
    exact ev_ireturn de_Ri_passHour_112 rfl ⟨rfl, ri_mk_j (by rw [cs_on_j _ (by decide) (by decide), tj 0 (by decide) (by decide)]; rfl) (by rw [cs_on_j _ (by decide) (by decide)]) (by rw [cs_on_5, tj 5 (by decide) (by decide)]; show (if f 5 + 1 < 24 then f 5 + 1 else 0) = _; first | rw [if_pos (by omega)] | rw [if_neg (by omega)]) (by rw [cs_on_6, tj 5 (by decide) (by decide), tj 6 (by decide) (by decide)]; show (if f 5 + 1 < 24 then f 6 else (if f 6 + 1 < 999 then f 6 + 1 else 999)) = _; first | rw [if_pos (by omega)] | (rw [if_neg (by omega)]; repeat' split) <;> omega) (by rw [cs_on_j _ (by decide) (by decide), tj 7 (by decide) (by decide)]; rfl) (by rw [cs_on_j _ (by decide) (by decide), tj 8 (by decide) (by decide)]; rfl) (by rw [cs_on_j _ (by decide) (by decide), tj 1 (by decide) (by decide)]; rfl) (by rw [cs_on_j _ (by decide) (by decide), tj 2 (by decide) (by decide)]; rfl) (by rw [cs_on_j _ (by decide) (by decide), tj 3 (by decide) (by decide)]; rfl) (by rw [cs_on_j _ (by decide) (by decide), tj 190 (by decide) (by decide)]; rfl) hC (ri_re_c_j re (by omega) (fun j hj => by rw [cs_on_j _ (by omega) (by omega), tj j (by omega) (by omega), ab_upn _ _ (by omega)]) (fun k a b => by rw [cs_on_j _ (by omega) (by omega)]; exact hw k a b) (by omega)), hf⟩
  · skip
    refine ev_aload_n de_Ri_passHour_90 rfl rfl ?_
    refine ev_iconst de_Ri_passHour_91 ?_
    refine ev_putfield de_Ri_passHour_92 q0 (fp_Ri_49 _) (Nat.le_of_ble_eq_true rfl) trivial ?_
    refine ev_gen (P := fun w1 => (rgc o (f 0) (g 4) (0) (f 6) (0) (f 8) x (f 1) (f 2) (f 3) sl fs vo li vw ra wo (f 190) dh da ds dn w1) ∧ fr_at o 13 w0 w1) ⟨rgc_o hC, fr_set hf (by omega) (by omega)⟩ (fun w1 hCf => ?_)
    obtain ⟨hC, hf⟩ := hCf
    obtain ⟨q0, q1, q2, q3, q4, q5, q6, q7, q8, q9, q10, q11, q12⟩ := id hC
    refine ev_aload_n de_Ri_passHour_95 rfl rfl ?_
    refine ev_aload_n de_Ri_passHour_96 rfl rfl ?_
    refine ev_getfield de_Ri_passHour_97 q0 fl_Ri_52 rfl ?_
    refine ev_iconst de_Ri_passHour_100 ?_
    refine ev_iadd de_Ri_passHour_101 ?_
    refine ev_sipush de_Ri_passHour_102 rfl ?_
    refine ev_mmin (by omega) (by omega) de_Ri_passHour_105 mk_Ri_118 (Nat.le_of_ble_eq_true rfl) (by decide) ?_
    refine ev_putfield de_Ri_passHour_108 q0 (fp_Ri_52 _) (Nat.le_of_ble_eq_true rfl) trivial ?_
    refine ev_gen (P := fun w1 => (rgc o (f 0) (g 4) (0) (if 999 < f 6 + 1 then 999 else f 6 + 1) (0) (f 8) x (f 1) (f 2) (f 3) sl fs vo li vw ra wo (f 190) dh da ds dn w1) ∧ fr_at o 13 w0 w1) ⟨rgc_o hC, fr_set hf (by omega) (by omega)⟩ (fun w1 hCf => ?_)
    obtain ⟨hC, hf⟩ := hCf
    obtain ⟨q0, q1, q2, q3, q4, q5, q6, q7, q8, q9, q10, q11, q12⟩ := id hC
    refine ev_iload_n de_Ri_passHour_111 rfl rfl ?_
    exact ev_ireturn de_Ri_passHour_112 rfl ⟨rfl, ri_mk_j (by rw [cs_on_j _ (by decide) (by decide), tj 0 (by decide) (by decide)]; rfl) (by rw [cs_on_j _ (by decide) (by decide)]) (by rw [cs_on_5, tj 5 (by decide) (by decide)]; show (if f 5 + 1 < 24 then f 5 + 1 else 0) = _; first | rw [if_pos (by omega)] | rw [if_neg (by omega)]) (by rw [cs_on_6, tj 5 (by decide) (by decide), tj 6 (by decide) (by decide)]; show (if f 5 + 1 < 24 then f 6 else (if f 6 + 1 < 999 then f 6 + 1 else 999)) = _; first | rw [if_pos (by omega)] | (rw [if_neg (by omega)]; repeat' split) <;> omega) (by rw [cs_on_j _ (by decide) (by decide), tj 7 (by decide) (by decide)]; rfl) (by rw [cs_on_j _ (by decide) (by decide), tj 8 (by decide) (by decide)]; rfl) (by rw [cs_on_j _ (by decide) (by decide), tj 1 (by decide) (by decide)]; rfl) (by rw [cs_on_j _ (by decide) (by decide), tj 2 (by decide) (by decide)]; rfl) (by rw [cs_on_j _ (by decide) (by decide), tj 3 (by decide) (by decide)]; rfl) (by rw [cs_on_j _ (by decide) (by decide), tj 190 (by decide) (by decide)]; rfl) hC (ri_re_c_j re (by omega) (fun j hj => by rw [cs_on_j _ (by omega) (by omega), tj j (by omega) (by omega), ab_upn _ _ (by omega)]) (fun k a b => by rw [cs_on_j _ (by omega) (by omega)]; exact hw k a b) (by omega)), hf⟩
