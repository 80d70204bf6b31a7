theorem ri_re_swap_j {f sl fs vo li ra wo dh da ds dn : Int → Int} {vw : Int → Int64} {a b : Int} (re : ri_re_j f sl fs vo li ra wo dh da ds dn vw) (g1 : 0 ≤ f 1) (g1b : f 1 ≤ 7) (g2 : 0 ≤ f 2) (g2b : f 2 ≤ 12) (g9 : f 190 ≤ 10) (ha0 : 0 ≤ a) (ha1 : a < f 1) (hb0 : 0 ≤ b) (hb1 : b < f 1) : ri_re_j (cs_swap a b f) (ab_up (ab_up sl a (sl b)) b (sl a)) fs vo li ra wo dh da ds dn vw := by
  obtain ⟨e1, e2, e3, e4, e5, e6, e7, e8, e9⟩ := re
  have f1 : cs_swap a b f 1 = f 1 := cs_swap_j (by omega) (by omega)
  have f9 : cs_swap a b f 190 = f 190 := cs_swap_j (by omega) (by omega)
  refine ⟨fun k h0 h1 => ?_, fun k h0 h1 => ?_, by rw [f1]; exact e3, fun k h0 h1 => ?_, fun k h0 h1 => ?_, fun k h0 h1 => ?_, fun d h x1 x2 x3 x4 => ?_, by rw [f9]; exact e8, fun k h0 h1 => ?_⟩
  · rw [f1] at h1
    refine ⟨?_, (e1 k h0 h1).2⟩
    unfold ab_up
    split
    · exact (e1 a ha0 (by omega)).1
    · split
      · exact (e1 b hb0 (by omega)).1
      · exact (e1 k h0 h1).1
  · rw [f1] at h1
    have ek := e2 k h0 h1
    refine ⟨?_, by rw [cs_swap_j (by omega) (by omega)]; exact ek.2.1, by rw [cs_swap_j (by omega) (by omega)]; exact ek.2.2⟩
    show (if k = b then sl a else if k = a then sl b else sl k) = (if 46 + k = 46 + b then f (46 + a) else if 46 + k = 46 + a then f (46 + b) else f (46 + k))
    by_cases c : k = b
    · rw [if_pos c, if_pos (show 46 + k = 46 + b by omega)]; exact (e2 a ha0 ha1).1
    · rw [if_neg c, if_neg (show ¬ 46 + k = 46 + b by omega)]
      by_cases c2 : k = a
      · rw [if_pos c2, if_pos (show 46 + k = 46 + a by omega)]; exact (e2 b hb0 hb1).1
      · rw [if_neg c2, if_neg (show ¬ 46 + k = 46 + a by omega)]; exact ek.1
  · rw [f1] at h1
    rw [cs_swap_j (by omega) (by omega)]; exact e4 k h0 h1
  · rw [cs_swap_j (by omega) (by omega)]; exact e5 k h0 h1
  · rw [cs_swap_j (by omega) (by omega)]; exact e6 k h0 h1
  · rw [sp_sortsAt_d d h g2 g2b (fun j hj => cs_swap_j (by omega) (by omega))]; exact e7 d h x1 x2 x3 x4
  · rw [f9] at h1
    rw [cs_swap_j (by omega) (by omega), cs_swap_j (by omega) (by omega), cs_swap_j (by omega) (by omega), cs_swap_j (by omega) (by omega)]
    exact e9 k h0 h1
set_option maxHeartbeats 4000000 in
set_option maxRecDepth 10000 in
theorem co_Ri_swapSlots_j {o : Nat} {f : Int → Int} {x B : Int} {w : ab_W} (hI : sg_ok B f) (hR : ri_at_j o f x w) (a b : Int) (ha0 : 0 ≤ a) (ha1 : a < f 1) (hb0 : 0 ≤ b) (hb1 : b < f 1) : ab_Mt g_G g_rs mt_Ri_swapSlots 0 0 0 [ab_R o, ab_I a, ab_I b] w (fun r w2 => r = none ∧ ri_at_j o (cs_swap a b f) x w2 ∧ fr_at o 13 w w2) := by
  have hR0 := hR
  obtain ⟨i0, i1, i2, i3, i4, i5, i6, i7, hzz⟩ := sg_all hI
  obtain ⟨i8, i9, i10, i11, i12, i13, i14, i15, hzz⟩ := hzz
  obtain ⟨i16, i17⟩ := hzz
  obtain ⟨sl, fs, vo, li, ra, wo, dh, da, ds, dn, vw, hC, re⟩ := ri_un_j hR
  have hf : fr_at o 13 w w := fr_0
  obtain ⟨q0, q1, q2, q3, q4, q5, q6, q7, q8, q9, q10, q11, q12⟩ := id hC
  refine ab_Mt.of rfl (Nat.le_of_ble_eq_true rfl) ?_
  show ab_Ev g_G g_rs mt_Ri_swapSlots _ _ _ 0 [some (ab_R o), some (ab_I a), some (ab_I b), none] [] _ _
  refine ev_aload_n de_Ri_swapSlots_0 rfl rfl ?_
  refine ev_getfield de_Ri_swapSlots_1 q0 fl_Ri_9 rfl ?_
  refine ev_iload_n de_Ri_swapSlots_4 rfl rfl ?_
  refine ev_iaload de_Ri_swapSlots_5 q1 (by omega) (by omega) (by omega) ?_
  refine ev_istore_n (l' := [_, _, _, _]) de_Ri_swapSlots_6 rfl (Nat.le_of_ble_eq_true rfl) rfl ?_
  refine ev_aload_n de_Ri_swapSlots_7 rfl rfl ?_
  refine ev_getfield de_Ri_swapSlots_8 q0 fl_Ri_9 rfl ?_
  refine ev_iload_n de_Ri_swapSlots_11 rfl rfl ?_
  refine ev_aload_n de_Ri_swapSlots_12 rfl rfl ?_
  refine ev_getfield de_Ri_swapSlots_13 q0 fl_Ri_9 rfl ?_
  refine ev_iload_n de_Ri_swapSlots_16 rfl rfl ?_
  refine ev_iaload de_Ri_swapSlots_17 q1 (by omega) (by omega) (by omega) ?_
  refine ev_iastore de_Ri_swapSlots_18 q1 (by omega) (by omega) (by omega) ?_
  refine ev_gen (P := fun w1 => (rgc o (f 0) (f 4) (f 5) (f 6) (f 7) (f 8) x (f 1) (f 2) (f 3) (ab_up sl a (sl b)) fs vo li vw ra wo (f 190) dh da ds dn w1) ∧ fr_at o 13 w w1) ⟨rgc_sl hC, fr_set hf (by omega) (by omega)⟩ (fun w1 hCf => ?_)
  obtain ⟨hC, hf⟩ := hCf
  obtain ⟨q0, q1, q2, q3, q4, q5, q6, q7, q8, q9, q10, q11, q12⟩ := id hC
  refine ev_aload_n de_Ri_swapSlots_19 rfl rfl ?_
  refine ev_getfield de_Ri_swapSlots_20 q0 fl_Ri_9 rfl ?_
  refine ev_iload_n de_Ri_swapSlots_23 rfl rfl ?_
  refine ev_iload_n de_Ri_swapSlots_24 rfl rfl ?_
  refine ev_iastore de_Ri_swapSlots_25 q1 (by omega) (by omega) (by omega) ?_
  refine ev_gen (P := fun w1 => (rgc o (f 0) (f 4) (f 5) (f 6) (f 7) (f 8) x (f 1) (f 2) (f 3) (ab_up (ab_up sl a (sl b)) b (sl a)) fs vo li vw ra wo (f 190) dh da ds dn w1) ∧ fr_at o 13 w w1) ⟨rgc_sl hC, fr_set hf (by omega) (by omega)⟩ (fun w1 hCf => ?_)
  obtain ⟨hC, hf⟩ := hCf
  obtain ⟨q0, q1, q2, q3, q4, q5, q6, q7, q8, q9, q10, q11, q12⟩ := id hC
  exact ev_return de_Ri_swapSlots_26 rfl ⟨rfl, ri_mk_j (cs_swap_j (by omega) (by omega)) (cs_swap_j (by omega) (by omega)) (cs_swap_j (by omega) (by omega)) (cs_swap_j (by omega) (by omega)) (cs_swap_j (by omega) (by omega)) (cs_swap_j (by omega) (by omega)) (cs_swap_j (by omega) (by omega)) (cs_swap_j (by omega) (by omega)) (cs_swap_j (by omega) (by omega)) (cs_swap_j (by omega) (by omega)) hC (ri_re_swap_j re (by omega) (by omega) (by omega) (by omega) (by omega) ha0 ha1 hb0 hb1), hf⟩
set_option maxHeartbeats 4000000 in
set_option maxRecDepth 10000 in
theorem lf_Ri_takeHourBack_j {o : Nat} {f : Int → Int} {x B : Int} {w0 : ab_W} {sl fs vo li ra dh da ds dn : Int → Int} {vw : Int → Int64} (hI : sg_ok B f) {wo0 : Int → Int} (re : ri_re_j f sl fs vo li ra wo0 dh da ds dn vw) (n0 wa : Int) (hwa : wa = 0 ∨ wa = 1) {wo : Int → Int} {w : ab_W} (i : Int) (hC : (rgc o (f 0) ((cs_uns (sp_by n0) f n0.natAbs) 4) (f 5) (f 6) (f 7) (f 8) x (f 1) (f 2) (f 3) sl fs vo li vw ra wo (f 190) dh da ds dn w)) (hf : fr_at o 13 w0 w) (hw : ∀ k, 0 ≤ k → k < 12 → wo k = (cs_uns (sp_by n0) f n0.natAbs) (34 + k)) : ab_Ev g_G g_rs mt_Ri_takeHourBack 1 0 0 53 [some (ab_R o), some (ab_I n0), some (ab_I wa), some (ab_I (sp_by n0)), some (ab_I i)] [] w (fun r w2 => r = none ∧ ri_at_j o (cs_off wa (cs_uns (sp_by n0) f n0.natAbs)) x w2 ∧ fr_at o 13 w0 w2) := by
  obtain ⟨i0, i1, i2, i3, i4, i5, i6, i7, hzz⟩ := sg_all hI
  obtain ⟨i8, i9, i10, i11, i12, i13, i14, i15, hzz⟩ := hzz
  obtain ⟨i16, i17⟩ := hzz
  obtain ⟨q0, q1, q2, q3, q4, q5, q6, q7, q8, q9, q10, q11, q12⟩ := id hC
  have tj := (cs_uns_j (sp_by n0) f (show 0 ≤ f 4 ∧ f 4 ≤ 11 by omega) n0.natAbs).2
  generalize cs_uns (sp_by n0) f n0.natAbs = g at *
  refine ev_aload_n de_Ri_takeHourBack_53 rfl rfl ?_
  refine ev_iload_n de_Ri_takeHourBack_54 rfl rfl ?_
  refine ev_putfield de_Ri_takeHourBack_55 q0 (fp_Ri_55 _) (Nat.le_of_ble_eq_true rfl) hwa ?_
  refine ev_gen (P := fun w1 => (rgc o (f 0) (g 4) (f 5) (f 6) (wa) (f 8) x (f 1) (f 2) (f 3) sl fs vo li vw ra wo (f 190) dh da ds dn w1) ∧ fr_at o 13 w0 w1) ⟨rgc_o hC, fr_set hf (by omega) (by omega)⟩ (fun w1 hCf => ?_)
  obtain ⟨hC, hf⟩ := hCf
  obtain ⟨q0, q1, q2, q3, q4, q5, q6, q7, q8, q9, q10, q11, q12⟩ := id hC
  refine ev_aload_n de_Ri_takeHourBack_58 rfl rfl ?_
  refine ev_dup de_Ri_takeHourBack_59 rfl ?_
  refine ev_getfield de_Ri_takeHourBack_60 q0 fl_Ri_49 rfl ?_
  refine ev_iconst de_Ri_takeHourBack_63 ?_
  refine ev_isub de_Ri_takeHourBack_64 ?_
  refine ev_putfield de_Ri_takeHourBack_65 q0 (fp_Ri_49 _) (Nat.le_of_ble_eq_true rfl) trivial ?_
  refine ev_gen (P := fun w1 => (rgc o (f 0) (g 4) (f 5 - 1) (f 6) (wa) (f 8) x (f 1) (f 2) (f 3) sl fs vo li vw ra wo (f 190) dh da ds dn w1) ∧ fr_at o 13 w0 w1) ⟨rgc_o hC, fr_set hf (by omega) (by omega)⟩ (fun w1 hCf => ?_)
  obtain ⟨hC, hf⟩ := hCf
  obtain ⟨q0, q1, q2, q3, q4, q5, q6, q7, q8, q9, q10, q11, q12⟩ := id hC
  refine ev_aload_n de_Ri_takeHourBack_68 rfl rfl ?_
  refine ev_getfield de_Ri_takeHourBack_69 q0 fl_Ri_49 rfl ?_
  refine ev_if_ge (tgt := 91) de_Ri_takeHourBack_72 (by decide) (by omega) (fun h72 => ?_) (fun h72 => ?_)
  · skip
    exact ev_return de_Ri_takeHourBack_91 rfl ⟨rfl, ri_mk_j (by rw [cs_off_j _ _ (by decide) (by decide) (by decide), tj 0 (by decide) (by decide)]) (by rw [cs_off_j _ _ (by decide) (by decide) (by decide)]) (by rw [cs_off_5, tj 5 (by decide) (by decide)]; first | rw [if_pos (by omega)] | rw [if_neg (by omega)]) (by rw [cs_off_6, tj 5 (by decide) (by decide), tj 6 (by decide) (by decide)]; first | rw [if_pos (by omega)] | rw [if_neg (by omega)]) (by rw [cs_off_7]) (by rw [cs_off_j _ _ (by decide) (by decide) (by decide), tj 8 (by decide) (by decide)]) (by rw [cs_off_j _ _ (by decide) (by decide) (by decide), tj 1 (by decide) (by decide)]) (by rw [cs_off_j _ _ (by decide) (by decide) (by decide), tj 2 (by decide) (by decide)]) (by rw [cs_off_j _ _ (by decide) (by decide) (by decide), tj 3 (by decide) (by decide)]) (by rw [cs_off_j _ _ (by decide) (by decide) (by decide), tj 190 (by decide) (by decide)]) hC (ri_re_c_j re (by omega) (fun j hj => by rw [cs_off_j _ _ (by omega) (by omega) (by omega), tj j (by omega) (by omega)]) (fun k a b => by rw [cs_off_j _ _ (by omega) (by omega) (by omega)]; exact hw k a b) (by omega)), hf⟩
  · skip
    refine ev_aload_n de_Ri_takeHourBack_75 rfl rfl ?_
    refine ev_bipush de_Ri_takeHourBack_76 rfl ?_
    refine ev_putfield de_Ri_takeHourBack_78 q0 (fp_Ri_49 _) (Nat.le_of_ble_eq_true rfl) trivial ?_
    refine ev_gen (P := fun w1 => (rgc o (f 0) (g 4) (23) (f 6) (wa) (f 8) x (f 1) (f 2) (f 3) sl fs vo li vw ra wo (f 190) dh da ds dn w1) ∧ fr_at o 13 w0 w1) ⟨rgc_o hC, fr_set hf (by omega) (by omega)⟩ (fun w1 hCf => ?_)
    obtain ⟨hC, hf⟩ := hCf
    obtain ⟨q0, q1, q2, q3, q4, q5, q6, q7, q8, q9, q10, q11, q12⟩ := id hC
    refine ev_aload_n de_Ri_takeHourBack_81 rfl rfl ?_
    refine ev_dup de_Ri_takeHourBack_82 rfl ?_
    refine ev_getfield de_Ri_takeHourBack_83 q0 fl_Ri_52 rfl ?_
    refine ev_iconst de_Ri_takeHourBack_86 ?_
    refine ev_isub de_Ri_takeHourBack_87 ?_
    refine ev_putfield de_Ri_takeHourBack_88 q0 (fp_Ri_52 _) (Nat.le_of_ble_eq_true rfl) trivial ?_
    refine ev_gen (P := fun w1 => (rgc o (f 0) (g 4) (23) (f 6 - 1) (wa) (f 8) x (f 1) (f 2) (f 3) sl fs vo li vw ra wo (f 190) dh da ds dn w1) ∧ fr_at o 13 w0 w1) ⟨rgc_o hC, fr_set hf (by omega) (by omega)⟩ (fun w1 hCf => ?_)
    obtain ⟨hC, hf⟩ := hCf
    obtain ⟨q0, q1, q2, q3, q4, q5, q6, q7, q8, q9, q10, q11, q12⟩ := id hC
    exact ev_return de_Ri_takeHourBack_91 rfl ⟨rfl, ri_mk_j (by rw [cs_off_j _ _ (by decide) (by decide) (by decide), tj 0 (by decide) (by decide)]) (by rw [cs_off_j _ _ (by decide) (by decide) (by decide)]) (by rw [cs_off_5, tj 5 (by decide) (by decide)]; first | rw [if_pos (by omega)] | rw [if_neg (by omega)]) (by rw [cs_off_6, tj 5 (by decide) (by decide), tj 6 (by decide) (by decide)]; first | rw [if_pos (by omega)] | rw [if_neg (by omega)]) (by rw [cs_off_7]) (by rw [cs_off_j _ _ (by decide) (by decide) (by decide), tj 8 (by decide) (by decide)]) (by rw [cs_off_j _ _ (by decide) (by decide) (by decide), tj 1 (by decide) (by decide)]) (by rw [cs_off_j _ _ (by decide) (by decide) (by decide), tj 2 (by decide) (by decide)]) (by rw [cs_off_j _ _ (by decide) (by decide) (by decide), tj 3 (by decide) (by decide)]) (by rw [cs_off_j _ _ (by decide) (by decide) (by decide), tj 190 (by decide) (by decide)]) hC (ri_re_c_j re (by omega) (fun j hj => by rw [cs_off_j _ _ (by omega) (by omega) (by omega), tj j (by omega) (by omega)]) (fun k a b => by rw [cs_off_j _ _ (by omega) (by omega) (by omega)]; exact hw k a b) (by omega)), hf⟩
set_option maxHeartbeats 4000000 in
set_option maxRecDepth 10000 in
theorem lo_Ri_takeHourBack_j {o : Nat} {f : Int → Int} {x B : Int} {w0 : ab_W} {sl fs vo li ra dh da ds dn : Int → Int} {vw : Int → Int64} (hI : sg_ok B f) {wo0 : Int → Int} (re : ri_re_j f sl fs vo li ra wo0 dh da ds dn vw) (n0 wa : Int) (hwa : wa = 0 ∨ wa = 1) : ∀ (n : Nat) (g wo : Int → Int) (w : ab_W), n ≤ 1000 → cs_uns (sp_by n0) g n = cs_uns (sp_by n0) f n0.natAbs → 0 ≤ g 4 → g 4 ≤ 11 → (∀ k, 0 ≤ k → k < 12 → wo k = g (34 + k)) → (rgc o (f 0) (g 4) (f 5) (f 6) (f 7) (f 8) x (f 1) (f 2) (f 3) sl fs vo li vw ra wo (f 190) dh da ds dn w) → fr_at o 13 w0 w → ab_Ev g_G g_rs mt_Ri_takeHourBack 1 0 0 16 [some (ab_R o), some (ab_I n0), some (ab_I wa), some (ab_I (sp_by n0)), some (ab_I (n : Int))] [] w (fun r w2 => r = none ∧ ri_at_j o (cs_off wa (cs_uns (sp_by n0) f n0.natAbs)) x w2 ∧ fr_at o 13 w0 w2) := by
  intro n
  induction n with
  | zero =>
    intro g wo w
    intro n1k eg g0 g1 hw hC hf
    refine ev_iload de_Ri_takeHourBack_16 rfl ?_
    refine ev_if_le (tgt := 53) de_Ri_takeHourBack_18 (by decide) (by decide) (fun _ => ?_) (fun h => absurd (Int.le_refl _) h)
    have eg2 : g = cs_uns (sp_by n0) f n0.natAbs := eg
    rw [eg2] at hC hw
    exact lf_Ri_takeHourBack_j hI re n0 wa hwa _ hC hf hw
  | succ n ih =>
    intro g wo w
    intro n1k eg g0 g1 hw hC hf
    obtain ⟨q0, q1, q2, q3, q4, q5, q6, q7, q8, q9, q10, q11, q12⟩ := id hC
    have hby : sp_by n0 = -1 ∨ sp_by n0 = 1 := by unfold sp_by; split <;> omega
    refine ev_iload de_Ri_takeHourBack_16 rfl ?_
    refine ev_if_le (tgt := 53) de_Ri_takeHourBack_18 (by decide) (by omega) (fun h18 => ?_) (fun h18 => ?_)
    · exact absurd h18 (by push_cast; omega)
    · skip
      refine ev_aload_n de_Ri_takeHourBack_21 rfl rfl ?_
      refine ev_aload_n de_Ri_takeHourBack_22 rfl rfl ?_
      refine ev_getfield de_Ri_takeHourBack_23 q0 fl_Ri_45 rfl ?_
      refine ev_iload_n de_Ri_takeHourBack_26 rfl rfl ?_
      refine ev_isub de_Ri_takeHourBack_27 ?_
      refine ev_sv de_Ri_takeHourBack_28 (co_Tu_wrapped _ _ (by omega)) kb_Ri_131 sc_Tu_wrapped rfl (Nat.le_of_ble_eq_true rfl) (by decide) rfl ?_
      refine ev_putfield de_Ri_takeHourBack_31 q0 (fp_Ri_45 _) (Nat.le_of_ble_eq_true rfl) trivial ?_
      refine ev_gen (P := fun w1 => (rgc o (f 0) ((g 4 - sp_by n0) % 12) (f 5) (f 6) (f 7) (f 8) x (f 1) (f 2) (f 3) sl fs vo li vw ra wo (f 190) dh da ds dn w1) ∧ fr_at o 13 w0 w1) ⟨rgc_o hC, fr_set hf (by omega) (by omega)⟩ (fun w1 hCf => ?_)
      obtain ⟨hC, hf⟩ := hCf
      obtain ⟨q0, q1, q2, q3, q4, q5, q6, q7, q8, q9, q10, q11, q12⟩ := id hC
      refine ev_aload_n de_Ri_takeHourBack_34 rfl rfl ?_
      refine ev_getfield de_Ri_takeHourBack_35 q0 fl_Ri_31 rfl ?_
      refine ev_aload_n de_Ri_takeHourBack_38 rfl rfl ?_
      refine ev_getfield de_Ri_takeHourBack_39 q0 fl_Ri_45 rfl ?_
      refine ev_dup2 de_Ri_takeHourBack_42 rfl rfl ?_
      refine ev_iaload de_Ri_takeHourBack_43 q7 (by omega) (by omega) (by omega) ?_
      refine ev_iconst de_Ri_takeHourBack_44 ?_
      refine ev_isub de_Ri_takeHourBack_45 ?_
      refine ev_iastore de_Ri_takeHourBack_46 q7 (by omega) (by omega) (by omega) ?_
      refine ev_gen (P := fun w1 => (rgc o (f 0) ((g 4 - sp_by n0) % 12) (f 5) (f 6) (f 7) (f 8) x (f 1) (f 2) (f 3) sl fs vo li vw ra (ab_up wo ((g 4 - sp_by n0) % 12) (wo ((g 4 - sp_by n0) % 12) - 1)) (f 190) dh da ds dn w1) ∧ fr_at o 13 w0 w1) ⟨rgc_wo hC, fr_set hf (by omega) (by omega)⟩ (fun w1 hCf => ?_)
      obtain ⟨hC, hf⟩ := hCf
      obtain ⟨q0, q1, q2, q3, q4, q5, q6, q7, q8, q9, q10, q11, q12⟩ := id hC
      refine ev_iinc (l' := [_, _, _, _, _]) de_Ri_takeHourBack_47 rfl rfl ?_
      refine ev_goto (tgt := 16) de_Ri_takeHourBack_50 (by decide) ?_
      refine ev_loc (l2 := [some (ab_R o), some (ab_I n0), some (ab_I wa), some (ab_I (sp_by n0)), some (ab_I (n : Int))]) (by rw [show (((n + 1 : Nat) : Int) + -1) = (n : Int) by omega]) ?_
      exact ih (cs_un (sp_by n0) g) _ _ (by omega) ((cs_uns_s _ _ _).trans eg) (by rw [cs_un_4]; omega) (by rw [cs_un_4]; omega) (cs_un_w _ g wo hw) (by rw [cs_un_4]; exact hC) hf
set_option maxHeartbeats 4000000 in
set_option maxRecDepth 10000 in
theorem co_Ri_takeHourBack_j {o : Nat} {f : Int → Int} {x B : Int} {w : ab_W} (hI : sg_ok B f) (hR : ri_at_j o f x w) (n0 wa : Int) (hwa : wa = 0 ∨ wa = 1) (hr0 : -1000 ≤ n0) (hr1 : n0 ≤ 1000) : ab_Mt g_G g_rs mt_Ri_takeHourBack 1 0 0 [ab_R o, ab_I n0, ab_I wa] w (fun r w2 => r = none ∧ ri_at_j o (cs_back n0 wa f) x w2 ∧ fr_at o 13 w w2) := by
  have hR0 := hR
  obtain ⟨i0, i1, i2, i3, i4, i5, i6, i7, hzz⟩ := sg_all hI
  obtain ⟨i8, i9, i10, i11, i12, i13, i14, i15, hzz⟩ := hzz
  obtain ⟨i16, i17⟩ := hzz
  obtain ⟨sl, fs, vo, li, ra, wo, dh, da, ds, dn, vw, hC, re⟩ := ri_un_j hR
  have hf : fr_at o 13 w w := fr_0
  obtain ⟨q0, q1, q2, q3, q4, q5, q6, q7, q8, q9, q10, q11, q12⟩ := id hC
  refine ab_Mt.of rfl (Nat.le_of_ble_eq_true rfl) ?_
  show ab_Ev g_G g_rs mt_Ri_takeHourBack _ _ _ 0 [some (ab_R o), some (ab_I n0), some (ab_I wa), none, none] [] _ _
  refine ev_iload_n de_Ri_takeHourBack_0 rfl rfl ?_
  refine ev_if_ge (tgt := 8) de_Ri_takeHourBack_1 (by decide) (by omega) (fun h1 => ?_) (fun h1 => ?_)
  · skip
    refine ev_iconst de_Ri_takeHourBack_8 ?_
    refine ev_istore_n (l' := [_, _, _, _, _]) de_Ri_takeHourBack_9 rfl (Nat.le_of_ble_eq_true rfl) rfl ?_
    refine ev_iload_n de_Ri_takeHourBack_10 rfl rfl ?_
    refine ev_mabs (by omega) de_Ri_takeHourBack_11 mk_Ri_140 (Nat.le_of_ble_eq_true rfl) (by decide) ?_
    refine ev_istore (l' := [_, _, _, _, _]) de_Ri_takeHourBack_14 (Nat.le_of_ble_eq_true rfl) rfl ?_
    refine ev_loc (l2 := [some (ab_R o), some (ab_I n0), some (ab_I wa), some (ab_I (sp_by n0)), some (ab_I (n0.natAbs : Int))]) (by simp only [List.cons.injEq, Option.some.injEq, Sum.inl.injEq, true_and, and_true]; unfold sp_by; refine ⟨?_, ?_⟩ <;> (repeat' split) <;> omega) ?_
    exact lo_Ri_takeHourBack_j (w0 := w) hI re n0 wa hwa n0.natAbs f wo w (by omega) rfl (show 0 ≤ f 4 by omega) (show f 4 ≤ 11 by omega) (fun k a b => re.2.2.2.2.2.1 k a b) hC fr_0
  · skip
    refine ev_iconst de_Ri_takeHourBack_4 ?_
    refine ev_goto (tgt := 9) de_Ri_takeHourBack_5 (by decide) ?_
    refine ev_istore_n (l' := [_, _, _, _, _]) de_Ri_takeHourBack_9 rfl (Nat.le_of_ble_eq_true rfl) rfl ?_
    refine ev_iload_n de_Ri_takeHourBack_10 rfl rfl ?_
    refine ev_mabs (by omega) de_Ri_takeHourBack_11 mk_Ri_140 (Nat.le_of_ble_eq_true rfl) (by decide) ?_
    refine ev_istore (l' := [_, _, _, _, _]) de_Ri_takeHourBack_14 (Nat.le_of_ble_eq_true rfl) rfl ?_
    refine ev_loc (l2 := [some (ab_R o), some (ab_I n0), some (ab_I wa), some (ab_I (sp_by n0)), some (ab_I (n0.natAbs : Int))]) (by simp only [List.cons.injEq, Option.some.injEq, Sum.inl.injEq, true_and, and_true]; unfold sp_by; refine ⟨?_, ?_⟩ <;> (repeat' split) <;> omega) ?_
    exact lo_Ri_takeHourBack_j (w0 := w) hI re n0 wa hwa n0.natAbs f wo w (by omega) rfl (show 0 ≤ f 4 by omega) (show f 4 ≤ 11 by omega) (fun k a b => re.2.2.2.2.2.1 k a b) hC fr_0
