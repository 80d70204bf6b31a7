set_option maxHeartbeats 4000000 in
set_option maxRecDepth 10000 in
theorem lo_Ri_passHour_j {o : Nat} {f : Int → Int} {x B : Int} {w0 : ab_W} {sl fs vo li ra dh da ds dn : Int → Int} {vw : Int → Int64} (hI : sg_ok B f) {wo0 : Int → Int} (re : ri_re_j f sl fs vo li ra wo0 dh da ds dn vw) (r0 n0 : Int) : ∀ (n : Nat) (g wo : Int → Int) (w : ab_W), n ≤ 1000 → sp_turns (sp_by n0) g n = sp_turns (sp_by n0) (ab_up f 7 0) n0.natAbs → 0 ≤ g 4 → g 4 ≤ 11 → (∀ k, 0 ≤ k → k < 12 → wo k = g (34 + k)) → (rgc o (f 0) (g 4) (f 5) (f 6) (f 7) (f 8) x (f 1) (f 2) (f 3) sl fs vo li vw ra wo (f 190) dh da ds dn w) → fr_at o 13 w0 w → ab_Ev g_G g_rs mt_Ri_passHour 1 0 0 29 [some (ab_R o), some (ab_I r0), some (ab_I n0), some (ab_I (sp_by n0)), some (ab_I (n : Int))] [] w (fun r w2 => r = some (ab_I n0) ∧ ri_at_j o (cs_on (sp_turns (sp_by n0) (ab_up f 7 0) n0.natAbs)) x w2 ∧ fr_at o 13 w0 w2) := by
  intro n
  induction n with
  | zero =>
    intro g wo w
    intro n1k eg g0 g1 hw hC hf
    refine ev_iload de_Ri_passHour_29 rfl ?_
    refine ev_if_le (tgt := 66) de_Ri_passHour_31 (by decide) (by decide) (fun _ => ?_) (fun h => absurd (Int.le_refl _) h)
    have eg2 : g = sp_turns (sp_by n0) (ab_up f 7 0) n0.natAbs := eg
    rw [eg2] at hC hw
    exact lf_Ri_passHour_j hI re r0 n0 _ hC hf hw
  | succ n ih =>
    intro g wo w
    intro n1k eg g0 g1 hw hC hf
    obtain ⟨q0, q1, q2, q3, q4, q5, q6, q7, q8, q9, q10, q11, q12⟩ := id hC
    have hby : sp_by n0 = -1 ∨ sp_by n0 = 1 := by unfold sp_by; split <;> omega
    refine ev_iload de_Ri_passHour_29 rfl ?_
    refine ev_if_le (tgt := 66) de_Ri_passHour_31 (by decide) (by omega) (fun h31 => ?_) (fun h31 => ?_)
    · exact absurd h31 (by push_cast; omega)
    · skip
      refine ev_aload_n de_Ri_passHour_34 rfl rfl ?_
      refine ev_getfield de_Ri_passHour_35 q0 fl_Ri_31 rfl ?_
      refine ev_aload_n de_Ri_passHour_38 rfl rfl ?_
      refine ev_getfield de_Ri_passHour_39 q0 fl_Ri_45 rfl ?_
      refine ev_dup2 de_Ri_passHour_42 rfl rfl ?_
      refine ev_iaload de_Ri_passHour_43 q7 (by omega) (by omega) (by omega) ?_
      refine ev_iconst de_Ri_passHour_44 ?_
      refine ev_iadd de_Ri_passHour_45 ?_
      refine ev_iastore de_Ri_passHour_46 q7 (by omega) (by omega) (by omega) ?_
      refine ev_gen (P := fun w1 => (rgc o (f 0) (g 4) (f 5) (f 6) (f 7) (f 8) x (f 1) (f 2) (f 3) sl fs vo li vw ra (ab_up wo (g 4) (wo (g 4) + 1)) (f 190) dh da ds dn w1) ∧ fr_at o 13 w0 w1) ⟨rgc_wo hC, fr_set hf (by omega) (by omega)⟩ (fun w1 hCf => ?_)
      obtain ⟨hC, hf⟩ := hCf
      obtain ⟨q0, q1, q2, q3, q4, q5, q6, q7, q8, q9, q10, q11, q12⟩ := id hC
      refine ev_aload_n de_Ri_passHour_47 rfl rfl ?_
      refine ev_aload_n de_Ri_passHour_48 rfl rfl ?_
      refine ev_getfield de_Ri_passHour_49 q0 fl_Ri_45 rfl ?_
      refine ev_iload_n de_Ri_passHour_52 rfl rfl ?_
      refine ev_iadd de_Ri_passHour_53 ?_
      refine ev_sv de_Ri_passHour_54 (co_Tu_wrapped _ _ (by omega)) kb_Ri_131 sc_Tu_wrapped rfl (Nat.le_of_ble_eq_true rfl) (by decide) rfl ?_
      refine ev_putfield de_Ri_passHour_57 q0 (fp_Ri_45 _) (Nat.le_of_ble_eq_true rfl) trivial ?_
      refine ev_gen (P := fun w1 => (rgc o (f 0) ((g 4 + sp_by n0) % 12) (f 5) (f 6) (f 7) (f 8) x (f 1) (f 2) (f 3) sl fs vo li vw ra (ab_up wo (g 4) (wo (g 4) + 1)) (f 190) dh da ds dn w1) ∧ fr_at o 13 w0 w1) ⟨rgc_o hC, fr_set hf (by omega) (by omega)⟩ (fun w1 hCf => ?_)
      obtain ⟨hC, hf⟩ := hCf
      obtain ⟨q0, q1, q2, q3, q4, q5, q6, q7, q8, q9, q10, q11, q12⟩ := id hC
      refine ev_iinc (l' := [_, _, _, _, _]) de_Ri_passHour_60 rfl rfl ?_
      refine ev_goto (tgt := 29) de_Ri_passHour_63 (by decide) ?_
      refine ev_loc (l2 := [some (ab_R o), some (ab_I r0), some (ab_I n0), some (ab_I (sp_by n0)), some (ab_I (n : Int))]) (by rw [show (((n + 1 : Nat) : Int) + -1) = (n : Int) by omega]) ?_
      exact ih (sp_step (sp_by n0) g) _ _ (by omega) ((sp_turns_s _ _ _).trans eg) (by rw [sp_step_4]; omega) (by rw [sp_step_4]; omega) (sp_step_w _ g wo g0 g1 hw) (by rw [sp_step_4]; exact hC) hf
set_option maxHeartbeats 4000000 in
set_option maxRecDepth 10000 in
theorem co_Ri_passHour_j {o : Nat} {f : Int → Int} {x B : Int} {w : ab_W} (hI : sg_ok B f) (hR : ri_at_j o f x w) (r0 : Int) (hr0 : -1000 ≤ r0) (hr1 : r0 ≤ 1000) : ab_Mt g_G g_rs mt_Ri_passHour 1 0 0 [ab_R o, ab_I r0] w (fun r w2 => r = some (ab_I (sp_n f r0)) ∧ ri_at_j o (cs_passAt r0 f) x w2 ∧ fr_at o 13 w w2) := by
  have hR0 := hR
  obtain ⟨i0, i1, i2, i3, i4, i5, i6, i7, hzz⟩ := sg_all hI
  obtain ⟨i8, i9, i10, i11, i12, i13, i14, i15, hzz⟩ := hzz
  obtain ⟨i16, i17⟩ := hzz
  obtain ⟨sl, fs, vo, li, ra, wo, dh, da, ds, dn, vw, hC, re⟩ := ri_un_j hR
  obtain ⟨q0, q1, q2, q3, q4, q5, q6, q7, q8, q9, q10, q11, q12⟩ := id hC
  refine ab_Mt.of rfl (Nat.le_of_ble_eq_true rfl) ?_
  show ab_Ev g_G g_rs mt_Ri_passHour _ _ _ 0 [some (ab_R o), some (ab_I r0), none, none, none] [] _ _
  refine ev_aload_n de_Ri_passHour_0 rfl rfl ?_
  refine ev_getfield de_Ri_passHour_1 q0 fl_Ri_55 rfl ?_
  refine ev_if_eq (tgt := 11) de_Ri_passHour_4 (by decide) (by omega) (fun h4 => ?_) (fun h4 => ?_)
  · skip
    have en : sp_n f r0 = r0 := by unfold sp_n; rw [if_neg (by omega)]
    refine ev_iload_n de_Ri_passHour_11 rfl rfl ?_
    refine ev_istore_n (l' := [_, _, _, _, _]) de_Ri_passHour_12 rfl (Nat.le_of_ble_eq_true rfl) rfl ?_
    refine ev_iload_n de_Ri_passHour_13 rfl rfl ?_
    refine ev_if_ge (tgt := 21) de_Ri_passHour_14 (by decide) (by omega) (fun h14 => ?_) (fun h14 => ?_)
    · skip
      refine ev_iconst de_Ri_passHour_21 ?_
      refine ev_istore_n (l' := [_, _, _, _, _]) de_Ri_passHour_22 rfl (Nat.le_of_ble_eq_true rfl) rfl ?_
      refine ev_iload_n de_Ri_passHour_23 rfl rfl ?_
      refine ev_mabs (by omega) de_Ri_passHour_24 mk_Ri_140 (Nat.le_of_ble_eq_true rfl) (by decide) ?_
      refine ev_istore (l' := [_, _, _, _, _]) de_Ri_passHour_27 (Nat.le_of_ble_eq_true rfl) rfl ?_
      refine ev_loc (l2 := [some (ab_R o), some (ab_I r0), some (ab_I (sp_n f r0)), some (ab_I (sp_by (sp_n f r0))), some (ab_I ((sp_n f r0).natAbs : Int))]) (by rw [en]; simp only [List.cons.injEq, Option.some.injEq, Sum.inl.injEq, true_and, and_true]; unfold sp_by; refine ⟨?_, ?_⟩ <;> (repeat' split) <;> omega) ?_
      exact lo_Ri_passHour_j (w0 := w) hI re r0 (sp_n f r0) (sp_n f r0).natAbs (ab_up f 7 0) wo w (by rw [en]; omega) rfl (show 0 ≤ f 4 by omega) (show f 4 ≤ 11 by omega) (fun k a b => by rw [ab_upn _ _ (by omega)]; exact re.2.2.2.2.2.1 k a b) hC fr_0
    · skip
      refine ev_iconst de_Ri_passHour_17 ?_
      refine ev_goto (tgt := 22) de_Ri_passHour_18 (by decide) ?_
      refine ev_istore_n (l' := [_, _, _, _, _]) de_Ri_passHour_22 rfl (Nat.le_of_ble_eq_true rfl) rfl ?_
      refine ev_iload_n de_Ri_passHour_23 rfl rfl ?_
      refine ev_mabs (by omega) de_Ri_passHour_24 mk_Ri_140 (Nat.le_of_ble_eq_true rfl) (by decide) ?_
      refine ev_istore (l' := [_, _, _, _, _]) de_Ri_passHour_27 (Nat.le_of_ble_eq_true rfl) rfl ?_
      refine ev_loc (l2 := [some (ab_R o), some (ab_I r0), some (ab_I (sp_n f r0)), some (ab_I (sp_by (sp_n f r0))), some (ab_I ((sp_n f r0).natAbs : Int))]) (by rw [en]; simp only [List.cons.injEq, Option.some.injEq, Sum.inl.injEq, true_and, and_true]; unfold sp_by; refine ⟨?_, ?_⟩ <;> (repeat' split) <;> omega) ?_
      exact lo_Ri_passHour_j (w0 := w) hI re r0 (sp_n f r0) (sp_n f r0).natAbs (ab_up f 7 0) wo w (by rw [en]; omega) rfl (show 0 ≤ f 4 by omega) (show f 4 ≤ 11 by omega) (fun k a b => by rw [ab_upn _ _ (by omega)]; exact re.2.2.2.2.2.1 k a b) hC fr_0
  · skip
    have en : sp_n f r0 = 0 := by unfold sp_n; rw [if_pos (by omega)]
    refine ev_iconst de_Ri_passHour_7 ?_
    refine ev_goto (tgt := 12) de_Ri_passHour_8 (by decide) ?_
    refine ev_istore_n (l' := [_, _, _, _, _]) de_Ri_passHour_12 rfl (Nat.le_of_ble_eq_true rfl) rfl ?_
    refine ev_iload_n de_Ri_passHour_13 rfl rfl ?_
    refine ev_if_ge (tgt := 21) de_Ri_passHour_14 (by decide) (by omega) (fun h14 => ?_) (fun h14 => ?_)
    · skip
      refine ev_iconst de_Ri_passHour_21 ?_
      refine ev_istore_n (l' := [_, _, _, _, _]) de_Ri_passHour_22 rfl (Nat.le_of_ble_eq_true rfl) rfl ?_
      refine ev_iload_n de_Ri_passHour_23 rfl rfl ?_
      refine ev_mabs (by omega) de_Ri_passHour_24 mk_Ri_140 (Nat.le_of_ble_eq_true rfl) (by decide) ?_
      refine ev_istore (l' := [_, _, _, _, _]) de_Ri_passHour_27 (Nat.le_of_ble_eq_true rfl) rfl ?_
      refine ev_loc (l2 := [some (ab_R o), some (ab_I r0), some (ab_I (sp_n f r0)), some (ab_I (sp_by (sp_n f r0))), some (ab_I ((sp_n f r0).natAbs : Int))]) (by rw [en]; simp only [List.cons.injEq, Option.some.injEq, Sum.inl.injEq, true_and, and_true]; unfold sp_by; refine ⟨?_, ?_⟩ <;> (repeat' split) <;> omega) ?_
      exact lo_Ri_passHour_j (w0 := w) hI re r0 (sp_n f r0) (sp_n f r0).natAbs (ab_up f 7 0) wo w (by rw [en]; omega) rfl (show 0 ≤ f 4 by omega) (show f 4 ≤ 11 by omega) (fun k a b => by rw [ab_upn _ _ (by omega)]; exact re.2.2.2.2.2.1 k a b) hC fr_0
    · skip
      refine ev_iconst de_Ri_passHour_17 ?_
      refine ev_goto (tgt := 22) de_Ri_passHour_18 (by decide) ?_
      refine ev_istore_n (l' := [_, _, _, _, _]) de_Ri_passHour_22 rfl (Nat.le_of_ble_eq_true rfl) rfl ?_
      refine ev_iload_n de_Ri_passHour_23 rfl rfl ?_
      refine ev_mabs (by omega) de_Ri_passHour_24 mk_Ri_140 (Nat.le_of_ble_eq_true rfl) (by decide) ?_
      refine ev_istore (l' := [_, _, _, _, _]) de_Ri_passHour_27 (Nat.le_of_ble_eq_true rfl) rfl ?_
      refine ev_loc (l2 := [some (ab_R o), some (ab_I r0), some (ab_I (sp_n f r0)), some (ab_I (sp_by (sp_n f r0))), some (ab_I ((sp_n f r0).natAbs : Int))]) (by rw [en]; simp only [List.cons.injEq, Option.some.injEq, Sum.inl.injEq, true_and, and_true]; unfold sp_by; refine ⟨?_, ?_⟩ <;> (repeat' split) <;> omega) ?_
      exact lo_Ri_passHour_j (w0 := w) hI re r0 (sp_n f r0) (sp_n f r0).natAbs (ab_up f 7 0) wo w (by rw [en]; omega) rfl (show 0 ≤ f 4 by omega) (show f 4 ≤ 11 by omega) (fun k a b => by rw [ab_upn _ _ (by omega)]; exact re.2.2.2.2.2.1 k a b) hC fr_0
