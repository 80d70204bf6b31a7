theorem rj_dia {o : Nat} {f : Int → Int} {x B : Int} {w : ab_W} {sl fs vo li ra wo dh da ds dn : Int → Int} {vw : Int → Int64} (hI : sg_ok B f) (re : ri_re_j f sl fs vo li ra wo dh da ds dn vw) (h9 : f 190 < 10) {y1 y2 y3 z : Int} (b1 : 0 ≤ y1 ∧ y1 ≤ 6) (b2 : 0 ≤ y2 ∧ y2 ≤ 99) (b3 : 0 ≤ y3 ∧ y3 ≤ 4) (b4 : 0 ≤ z ∧ z ≤ 1) (hC : rgc o (f 0) (f 4) (f 5) (f 6) (f 7) (f 8) x (f 1) (f 2) (f 3) sl fs vo li vw ra wo (f 190 + 1) (ab_up dh (f 190) y1) (ab_up da (f 190) y2) (ab_up ds (f 190) y3) (ab_up dn (f 190) z) w) : ri_at_j o (sp_dia f y1 y2 y3 z) x w := by
  obtain ⟨i0, i1, i2, i3, i4, i5, i6, i7, hzz⟩ := sg_all hI
  obtain ⟨i8, i9, i10, i11, i12, i13, i14, i15, hzz⟩ := hzz
  obtain ⟨i16, i17⟩ := hzz
  have u : ∀ j, j < 150 + 4 * f 190 → sp_dia f y1 y2 y3 z j = f j := fun j hj => by
    unfold sp_dia
    rw [ab_upn _ _ (by omega), ab_upn _ _ (by omega), ab_upn _ _ (by omega), ab_upn _ _ (by omega), ab_upn _ _ (by omega)]
  have u9 : sp_dia f y1 y2 y3 z 190 = f 190 + 1 := ab_upe _ _ _
  refine ri_mk_j (u 0 (by omega)) (u 4 (by omega)) (u 5 (by omega)) (u 6 (by omega)) (u 7 (by omega)) (u 8 (by omega)) (u 1 (by omega)) (u 2 (by omega)) (u 3 (by omega)) u9 hC (rj_re_up re (by omega) (by omega) (fun j hj => u j (by omega)) (fun k a b => ?_) (fun k a b => ?_) (fun k a b => ?_) (fun k a b => ?_))
  · rw [u _ (by omega)]
    exact re.2.2.2.2.1 k a b
  · rw [u _ (by omega)]
    exact re.2.2.2.2.2.1 k a b
  · rw [u9] at b
    by_cases c : k = f 190
    · subst c
      rw [ab_upe, ab_upe, ab_upe, ab_upe]
      exact ⟨b1, b2, b3, b4⟩
    · rw [ab_upn _ _ c, ab_upn _ _ c, ab_upn _ _ c, ab_upn _ _ c]
      exact re.2.2.2.2.2.2.2.1 k a (by omega)
  · rw [u9] at b
    by_cases c : k = f 190
    · subst c
      rw [ab_upe, ab_upe, ab_upe, ab_upe]
      unfold sp_dia
      refine ⟨?_, ?_, ?_, ?_⟩
      · rw [ab_upn _ _ (by omega), ab_upn _ _ (by omega), ab_upn _ _ (by omega), ab_upn _ _ (by omega), ab_upe]
      · rw [ab_upn _ _ (by omega), ab_upn _ _ (by omega), ab_upn _ _ (by omega), ab_upe]
      · rw [ab_upn _ _ (by omega), ab_upn _ _ (by omega), ab_upe]
      · rw [ab_upn _ _ (by omega), ab_upe]
    · rw [ab_upn _ _ c, ab_upn _ _ c, ab_upn _ _ c, ab_upn _ _ c, u _ (by omega), u _ (by omega), u _ (by omega), u _ (by omega)]
      exact re.2.2.2.2.2.2.2.2 k a (by omega)
theorem rj_dl0 {o : Nat} {f : Int → Int} {x B : Int} {w : ab_W} (hI : sg_ok B f) (h : ri_at_j o f x w) : ri_at_j o (ab_up f 190 0) x (w.set (o + 8) (ab_ob 1 [ab_I 0, ab_R (o + 9), ab_R (o + 10), ab_R (o + 11), ab_R (o + 12)])) := by
  obtain ⟨i0, i1, i2, i3, i4, i5, i6, i7, hzz⟩ := sg_all hI
  obtain ⟨i8, i9, i10, i11, i12, i13, i14, i15, hzz⟩ := hzz
  obtain ⟨i16, i17⟩ := hzz
  obtain ⟨sl, fs, vo, li, ra, wo, dh, da, ds, dn, vw, hC, re⟩ := ri_un_j h
  have u : ∀ j, ¬ j = 190 → ab_up f 190 0 j = f j := fun j hj => ab_upn _ _ hj
  have u9 : ab_up f 190 0 190 = 0 := ab_upe _ _ _
  refine ri_mk_j (u 0 (by omega)) (u 4 (by omega)) (u 5 (by omega)) (u 6 (by omega)) (u 7 (by omega)) (u 8 (by omega)) (u 1 (by omega)) (u 2 (by omega)) (u 3 (by omega)) u9 (rgc_dl hC) (rj_re_up re (by omega) (by omega) (fun j hj => u j (by omega)) (fun k a b => ?_) (fun k a b => ?_) (fun k a b => ?_) (fun k a b => ?_))
  · rw [u _ (by omega)]
    exact re.2.2.2.2.1 k a b
  · rw [u _ (by omega)]
    exact re.2.2.2.2.2.1 k a b
  · rw [u9] at b; omega
  · rw [u9] at b; omega
theorem de_Di_write_0 : decode prog_3_method_3_code 0 = .ok (.aload_n 0, 1) := by decide +kernel
theorem de_Di_write_1 : decode prog_3_method_3_code 1 = .ok (.getfield 9, 3) := by decide +kernel
theorem de_Di_write_4 : decode prog_3_method_3_code 4 = .ok (.aload_n 0, 1) := by decide +kernel
theorem de_Di_write_5 : decode prog_3_method_3_code 5 = .ok (.getfield 24, 3) := by decide +kernel
theorem de_Di_write_8 : decode prog_3_method_3_code 8 = .ok (.iload_n 1, 1) := by decide +kernel
theorem de_Di_write_9 : decode prog_3_method_3_code 9 = .ok (.iastore, 1) := by decide +kernel
theorem de_Di_write_10 : decode prog_3_method_3_code 10 = .ok (.aload_n 0, 1) := by decide +kernel
theorem de_Di_write_11 : decode prog_3_method_3_code 11 = .ok (.getfield 15, 3) := by decide +kernel
theorem de_Di_write_14 : decode prog_3_method_3_code 14 = .ok (.aload_n 0, 1) := by decide +kernel
theorem de_Di_write_15 : decode prog_3_method_3_code 15 = .ok (.getfield 24, 3) := by decide +kernel
theorem de_Di_write_18 : decode prog_3_method_3_code 18 = .ok (.iload_n 2, 1) := by decide +kernel
theorem de_Di_write_19 : decode prog_3_method_3_code 19 = .ok (.iastore, 1) := by decide +kernel
theorem de_Di_write_20 : decode prog_3_method_3_code 20 = .ok (.aload_n 0, 1) := by decide +kernel
theorem de_Di_write_21 : decode prog_3_method_3_code 21 = .ok (.getfield 18, 3) := by decide +kernel
theorem de_Di_write_24 : decode prog_3_method_3_code 24 = .ok (.aload_n 0, 1) := by decide +kernel
theorem de_Di_write_25 : decode prog_3_method_3_code 25 = .ok (.getfield 24, 3) := by decide +kernel
theorem de_Di_write_28 : decode prog_3_method_3_code 28 = .ok (.iload_n 3, 1) := by decide +kernel
theorem de_Di_write_29 : decode prog_3_method_3_code 29 = .ok (.iastore, 1) := by decide +kernel
theorem de_Di_write_30 : decode prog_3_method_3_code 30 = .ok (.aload_n 0, 1) := by decide +kernel
theorem de_Di_write_31 : decode prog_3_method_3_code 31 = .ok (.getfield 21, 3) := by decide +kernel
theorem de_Di_write_34 : decode prog_3_method_3_code 34 = .ok (.aload_n 0, 1) := by decide +kernel
theorem de_Di_write_35 : decode prog_3_method_3_code 35 = .ok (.getfield 24, 3) := by decide +kernel
theorem de_Di_write_38 : decode prog_3_method_3_code 38 = .ok (.iload 4, 2) := by decide +kernel
theorem de_Di_write_40 : decode prog_3_method_3_code 40 = .ok (.ifCond .eq 7, 3) := by decide +kernel
theorem de_Di_write_43 : decode prog_3_method_3_code 43 = .ok (.iconst 1, 1) := by decide +kernel
theorem de_Di_write_44 : decode prog_3_method_3_code 44 = .ok (.goto 4, 3) := by decide +kernel
theorem de_Di_write_47 : decode prog_3_method_3_code 47 = .ok (.iconst 0, 1) := by decide +kernel
theorem de_Di_write_48 : decode prog_3_method_3_code 48 = .ok (.iastore, 1) := by decide +kernel
theorem de_Di_write_49 : decode prog_3_method_3_code 49 = .ok (.aload_n 0, 1) := by decide +kernel
theorem de_Di_write_50 : decode prog_3_method_3_code 50 = .ok (.dup, 1) := by decide +kernel
theorem de_Di_write_51 : decode prog_3_method_3_code 51 = .ok (.getfield 24, 3) := by decide +kernel
theorem de_Di_write_54 : decode prog_3_method_3_code 54 = .ok (.iconst 1, 1) := by decide +kernel
theorem de_Di_write_55 : decode prog_3_method_3_code 55 = .ok (.iadd, 1) := by decide +kernel
theorem de_Di_write_56 : decode prog_3_method_3_code 56 = .ok (.putfield 24, 3) := by decide +kernel
theorem de_Di_write_59 : decode prog_3_method_3_code 59 = .ok (.return_, 1) := by decide +kernel
set_option maxHeartbeats 4000000 in
set_option maxRecDepth 10000 in
theorem co_Di_write {o : Nat} {f : Int → Int} {x B : Int} {w : ab_W} (hI : sg_ok B f) (hR : ri_at_j o f x w) (h9 : f 190 < 10) (y1 y2 y3 y4 : Int) (b1 : 0 ≤ y1 ∧ y1 ≤ 6) (b2 : 0 ≤ y2 ∧ y2 ≤ 99) (b3 : 0 ≤ y3 ∧ y3 ≤ 4) (b4 : y4 = 0 ∨ y4 = 1) : ab_Mt g_G g_rs mt_Di_write 0 0 0 [ab_R (o + 8), ab_I y1, ab_I y2, ab_I y3, ab_I y4] w (fun r w2 => r = none ∧ ri_at_j o (sp_dia f y1 y2 y3 y4) x w2 ∧ fr_at o 13 w w2) := by
  have hf : fr_at o 13 w w := fr_0
  obtain ⟨sl, fs, vo, li, ra, wo, dh, da, ds, dn, vw, hC, re⟩ := ri_un_j hR
  obtain ⟨i0, i1, i2, i3, i4, i5, i6, i7, hzz⟩ := sg_all hI
  obtain ⟨i8, i9, i10, i11, i12, i13, i14, i15, hzz⟩ := hzz
  obtain ⟨i16, i17⟩ := hzz
  obtain ⟨q0, q1, q2, q3, q4, q5, q6, q7, q8, q9, q10, q11, q12⟩ := id hC
  refine ab_Mt.of rfl (Nat.le_of_ble_eq_true rfl) ?_
  show ab_Ev g_G g_rs mt_Di_write _ _ _ 0 [some (ab_R (o + 8)), some (ab_I y1), some (ab_I y2), some (ab_I y3), some (ab_I y4)] [] _ _
  refine ev_aload_n de_Di_write_0 rfl rfl ?_
  refine ev_getfield de_Di_write_1 q8 fl_Di_9 rfl ?_
  refine ev_aload_n de_Di_write_4 rfl rfl ?_
  refine ev_getfield de_Di_write_5 q8 fl_Di_24 rfl ?_
  refine ev_iload_n de_Di_write_8 rfl rfl ?_
  refine ev_iastore de_Di_write_9 q9 (by first | omega | assumption) (by first | omega | assumption) (by first | omega | assumption) ?_
  refine ev_gen (P := fun w1 => (rgc o (f 0) (f 4) (f 5) (f 6) (f 7) (f 8) x (f 1) (f 2) (f 3) sl fs vo li vw ra wo (f 190) (ab_up dh (f 190) y1) da ds dn w1) ∧ fr_at o 13 w w1) ⟨rgc_dh hC, fr_set hf (by omega) (by omega)⟩ (fun w1 hCf => ?_)
  obtain ⟨hC, hf⟩ := hCf
  obtain ⟨q0, q1, q2, q3, q4, q5, q6, q7, q8, q9, q10, q11, q12⟩ := id hC
  refine ev_aload_n de_Di_write_10 rfl rfl ?_
  refine ev_getfield de_Di_write_11 q8 fl_Di_15 rfl ?_
  refine ev_aload_n de_Di_write_14 rfl rfl ?_
  refine ev_getfield de_Di_write_15 q8 fl_Di_24 rfl ?_
  refine ev_iload_n de_Di_write_18 rfl rfl ?_
  refine ev_iastore de_Di_write_19 q10 (by first | omega | assumption) (by first | omega | assumption) (by first | omega | assumption) ?_
  refine ev_gen (P := fun w1 => (rgc o (f 0) (f 4) (f 5) (f 6) (f 7) (f 8) x (f 1) (f 2) (f 3) sl fs vo li vw ra wo (f 190) (ab_up dh (f 190) y1) (ab_up da (f 190) y2) ds dn w1) ∧ fr_at o 13 w w1) ⟨rgc_da hC, fr_set hf (by omega) (by omega)⟩ (fun w1 hCf => ?_)
  obtain ⟨hC, hf⟩ := hCf
  obtain ⟨q0, q1, q2, q3, q4, q5, q6, q7, q8, q9, q10, q11, q12⟩ := id hC
  refine ev_aload_n de_Di_write_20 rfl rfl ?_
  refine ev_getfield de_Di_write_21 q8 fl_Di_18 rfl ?_
  refine ev_aload_n de_Di_write_24 rfl rfl ?_
  refine ev_getfield de_Di_write_25 q8 fl_Di_24 rfl ?_
  refine ev_iload_n de_Di_write_28 rfl rfl ?_
  refine ev_iastore de_Di_write_29 q11 (by first | omega | assumption) (by first | omega | assumption) (by first | omega | assumption) ?_
  refine ev_gen (P := fun w1 => (rgc o (f 0) (f 4) (f 5) (f 6) (f 7) (f 8) x (f 1) (f 2) (f 3) sl fs vo li vw ra wo (f 190) (ab_up dh (f 190) y1) (ab_up da (f 190) y2) (ab_up ds (f 190) y3) dn w1) ∧ fr_at o 13 w w1) ⟨rgc_ds hC, fr_set hf (by omega) (by omega)⟩ (fun w1 hCf => ?_)
  obtain ⟨hC, hf⟩ := hCf
  obtain ⟨q0, q1, q2, q3, q4, q5, q6, q7, q8, q9, q10, q11, q12⟩ := id hC
  refine ev_aload_n de_Di_write_30 rfl rfl ?_
  refine ev_getfield de_Di_write_31 q8 fl_Di_21 rfl ?_
  refine ev_aload_n de_Di_write_34 rfl rfl ?_
  refine ev_getfield de_Di_write_35 q8 fl_Di_24 rfl ?_
  refine ev_iload de_Di_write_38 rfl ?_
  refine ev_if_eq (tgt := 47) de_Di_write_40 (by decide) (by first | omega | assumption) (fun h40 => ?_) (fun h40 => ?_)
  · skip
    refine ev_iconst de_Di_write_47 ?_
    refine ev_top (congrArg Sum.inl (show (0 : Int) = y4 by omega)) ?_
    refine ev_iastore de_Di_write_48 q12 (by first | omega | assumption) (by first | omega | assumption) (by first | omega | assumption) ?_
    refine ev_gen (P := fun w1 => (rgc o (f 0) (f 4) (f 5) (f 6) (f 7) (f 8) x (f 1) (f 2) (f 3) sl fs vo li vw ra wo (f 190) (ab_up dh (f 190) y1) (ab_up da (f 190) y2) (ab_up ds (f 190) y3) (ab_up dn (f 190) y4) w1) ∧ fr_at o 13 w w1) ⟨rgc_dn hC, fr_set hf (by omega) (by omega)⟩ (fun w1 hCf => ?_)
    obtain ⟨hC, hf⟩ := hCf
    obtain ⟨q0, q1, q2, q3, q4, q5, q6, q7, q8, q9, q10, q11, q12⟩ := id hC
    refine ev_aload_n de_Di_write_49 rfl rfl ?_
    refine ev_dup de_Di_write_50 rfl ?_
    refine ev_getfield de_Di_write_51 q8 fl_Di_24 rfl ?_
    refine ev_iconst de_Di_write_54 ?_
    refine ev_iadd de_Di_write_55 ?_
    refine ev_putfield de_Di_write_56 q8 (fp_Di_24 _) (Nat.le_of_ble_eq_true rfl) trivial ?_
    refine ev_gen (P := fun w1 => (rgc o (f 0) (f 4) (f 5) (f 6) (f 7) (f 8) x (f 1) (f 2) (f 3) sl fs vo li vw ra wo (f 190 + 1) (ab_up dh (f 190) y1) (ab_up da (f 190) y2) (ab_up ds (f 190) y3) (ab_up dn (f 190) y4) w1) ∧ fr_at o 13 w w1) ⟨rgc_dl hC, fr_set hf (by omega) (by omega)⟩ (fun w1 hCf => ?_)
    obtain ⟨hC, hf⟩ := hCf
    obtain ⟨q0, q1, q2, q3, q4, q5, q6, q7, q8, q9, q10, q11, q12⟩ := id hC
    exact ev_return de_Di_write_59 rfl ⟨rfl, rj_dia hI re h9 (by omega) (by omega) (by omega) (by omega) hC, hf⟩
  · skip
    refine ev_iconst de_Di_write_43 ?_
    refine ev_top (congrArg Sum.inl (show (1 : Int) = y4 by omega)) ?_
    refine ev_goto (tgt := 48) de_Di_write_44 (by decide) ?_
    refine ev_iastore de_Di_write_48 q12 (by first | omega | assumption) (by first | omega | assumption) (by first | omega | assumption) ?_
    refine ev_gen (P := fun w1 => (rgc o (f 0) (f 4) (f 5) (f 6) (f 7) (f 8) x (f 1) (f 2) (f 3) sl fs vo li vw ra wo (f 190) (ab_up dh (f 190) y1) (ab_up da (f 190) y2) (ab_up ds (f 190) y3) (ab_up dn (f 190) y4) w1) ∧ fr_at o 13 w w1) ⟨rgc_dn hC, fr_set hf (by omega) (by omega)⟩ (fun w1 hCf => ?_)
    obtain ⟨hC, hf⟩ := hCf
    obtain ⟨q0, q1, q2, q3, q4, q5, q6, q7, q8, q9, q10, q11, q12⟩ := id hC
    refine ev_aload_n de_Di_write_49 rfl rfl ?_
    refine ev_dup de_Di_write_50 rfl ?_
    refine ev_getfield de_Di_write_51 q8 fl_Di_24 rfl ?_
    refine ev_iconst de_Di_write_54 ?_
    refine ev_iadd de_Di_write_55 ?_
    refine ev_putfield de_Di_write_56 q8 (fp_Di_24 _) (Nat.le_of_ble_eq_true rfl) trivial ?_
    refine ev_gen (P := fun w1 => (rgc o (f 0) (f 4) (f 5) (f 6) (f 7) (f 8) x (f 1) (f 2) (f 3) sl fs vo li vw ra wo (f 190 + 1) (ab_up dh (f 190) y1) (ab_up da (f 190) y2) (ab_up ds (f 190) y3) (ab_up dn (f 190) y4) w1) ∧ fr_at o 13 w w1) ⟨rgc_dl hC, fr_set hf (by omega) (by omega)⟩ (fun w1 hCf => ?_)
    obtain ⟨hC, hf⟩ := hCf
    obtain ⟨q0, q1, q2, q3, q4, q5, q6, q7, q8, q9, q10, q11, q12⟩ := id hC
    exact ev_return de_Di_write_59 rfl ⟨rfl, rj_dia hI re h9 (by omega) (by omega) (by omega) (by omega) hC, hf⟩
theorem de_Tu_diary_0 : decode prog_1_method_32_code 0 = .ok (.iload_n 1, 1) := by decide +kernel
theorem de_Tu_diary_1 : decode prog_1_method_32_code 1 = .ok (.iconst (-1), 1) := by decide +kernel
theorem de_Tu_diary_2 : decode prog_1_method_32_code 2 = .ok (.if_icmp .ne 16, 3) := by decide +kernel
theorem de_Tu_diary_5 : decode prog_1_method_32_code 5 = .ok (.aload_n 0, 1) := by decide +kernel
theorem de_Tu_diary_6 : decode prog_1_method_32_code 6 = .ok (.getfield 19, 3) := by decide +kernel
theorem de_Tu_diary_9 : decode prog_1_method_32_code 9 = .ok (.getfield 192, 3) := by decide +kernel
theorem de_Tu_diary_12 : decode prog_1_method_32_code 12 = .ok (.iconst 0, 1) := by decide +kernel
theorem de_Tu_diary_13 : decode prog_1_method_32_code 13 = .ok (.putfield 196, 3) := by decide +kernel
theorem de_Tu_diary_16 : decode prog_1_method_32_code 16 = .ok (.iconst 0, 1) := by decide +kernel
theorem de_Tu_diary_17 : decode prog_1_method_32_code 17 = .ok (.ireturn, 1) := by decide +kernel
theorem de_Tu_diary_18 : decode prog_1_method_32_code 18 = .ok (.aload_n 0, 1) := by decide +kernel
theorem de_Tu_diary_19 : decode prog_1_method_32_code 19 = .ok (.iload_n 1, 1) := by decide +kernel
theorem de_Tu_diary_20 : decode prog_1_method_32_code 20 = .ok (.invokevirtual 118, 3) := by decide +kernel
theorem de_Tu_diary_23 : decode prog_1_method_32_code 23 = .ok (.ifCond .eq 35, 3) := by decide +kernel
theorem de_Tu_diary_26 : decode prog_1_method_32_code 26 = .ok (.iload_n 2, 1) := by decide +kernel
theorem de_Tu_diary_27 : decode prog_1_method_32_code 27 = .ok (.ifCond .lt 31, 3) := by decide +kernel
theorem de_Tu_diary_30 : decode prog_1_method_32_code 30 = .ok (.iload_n 2, 1) := by decide +kernel
theorem de_Tu_diary_31 : decode prog_1_method_32_code 31 = .ok (.bipush 99, 2) := by decide +kernel
theorem de_Tu_diary_33 : decode prog_1_method_32_code 33 = .ok (.if_icmp .gt 25, 3) := by decide +kernel
theorem de_Tu_diary_36 : decode prog_1_method_32_code 36 = .ok (.iload_n 3, 1) := by decide +kernel
theorem de_Tu_diary_37 : decode prog_1_method_32_code 37 = .ok (.invokestatic 302, 3) := by decide +kernel
theorem de_Tu_diary_40 : decode prog_1_method_32_code 40 = .ok (.ifCond .eq 18, 3) := by decide +kernel
theorem de_Tu_diary_43 : decode prog_1_method_32_code 43 = .ok (.aload_n 0, 1) := by decide +kernel
theorem de_Tu_diary_44 : decode prog_1_method_32_code 44 = .ok (.getfield 19, 3) := by decide +kernel
theorem de_Tu_diary_47 : decode prog_1_method_32_code 47 = .ok (.getfield 192, 3) := by decide +kernel
theorem de_Tu_diary_50 : decode prog_1_method_32_code 50 = .ok (.getfield 196, 3) := by decide +kernel
theorem de_Tu_diary_53 : decode prog_1_method_32_code 53 = .ok (.bipush 10, 2) := by decide +kernel
theorem de_Tu_diary_55 : decode prog_1_method_32_code 55 = .ok (.if_icmp .lt 6, 3) := by decide +kernel
theorem de_Tu_diary_58 : decode prog_1_method_32_code 58 = .ok (.bipush (-2), 2) := by decide +kernel
theorem de_Tu_diary_60 : decode prog_1_method_32_code 60 = .ok (.ireturn, 1) := by decide +kernel
theorem de_Tu_diary_61 : decode prog_1_method_32_code 61 = .ok (.aload_n 0, 1) := by decide +kernel
theorem de_Tu_diary_62 : decode prog_1_method_32_code 62 = .ok (.getfield 19, 3) := by decide +kernel
theorem de_Tu_diary_65 : decode prog_1_method_32_code 65 = .ok (.getfield 192, 3) := by decide +kernel
theorem de_Tu_diary_68 : decode prog_1_method_32_code 68 = .ok (.iload_n 1, 1) := by decide +kernel
theorem de_Tu_diary_69 : decode prog_1_method_32_code 69 = .ok (.iload_n 2, 1) := by decide +kernel
theorem de_Tu_diary_70 : decode prog_1_method_32_code 70 = .ok (.iload_n 3, 1) := by decide +kernel
theorem de_Tu_diary_71 : decode prog_1_method_32_code 71 = .ok (.iload 4, 2) := by decide +kernel
theorem de_Tu_diary_73 : decode prog_1_method_32_code 73 = .ok (.invokevirtual 309, 3) := by decide +kernel
theorem de_Tu_diary_76 : decode prog_1_method_32_code 76 = .ok (.aload_n 0, 1) := by decide +kernel
theorem de_Tu_diary_77 : decode prog_1_method_32_code 77 = .ok (.getfield 19, 3) := by decide +kernel
theorem de_Tu_diary_80 : decode prog_1_method_32_code 80 = .ok (.getfield 192, 3) := by decide +kernel
theorem de_Tu_diary_83 : decode prog_1_method_32_code 83 = .ok (.getfield 196, 3) := by decide +kernel
theorem de_Tu_diary_86 : decode prog_1_method_32_code 86 = .ok (.ireturn, 1) := by decide +kernel
set_option maxHeartbeats 4000000 in
set_option maxRecDepth 10000 in
theorem co_Tu_diary {a b : Nat} {rc : Int} {f : Int → Int} {x B : Int} {w : ab_W} (hI : sg_ok B f) (t0 : tu_at a b rc w) (hR : ri_at_j a f x w) (hab : a = 3 ∨ a = 16) (y1 : Int) (hy1 : ab_in y1) (y2 : Int) (hy2 : ab_in y2) (y3 : Int) (hy3 : ab_in y3) (y4 : Int) (b4 : y4 = 0 ∨ y4 = 1) : ab_Mt g_G g_rs mt_Tu_diary 1 0 0 [ab_R 0, ab_I y1, ab_I y2, ab_I y3, ab_I y4] w (fun r w2 => w2.length = w.length ∧ (y1 = -1 ∧ r = some (ab_I 0) ∧ ri_at_j a (ab_up f 190 0) x w2 ∨ ¬ y1 = -1 ∧ ((0 ≤ y1 ∧ y1 < f 1) ∧ (0 ≤ y2 ∧ y2 ≤ 99) ∧ (0 ≤ y3 ∧ y3 ≤ 4) ∧ ¬ f 190 = 10) ∧ r = some (ab_I (f 190 + 1)) ∧ ri_at_j a (sp_dia f y1 y2 y3 y4) x w2 ∨ ¬ y1 = -1 ∧ ¬ ((0 ≤ y1 ∧ y1 < f 1) ∧ (0 ≤ y2 ∧ y2 ≤ 99) ∧ (0 ≤ y3 ∧ y3 ≤ 4) ∧ ¬ f 190 = 10) ∧ r = some (ab_I (-2)) ∧ w2 = w)) := by
  have ht0 := t0
  have hR0 := hR
  have hI0 := hI
  unfold tu_at at t0
  obtain ⟨sl, fs, vo, li, ra, wo, dh, da, hzz⟩ := hR
  obtain ⟨ds, dn, vw, q0, q1, q2, q3, q4, hzz⟩ := hzz
  obtain ⟨q5, q6, q7, q8, q9, q10, q11, q12, hzz⟩ := hzz
  obtain ⟨e1, e2, e3, e4, e5, e6, e7, e8, e9⟩ := hzz
  obtain ⟨i0, i1, i2, i3, i4, i5, i6, i7, hzz⟩ := sg_all hI
  obtain ⟨i8, i9, i10, i11, i12, i13, i14, i15, hzz⟩ := hzz
  obtain ⟨i16, i17⟩ := hzz
  refine ab_Mt.of rfl (Nat.le_of_ble_eq_true rfl) ?_
  show ab_Ev g_G g_rs mt_Tu_diary _ _ _ 0 [some (ab_R 0), some (ab_I y1), some (ab_I y2), some (ab_I y3), some (ab_I y4)] [] _ _
  refine ev_iload_n de_Tu_diary_0 rfl rfl ?_
  refine ev_iconst de_Tu_diary_1 ?_
  refine ev_icmp_ne (tgt := 18) de_Tu_diary_2 (by decide) (by first | omega | assumption) (by first | omega | assumption) (fun h2 => ?_) (fun h2 => ?_)
  · skip
    refine ev_aload_n de_Tu_diary_18 rfl rfl ?_
    refine ev_iload_n de_Tu_diary_19 rfl rfl ?_
    refine ev_vv (ci := 10) de_Tu_diary_20 (co_Tu_hasHouse hI0 ht0 hR0 _ (by assumption)) kb_Tu_118 ⟨im_Tu_hasHouse, se_Tu_hasHouse⟩ rfl t0 rfl (Nat.le_of_ble_eq_true rfl) (by decide) rfl ?_
    refine ev_if_eq (tgt := 58) de_Tu_diary_23 (by decide) (by first | omega | (split <;> decide)) (fun h23 => ?_) (fun h23 => ?_)
    · skip
      refine ev_bipush de_Tu_diary_58 rfl ?_
      exact ev_ireturn de_Tu_diary_60 rfl ⟨rfl, Or.inr (Or.inr ⟨by omega, by first | omega | (intro z; rw [if_pos z.1] at h23; omega) | (intro z; rw [if_pos z.2.2.1] at h40; omega), rfl, rfl⟩)⟩
    · skip
      refine ev_iload_n de_Tu_diary_26 rfl rfl ?_
      refine ev_if_lt (tgt := 58) de_Tu_diary_27 (by decide) (by first | omega | assumption) (fun h27 => ?_) (fun h27 => ?_)
      · skip
        refine ev_bipush de_Tu_diary_58 rfl ?_
        exact ev_ireturn de_Tu_diary_60 rfl ⟨rfl, Or.inr (Or.inr ⟨by omega, by first | omega | (intro z; rw [if_pos z.1] at h23; omega) | (intro z; rw [if_pos z.2.2.1] at h40; omega), rfl, rfl⟩)⟩
      · skip
        refine ev_iload_n de_Tu_diary_30 rfl rfl ?_
        refine ev_bipush de_Tu_diary_31 rfl ?_
        refine ev_icmp_gt (tgt := 58) de_Tu_diary_33 (by decide) (by first | omega | assumption) (by first | omega | assumption) (fun h33 => ?_) (fun h33 => ?_)
        · skip
          refine ev_bipush de_Tu_diary_58 rfl ?_
          exact ev_ireturn de_Tu_diary_60 rfl ⟨rfl, Or.inr (Or.inr ⟨by omega, by first | omega | (intro z; rw [if_pos z.1] at h23; omega) | (intro z; rw [if_pos z.2.2.1] at h40; omega), rfl, rfl⟩)⟩
        · skip
          refine ev_iload_n de_Tu_diary_36 rfl rfl ?_
          refine ev_sv de_Tu_diary_37 (co_Tu_isSort _ _ (by assumption)) kb_Tu_302 sc_Tu_isSort rfl (Nat.le_of_ble_eq_true rfl) (by decide) rfl ?_
          refine ev_if_eq (tgt := 58) de_Tu_diary_40 (by decide) (by first | omega | (split <;> decide)) (fun h40 => ?_) (fun h40 => ?_)
          · skip
            refine ev_bipush de_Tu_diary_58 rfl ?_
            exact ev_ireturn de_Tu_diary_60 rfl ⟨rfl, Or.inr (Or.inr ⟨by omega, by first | omega | (intro z; rw [if_pos z.1] at h23; omega) | (intro z; rw [if_pos z.2.2.1] at h40; omega), rfl, rfl⟩)⟩
          · skip
            refine ev_aload_n de_Tu_diary_43 rfl rfl ?_
            refine ev_getfield de_Tu_diary_44 t0 fl_Tu_19 rfl ?_
            refine ev_getfield de_Tu_diary_47 q0 fl_Tu_192 rfl ?_
            refine ev_getfield de_Tu_diary_50 q8 fl_Tu_196 rfl ?_
            refine ev_bipush de_Tu_diary_53 rfl ?_
            refine ev_icmp_lt (tgt := 61) de_Tu_diary_55 (by decide) (by first | omega | assumption) (by first | omega | assumption) (fun h55 => ?_) (fun h55 => ?_)
            · skip
              have hh1 : 0 ≤ y1 ∧ y1 < f 1 := by split at h23 <;> omega
              have hh3 : 0 ≤ y3 ∧ y3 ≤ 4 := by split at h40 <;> omega
              refine ev_aload_n de_Tu_diary_61 rfl rfl ?_
              refine ev_getfield de_Tu_diary_62 t0 fl_Tu_19 rfl ?_
              refine ev_getfield de_Tu_diary_65 q0 fl_Tu_192 rfl ?_
              refine ev_iload_n de_Tu_diary_68 rfl rfl ?_
              refine ev_iload_n de_Tu_diary_69 rfl rfl ?_
              refine ev_iload_n de_Tu_diary_70 rfl rfl ?_
              refine ev_iload de_Tu_diary_71 rfl ?_
              refine ev_virtual (ci := 1) (mc := 0) (ms := 0) (bc := 0) (bs := 0) de_Tu_diary_73 (co_Di_write hI0 hR0 (by omega) _ _ _ _ (by omega) (by omega) (by omega) b4) kb_Tu_309 ⟨im_Di_write, se_Di_write⟩ rfl q8 rfl (Nat.le_of_ble_eq_true rfl) (by decide) (Or.inl (fun r w1 h => h.2.2.1)) (fun r1 w1 hm1 => ?_)
              obtain ⟨rfl, hR, hf1⟩ := hm1
              · skip
                have t0 := (hf1.2 0 (by omega)).trans t0
                have hR0 := hR
                obtain ⟨sl, fs, vo, li, ra, wo, dh, da, ds, dn, vw, hC, re⟩ := ri_un_j hR
                obtain ⟨q0, q1, q2, q3, q4, q5, q6, q7, q8, q9, q10, q11, q12⟩ := id hC
                refine ev_aload_n de_Tu_diary_76 rfl rfl ?_
                refine ev_getfield de_Tu_diary_77 t0 fl_Tu_19 rfl ?_
                refine ev_getfield de_Tu_diary_80 q0 fl_Tu_192 rfl ?_
                refine ev_getfield de_Tu_diary_83 q8 fl_Tu_196 rfl ?_
                exact ev_ireturn de_Tu_diary_86 rfl ⟨hf1.1, Or.inr (Or.inl ⟨by omega, ⟨hh1, ⟨by omega, by omega⟩, hh3, by omega⟩, congrArg (fun z => some (ab_I z)) (ab_upe _ _ _), hR0⟩)⟩
            · skip
              refine ev_bipush de_Tu_diary_58 rfl ?_
              exact ev_ireturn de_Tu_diary_60 rfl ⟨rfl, Or.inr (Or.inr ⟨by omega, by first | omega | (intro z; rw [if_pos z.1] at h23; omega) | (intro z; rw [if_pos z.2.2.1] at h40; omega), rfl, rfl⟩)⟩
  · skip
    refine ev_aload_n de_Tu_diary_5 rfl rfl ?_
    refine ev_getfield de_Tu_diary_6 t0 fl_Tu_19 rfl ?_
    refine ev_getfield de_Tu_diary_9 q0 fl_Tu_192 rfl ?_
    refine ev_iconst de_Tu_diary_12 ?_
    refine ev_putfield de_Tu_diary_13 q8 (fp_Tu_196 _) (Nat.le_of_ble_eq_true rfl) trivial ?_
    refine ev_gen (P := fun w1 => ri_at_j a (ab_up f 190 0) x w1 ∧ fr_at a 13 w w1) ⟨rj_dl0 hI0 hR0, fr_set fr_0 (by omega) (by omega)⟩ (fun w1 hm1 => ?_)
    obtain ⟨hR9, hf9⟩ := hm1
    refine ev_iconst de_Tu_diary_16 ?_
    exact ev_ireturn de_Tu_diary_17 rfl ⟨hf9.1, Or.inl ⟨by omega, rfl, hR9⟩⟩
