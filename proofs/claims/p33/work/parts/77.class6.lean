theorem rgc_out {o : Nat} {told : Int} {an : Int} {hr : Int} {dy : Int} {sp : Int} {ss : Int} {x : Int} {ho : Int} {si : Int} {ga : Int} {sl : Int → Int} {fs : Int → Int} {vo : Int → Int} {li : Int → Int} {vw : Int → Int64} {ra : Int → Int} {wo : Int → Int} {dl : Int} {dh : Int → Int} {da : Int → Int} {ds : Int → Int} {dn : Int → Int} {w : ab_W} {i : Nat} {E : ab_E} (h : (rgc o told an hr dy sp ss x ho si ga sl fs vo li vw ra wo dl dh da ds dn w)) (hi : i < o ∨ o + 13 ≤ i) : (rgc o told an hr dy sp ss x ho si ga sl fs vo li vw ra wo dl dh da ds dn (w.set i E)) := by obtain ⟨q0, q1, q2, q3, q4, q5, q6, q7, q8, q9, q10, q11, q12⟩ := h; exact ⟨ab_gn q0 (by omega), ab_gn q1 (by omega), ab_gn q2 (by omega), ab_gn q3 (by omega), ab_gn q4 (by omega), ab_gn q5 (by omega), ab_gn q6 (by omega), ab_gn q7 (by omega), ab_gn q8 (by omega), ab_gn q9 (by omega), ab_gn q10 (by omega), ab_gn q11 (by omega), ab_gn q12 (by omega)⟩
theorem de_Di_copyFrom_0 : decode prog_3_method_2_code 0 = .ok (.aload_n 0, 1) := by decide +kernel
theorem de_Di_copyFrom_1 : decode prog_3_method_2_code 1 = .ok (.aload_n 1, 1) := by decide +kernel
theorem de_Di_copyFrom_2 : decode prog_3_method_2_code 2 = .ok (.getfield 24, 3) := by decide +kernel
theorem de_Di_copyFrom_5 : decode prog_3_method_2_code 5 = .ok (.putfield 24, 3) := by decide +kernel
theorem de_Di_copyFrom_8 : decode prog_3_method_2_code 8 = .ok (.aload_n 1, 1) := by decide +kernel
theorem de_Di_copyFrom_9 : decode prog_3_method_2_code 9 = .ok (.getfield 9, 3) := by decide +kernel
theorem de_Di_copyFrom_12 : decode prog_3_method_2_code 12 = .ok (.iconst 0, 1) := by decide +kernel
theorem de_Di_copyFrom_13 : decode prog_3_method_2_code 13 = .ok (.aload_n 0, 1) := by decide +kernel
theorem de_Di_copyFrom_14 : decode prog_3_method_2_code 14 = .ok (.getfield 9, 3) := by decide +kernel
theorem de_Di_copyFrom_17 : decode prog_3_method_2_code 17 = .ok (.iconst 0, 1) := by decide +kernel
theorem de_Di_copyFrom_18 : decode prog_3_method_2_code 18 = .ok (.bipush 10, 2) := by decide +kernel
theorem de_Di_copyFrom_20 : decode prog_3_method_2_code 20 = .ok (.invokestatic 28, 3) := by decide +kernel
theorem de_Di_copyFrom_23 : decode prog_3_method_2_code 23 = .ok (.aload_n 1, 1) := by decide +kernel
theorem de_Di_copyFrom_24 : decode prog_3_method_2_code 24 = .ok (.getfield 15, 3) := by decide +kernel
theorem de_Di_copyFrom_27 : decode prog_3_method_2_code 27 = .ok (.iconst 0, 1) := by decide +kernel
theorem de_Di_copyFrom_28 : decode prog_3_method_2_code 28 = .ok (.aload_n 0, 1) := by decide +kernel
theorem de_Di_copyFrom_29 : decode prog_3_method_2_code 29 = .ok (.getfield 15, 3) := by decide +kernel
theorem de_Di_copyFrom_32 : decode prog_3_method_2_code 32 = .ok (.iconst 0, 1) := by decide +kernel
theorem de_Di_copyFrom_33 : decode prog_3_method_2_code 33 = .ok (.bipush 10, 2) := by decide +kernel
theorem de_Di_copyFrom_35 : decode prog_3_method_2_code 35 = .ok (.invokestatic 28, 3) := by decide +kernel
theorem de_Di_copyFrom_38 : decode prog_3_method_2_code 38 = .ok (.aload_n 1, 1) := by decide +kernel
theorem de_Di_copyFrom_39 : decode prog_3_method_2_code 39 = .ok (.getfield 18, 3) := by decide +kernel
theorem de_Di_copyFrom_42 : decode prog_3_method_2_code 42 = .ok (.iconst 0, 1) := by decide +kernel
theorem de_Di_copyFrom_43 : decode prog_3_method_2_code 43 = .ok (.aload_n 0, 1) := by decide +kernel
theorem de_Di_copyFrom_44 : decode prog_3_method_2_code 44 = .ok (.getfield 18, 3) := by decide +kernel
theorem de_Di_copyFrom_47 : decode prog_3_method_2_code 47 = .ok (.iconst 0, 1) := by decide +kernel
theorem de_Di_copyFrom_48 : decode prog_3_method_2_code 48 = .ok (.bipush 10, 2) := by decide +kernel
theorem de_Di_copyFrom_50 : decode prog_3_method_2_code 50 = .ok (.invokestatic 28, 3) := by decide +kernel
theorem de_Di_copyFrom_53 : decode prog_3_method_2_code 53 = .ok (.aload_n 1, 1) := by decide +kernel
theorem de_Di_copyFrom_54 : decode prog_3_method_2_code 54 = .ok (.getfield 21, 3) := by decide +kernel
theorem de_Di_copyFrom_57 : decode prog_3_method_2_code 57 = .ok (.iconst 0, 1) := by decide +kernel
theorem de_Di_copyFrom_58 : decode prog_3_method_2_code 58 = .ok (.aload_n 0, 1) := by decide +kernel
theorem de_Di_copyFrom_59 : decode prog_3_method_2_code 59 = .ok (.getfield 21, 3) := by decide +kernel
theorem de_Di_copyFrom_62 : decode prog_3_method_2_code 62 = .ok (.iconst 0, 1) := by decide +kernel
theorem de_Di_copyFrom_63 : decode prog_3_method_2_code 63 = .ok (.bipush 10, 2) := by decide +kernel
theorem de_Di_copyFrom_65 : decode prog_3_method_2_code 65 = .ok (.invokestatic 28, 3) := by decide +kernel
theorem de_Di_copyFrom_68 : decode prog_3_method_2_code 68 = .ok (.return_, 1) := by decide +kernel
set_option maxHeartbeats 4000000 in
set_option maxRecDepth 10000 in
theorem co_Di_copyFrom {o p : Nat} {told : Int} {an : Int} {hr : Int} {dy : Int} {sp : Int} {ss : Int} {x : Int} {ho : Int} {si : Int} {ga : Int} {sl : Int → Int} {fs : Int → Int} {vo : Int → Int} {li : Int → Int} {vw : Int → Int64} {ra : Int → Int} {wo : Int → Int} {dl : Int} {dh : Int → Int} {da : Int → Int} {ds : Int → Int} {dn : Int → Int} {toldp : Int} {anp : Int} {hrp : Int} {dyp : Int} {spp : Int} {ssp : Int} {xp : Int} {hop : Int} {sip : Int} {gap : Int} {slp : Int → Int} {fsp : Int → Int} {vop : Int → Int} {lip : Int → Int} {vwp : Int → Int64} {rap : Int → Int} {wop : Int → Int} {dlp : Int} {dhp : Int → Int} {dap : Int → Int} {dsp : Int → Int} {dnp : Int → Int} {w : ab_W} (hC : (rgc o told an hr dy sp ss x ho si ga sl fs vo li vw ra wo dl dh da ds dn w)) (hp : (rgc p toldp anp hrp dyp spp ssp xp hop sip gap slp fsp vop lip vwp rap wop dlp dhp dap dsp dnp w)) (hd : o + 13 ≤ p ∨ p + 13 ≤ o) : ab_Mt g_G g_rs mt_Di_copyFrom 1 0 0 [ab_R (o + 8), ab_R (p + 8)] w (fun r w2 => r = none ∧ (rgc o told an hr dy sp ss x ho si ga sl fs vo li vw ra wo (dlp) (ab_cp dhp dh 0 0 10) (ab_cp dap da 0 0 10) (ab_cp dsp ds 0 0 10) (ab_cp dnp dn 0 0 10) w2) ∧ (rgc p toldp anp hrp dyp spp ssp xp hop sip gap slp fsp vop lip vwp rap wop dlp dhp dap dsp dnp w2) ∧ fr_at o 13 w w2) := by
  obtain ⟨q0, q1, q2, q3, q4, q5, q6, q7, q8, q9, q10, q11, q12⟩ := id hC
  obtain ⟨p0, p1, p2, p3, p4, p5, p6, p7, p8, p9, p10, p11, p12⟩ := id hp
  have hf : fr_at o 13 w w := fr_0
  refine ab_Mt.of rfl (Nat.le_of_ble_eq_true rfl) ?_
  show ab_Ev g_G g_rs mt_Di_copyFrom _ _ _ 0 [some (ab_R (o + 8)), some (ab_R (p + 8))] [] _ _
  refine ev_aload_n de_Di_copyFrom_0 rfl rfl ?_
  refine ev_aload_n de_Di_copyFrom_1 rfl rfl ?_
  refine ev_getfield de_Di_copyFrom_2 p8 fl_Di_24 rfl ?_
  refine ev_putfield de_Di_copyFrom_5 q8 (fp_Di_24 _) (Nat.le_of_ble_eq_true rfl) trivial ?_
  refine ev_gen (P := fun w1 => (rgc o told an hr dy sp ss x ho si ga sl fs vo li vw ra wo (dlp) dh da ds dn w1) ∧ (rgc p toldp anp hrp dyp spp ssp xp hop sip gap slp fsp vop lip vwp rap wop dlp dhp dap dsp dnp w1) ∧ fr_at o 13 w w1) ⟨rgc_dl hC, rgc_out hp (by omega), fr_set hf (by omega) (by omega)⟩ (fun w1 hCf => ?_)
  obtain ⟨hC, hp, hf⟩ := hCf
  obtain ⟨q0, q1, q2, q3, q4, q5, q6, q7, q8, q9, q10, q11, q12⟩ := id hC
  obtain ⟨p0, p1, p2, p3, p4, p5, p6, p7, p8, p9, p10, p11, p12⟩ := id hp
  refine ev_aload_n de_Di_copyFrom_8 rfl rfl ?_
  refine ev_getfield de_Di_copyFrom_9 p8 fl_Di_9 rfl ?_
  refine ev_iconst de_Di_copyFrom_12 ?_
  refine ev_aload_n de_Di_copyFrom_13 rfl rfl ?_
  refine ev_getfield de_Di_copyFrom_14 q8 fl_Di_9 rfl ?_
  refine ev_iconst de_Di_copyFrom_17 ?_
  refine ev_bipush de_Di_copyFrom_18 rfl ?_
  refine ev_copyi de_Di_copyFrom_20 ck_Di_28 (by decide) p9 q9 (by decide) (by decide) (Or.inl rfl) (Nat.le_of_ble_eq_true rfl) (by decide) ?_
  refine ev_gen (P := fun w1 => (rgc o told an hr dy sp ss x ho si ga sl fs vo li vw ra wo (dlp) (ab_cp dhp dh 0 0 10) da ds dn w1) ∧ (rgc p toldp anp hrp dyp spp ssp xp hop sip gap slp fsp vop lip vwp rap wop dlp dhp dap dsp dnp w1) ∧ fr_at o 13 w w1) ⟨rgc_dh hC, rgc_out hp (by omega), fr_set hf (by omega) (by omega)⟩ (fun w1 hCf => ?_)
  obtain ⟨hC, hp, hf⟩ := hCf
  obtain ⟨q0, q1, q2, q3, q4, q5, q6, q7, q8, q9, q10, q11, q12⟩ := id hC
  obtain ⟨p0, p1, p2, p3, p4, p5, p6, p7, p8, p9, p10, p11, p12⟩ := id hp
  refine ev_aload_n de_Di_copyFrom_23 rfl rfl ?_
  refine ev_getfield de_Di_copyFrom_24 p8 fl_Di_15 rfl ?_
  refine ev_iconst de_Di_copyFrom_27 ?_
  refine ev_aload_n de_Di_copyFrom_28 rfl rfl ?_
  refine ev_getfield de_Di_copyFrom_29 q8 fl_Di_15 rfl ?_
  refine ev_iconst de_Di_copyFrom_32 ?_
  refine ev_bipush de_Di_copyFrom_33 rfl ?_
  refine ev_copyi de_Di_copyFrom_35 ck_Di_28 (by decide) p10 q10 (by decide) (by decide) (Or.inl rfl) (Nat.le_of_ble_eq_true rfl) (by decide) ?_
  refine ev_gen (P := fun w1 => (rgc o told an hr dy sp ss x ho si ga sl fs vo li vw ra wo (dlp) (ab_cp dhp dh 0 0 10) (ab_cp dap da 0 0 10) ds dn w1) ∧ (rgc p toldp anp hrp dyp spp ssp xp hop sip gap slp fsp vop lip vwp rap wop dlp dhp dap dsp dnp w1) ∧ fr_at o 13 w w1) ⟨rgc_da hC, rgc_out hp (by omega), fr_set hf (by omega) (by omega)⟩ (fun w1 hCf => ?_)
  obtain ⟨hC, hp, hf⟩ := hCf
  obtain ⟨q0, q1, q2, q3, q4, q5, q6, q7, q8, q9, q10, q11, q12⟩ := id hC
  obtain ⟨p0, p1, p2, p3, p4, p5, p6, p7, p8, p9, p10, p11, p12⟩ := id hp
  refine ev_aload_n de_Di_copyFrom_38 rfl rfl ?_
  refine ev_getfield de_Di_copyFrom_39 p8 fl_Di_18 rfl ?_
  refine ev_iconst de_Di_copyFrom_42 ?_
  refine ev_aload_n de_Di_copyFrom_43 rfl rfl ?_
  refine ev_getfield de_Di_copyFrom_44 q8 fl_Di_18 rfl ?_
  refine ev_iconst de_Di_copyFrom_47 ?_
  refine ev_bipush de_Di_copyFrom_48 rfl ?_
  refine ev_copyi de_Di_copyFrom_50 ck_Di_28 (by decide) p11 q11 (by decide) (by decide) (Or.inl rfl) (Nat.le_of_ble_eq_true rfl) (by decide) ?_
  refine ev_gen (P := fun w1 => (rgc o told an hr dy sp ss x ho si ga sl fs vo li vw ra wo (dlp) (ab_cp dhp dh 0 0 10) (ab_cp dap da 0 0 10) (ab_cp dsp ds 0 0 10) dn w1) ∧ (rgc p toldp anp hrp dyp spp ssp xp hop sip gap slp fsp vop lip vwp rap wop dlp dhp dap dsp dnp w1) ∧ fr_at o 13 w w1) ⟨rgc_ds hC, rgc_out hp (by omega), fr_set hf (by omega) (by omega)⟩ (fun w1 hCf => ?_)
  obtain ⟨hC, hp, hf⟩ := hCf
  obtain ⟨q0, q1, q2, q3, q4, q5, q6, q7, q8, q9, q10, q11, q12⟩ := id hC
  obtain ⟨p0, p1, p2, p3, p4, p5, p6, p7, p8, p9, p10, p11, p12⟩ := id hp
  refine ev_aload_n de_Di_copyFrom_53 rfl rfl ?_
  refine ev_getfield de_Di_copyFrom_54 p8 fl_Di_21 rfl ?_
  refine ev_iconst de_Di_copyFrom_57 ?_
  refine ev_aload_n de_Di_copyFrom_58 rfl rfl ?_
  refine ev_getfield de_Di_copyFrom_59 q8 fl_Di_21 rfl ?_
  refine ev_iconst de_Di_copyFrom_62 ?_
  refine ev_bipush de_Di_copyFrom_63 rfl ?_
  refine ev_copyi de_Di_copyFrom_65 ck_Di_28 (by decide) p12 q12 (by decide) (by decide) (Or.inl rfl) (Nat.le_of_ble_eq_true rfl) (by decide) ?_
  refine ev_gen (P := fun w1 => (rgc o told an hr dy sp ss x ho si ga sl fs vo li vw ra wo (dlp) (ab_cp dhp dh 0 0 10) (ab_cp dap da 0 0 10) (ab_cp dsp ds 0 0 10) (ab_cp dnp dn 0 0 10) w1) ∧ (rgc p toldp anp hrp dyp spp ssp xp hop sip gap slp fsp vop lip vwp rap wop dlp dhp dap dsp dnp w1) ∧ fr_at o 13 w w1) ⟨rgc_dn hC, rgc_out hp (by omega), fr_set hf (by omega) (by omega)⟩ (fun w1 hCf => ?_)
  obtain ⟨hC, hp, hf⟩ := hCf
  obtain ⟨q0, q1, q2, q3, q4, q5, q6, q7, q8, q9, q10, q11, q12⟩ := id hC
  obtain ⟨p0, p1, p2, p3, p4, p5, p6, p7, p8, p9, p10, p11, p12⟩ := id hp
  exact ev_return de_Di_copyFrom_68 rfl ⟨rfl, hC, hp, hf⟩
theorem fr_tr {o n : Nat} {w w1 w2 : ab_W} (h : fr_at o n w w1) (h2 : fr_at o n w1 w2) : fr_at o n w w2 := ⟨h2.1.trans h.1, fun i hi => (h2.2 i hi).trans (h.2 i hi)⟩
theorem de_Ri_copyFrom_0 : decode prog_7_method_3_code 0 = .ok (.aload_n 0, 1) := by decide +kernel
theorem de_Ri_copyFrom_1 : decode prog_7_method_3_code 1 = .ok (.aload_n 1, 1) := by decide +kernel
theorem de_Ri_copyFrom_2 : decode prog_7_method_3_code 2 = .ok (.getfield 41, 3) := by decide +kernel
theorem de_Ri_copyFrom_5 : decode prog_7_method_3_code 5 = .ok (.putfield 41, 3) := by decide +kernel
theorem de_Ri_copyFrom_8 : decode prog_7_method_3_code 8 = .ok (.aload_n 0, 1) := by decide +kernel
theorem de_Ri_copyFrom_9 : decode prog_7_method_3_code 9 = .ok (.aload_n 1, 1) := by decide +kernel
theorem de_Ri_copyFrom_10 : decode prog_7_method_3_code 10 = .ok (.getfield 45, 3) := by decide +kernel
theorem de_Ri_copyFrom_13 : decode prog_7_method_3_code 13 = .ok (.putfield 45, 3) := by decide +kernel
theorem de_Ri_copyFrom_16 : decode prog_7_method_3_code 16 = .ok (.aload_n 0, 1) := by decide +kernel
theorem de_Ri_copyFrom_17 : decode prog_7_method_3_code 17 = .ok (.aload_n 1, 1) := by decide +kernel
theorem de_Ri_copyFrom_18 : decode prog_7_method_3_code 18 = .ok (.getfield 49, 3) := by decide +kernel
theorem de_Ri_copyFrom_21 : decode prog_7_method_3_code 21 = .ok (.putfield 49, 3) := by decide +kernel
theorem de_Ri_copyFrom_24 : decode prog_7_method_3_code 24 = .ok (.aload_n 0, 1) := by decide +kernel
theorem de_Ri_copyFrom_25 : decode prog_7_method_3_code 25 = .ok (.aload_n 1, 1) := by decide +kernel
theorem de_Ri_copyFrom_26 : decode prog_7_method_3_code 26 = .ok (.getfield 52, 3) := by decide +kernel
theorem de_Ri_copyFrom_29 : decode prog_7_method_3_code 29 = .ok (.putfield 52, 3) := by decide +kernel
theorem de_Ri_copyFrom_32 : decode prog_7_method_3_code 32 = .ok (.aload_n 0, 1) := by decide +kernel
theorem de_Ri_copyFrom_33 : decode prog_7_method_3_code 33 = .ok (.aload_n 1, 1) := by decide +kernel
theorem de_Ri_copyFrom_34 : decode prog_7_method_3_code 34 = .ok (.getfield 55, 3) := by decide +kernel
theorem de_Ri_copyFrom_37 : decode prog_7_method_3_code 37 = .ok (.putfield 55, 3) := by decide +kernel
theorem de_Ri_copyFrom_40 : decode prog_7_method_3_code 40 = .ok (.aload_n 0, 1) := by decide +kernel
theorem de_Ri_copyFrom_41 : decode prog_7_method_3_code 41 = .ok (.aload_n 1, 1) := by decide +kernel
theorem de_Ri_copyFrom_42 : decode prog_7_method_3_code 42 = .ok (.getfield 58, 3) := by decide +kernel
theorem de_Ri_copyFrom_45 : decode prog_7_method_3_code 45 = .ok (.putfield 58, 3) := by decide +kernel
theorem de_Ri_copyFrom_48 : decode prog_7_method_3_code 48 = .ok (.aload_n 0, 1) := by decide +kernel
theorem de_Ri_copyFrom_49 : decode prog_7_method_3_code 49 = .ok (.aload_n 1, 1) := by decide +kernel
theorem de_Ri_copyFrom_50 : decode prog_7_method_3_code 50 = .ok (.getfield 61, 3) := by decide +kernel
theorem de_Ri_copyFrom_53 : decode prog_7_method_3_code 53 = .ok (.putfield 61, 3) := by decide +kernel
theorem de_Ri_copyFrom_56 : decode prog_7_method_3_code 56 = .ok (.aload_n 0, 1) := by decide +kernel
theorem de_Ri_copyFrom_57 : decode prog_7_method_3_code 57 = .ok (.aload_n 1, 1) := by decide +kernel
theorem de_Ri_copyFrom_58 : decode prog_7_method_3_code 58 = .ok (.getfield 64, 3) := by decide +kernel
theorem de_Ri_copyFrom_61 : decode prog_7_method_3_code 61 = .ok (.putfield 64, 3) := by decide +kernel
theorem de_Ri_copyFrom_64 : decode prog_7_method_3_code 64 = .ok (.aload_n 0, 1) := by decide +kernel
theorem de_Ri_copyFrom_65 : decode prog_7_method_3_code 65 = .ok (.aload_n 1, 1) := by decide +kernel
theorem de_Ri_copyFrom_66 : decode prog_7_method_3_code 66 = .ok (.getfield 67, 3) := by decide +kernel
theorem de_Ri_copyFrom_69 : decode prog_7_method_3_code 69 = .ok (.putfield 67, 3) := by decide +kernel
theorem de_Ri_copyFrom_72 : decode prog_7_method_3_code 72 = .ok (.aload_n 0, 1) := by decide +kernel
theorem de_Ri_copyFrom_73 : decode prog_7_method_3_code 73 = .ok (.aload_n 1, 1) := by decide +kernel
theorem de_Ri_copyFrom_74 : decode prog_7_method_3_code 74 = .ok (.getfield 70, 3) := by decide +kernel
theorem de_Ri_copyFrom_77 : decode prog_7_method_3_code 77 = .ok (.putfield 70, 3) := by decide +kernel
theorem de_Ri_copyFrom_80 : decode prog_7_method_3_code 80 = .ok (.aload_n 1, 1) := by decide +kernel
theorem de_Ri_copyFrom_81 : decode prog_7_method_3_code 81 = .ok (.getfield 9, 3) := by decide +kernel
theorem de_Ri_copyFrom_84 : decode prog_7_method_3_code 84 = .ok (.iconst 0, 1) := by decide +kernel
theorem de_Ri_copyFrom_85 : decode prog_7_method_3_code 85 = .ok (.aload_n 0, 1) := by decide +kernel
theorem de_Ri_copyFrom_86 : decode prog_7_method_3_code 86 = .ok (.getfield 9, 3) := by decide +kernel
theorem de_Ri_copyFrom_89 : decode prog_7_method_3_code 89 = .ok (.iconst 0, 1) := by decide +kernel
theorem de_Ri_copyFrom_90 : decode prog_7_method_3_code 90 = .ok (.bipush 7, 2) := by decide +kernel
theorem de_Ri_copyFrom_92 : decode prog_7_method_3_code 92 = .ok (.invokestatic 85, 3) := by decide +kernel
theorem de_Ri_copyFrom_95 : decode prog_7_method_3_code 95 = .ok (.aload_n 1, 1) := by decide +kernel
theorem de_Ri_copyFrom_96 : decode prog_7_method_3_code 96 = .ok (.getfield 15, 3) := by decide +kernel
theorem de_Ri_copyFrom_99 : decode prog_7_method_3_code 99 = .ok (.iconst 0, 1) := by decide +kernel
theorem de_Ri_copyFrom_100 : decode prog_7_method_3_code 100 = .ok (.aload_n 0, 1) := by decide +kernel
theorem de_Ri_copyFrom_101 : decode prog_7_method_3_code 101 = .ok (.getfield 15, 3) := by decide +kernel
theorem de_Ri_copyFrom_104 : decode prog_7_method_3_code 104 = .ok (.iconst 0, 1) := by decide +kernel
theorem de_Ri_copyFrom_105 : decode prog_7_method_3_code 105 = .ok (.bipush 7, 2) := by decide +kernel
theorem de_Ri_copyFrom_107 : decode prog_7_method_3_code 107 = .ok (.invokestatic 85, 3) := by decide +kernel
theorem de_Ri_copyFrom_110 : decode prog_7_method_3_code 110 = .ok (.aload_n 1, 1) := by decide +kernel
theorem de_Ri_copyFrom_111 : decode prog_7_method_3_code 111 = .ok (.getfield 18, 3) := by decide +kernel
theorem de_Ri_copyFrom_114 : decode prog_7_method_3_code 114 = .ok (.iconst 0, 1) := by decide +kernel
theorem de_Ri_copyFrom_115 : decode prog_7_method_3_code 115 = .ok (.aload_n 0, 1) := by decide +kernel
theorem de_Ri_copyFrom_116 : decode prog_7_method_3_code 116 = .ok (.getfield 18, 3) := by decide +kernel
theorem de_Ri_copyFrom_119 : decode prog_7_method_3_code 119 = .ok (.iconst 0, 1) := by decide +kernel
theorem de_Ri_copyFrom_120 : decode prog_7_method_3_code 120 = .ok (.bipush 7, 2) := by decide +kernel
theorem de_Ri_copyFrom_122 : decode prog_7_method_3_code 122 = .ok (.invokestatic 85, 3) := by decide +kernel
theorem de_Ri_copyFrom_125 : decode prog_7_method_3_code 125 = .ok (.aload_n 1, 1) := by decide +kernel
theorem de_Ri_copyFrom_126 : decode prog_7_method_3_code 126 = .ok (.getfield 21, 3) := by decide +kernel
theorem de_Ri_copyFrom_129 : decode prog_7_method_3_code 129 = .ok (.iconst 0, 1) := by decide +kernel
theorem de_Ri_copyFrom_130 : decode prog_7_method_3_code 130 = .ok (.aload_n 0, 1) := by decide +kernel
theorem de_Ri_copyFrom_131 : decode prog_7_method_3_code 131 = .ok (.getfield 21, 3) := by decide +kernel
theorem de_Ri_copyFrom_134 : decode prog_7_method_3_code 134 = .ok (.iconst 0, 1) := by decide +kernel
theorem de_Ri_copyFrom_135 : decode prog_7_method_3_code 135 = .ok (.bipush 35, 2) := by decide +kernel
theorem de_Ri_copyFrom_137 : decode prog_7_method_3_code 137 = .ok (.invokestatic 85, 3) := by decide +kernel
theorem de_Ri_copyFrom_140 : decode prog_7_method_3_code 140 = .ok (.aload_n 1, 1) := by decide +kernel
theorem de_Ri_copyFrom_141 : decode prog_7_method_3_code 141 = .ok (.getfield 24, 3) := by decide +kernel
theorem de_Ri_copyFrom_144 : decode prog_7_method_3_code 144 = .ok (.iconst 0, 1) := by decide +kernel
theorem de_Ri_copyFrom_145 : decode prog_7_method_3_code 145 = .ok (.aload_n 0, 1) := by decide +kernel
theorem de_Ri_copyFrom_146 : decode prog_7_method_3_code 146 = .ok (.getfield 24, 3) := by decide +kernel
theorem de_Ri_copyFrom_149 : decode prog_7_method_3_code 149 = .ok (.iconst 0, 1) := by decide +kernel
theorem de_Ri_copyFrom_150 : decode prog_7_method_3_code 150 = .ok (.bipush 24, 2) := by decide +kernel
theorem de_Ri_copyFrom_152 : decode prog_7_method_3_code 152 = .ok (.invokestatic 85, 3) := by decide +kernel
theorem de_Ri_copyFrom_155 : decode prog_7_method_3_code 155 = .ok (.aload_n 1, 1) := by decide +kernel
theorem de_Ri_copyFrom_156 : decode prog_7_method_3_code 156 = .ok (.getfield 28, 3) := by decide +kernel
theorem de_Ri_copyFrom_159 : decode prog_7_method_3_code 159 = .ok (.iconst 0, 1) := by decide +kernel
theorem de_Ri_copyFrom_160 : decode prog_7_method_3_code 160 = .ok (.aload_n 0, 1) := by decide +kernel
theorem de_Ri_copyFrom_161 : decode prog_7_method_3_code 161 = .ok (.getfield 28, 3) := by decide +kernel
theorem de_Ri_copyFrom_164 : decode prog_7_method_3_code 164 = .ok (.iconst 0, 1) := by decide +kernel
theorem de_Ri_copyFrom_165 : decode prog_7_method_3_code 165 = .ok (.bipush 24, 2) := by decide +kernel
theorem de_Ri_copyFrom_167 : decode prog_7_method_3_code 167 = .ok (.invokestatic 85, 3) := by decide +kernel
theorem de_Ri_copyFrom_170 : decode prog_7_method_3_code 170 = .ok (.aload_n 1, 1) := by decide +kernel
theorem de_Ri_copyFrom_171 : decode prog_7_method_3_code 171 = .ok (.getfield 31, 3) := by decide +kernel
theorem de_Ri_copyFrom_174 : decode prog_7_method_3_code 174 = .ok (.iconst 0, 1) := by decide +kernel
theorem de_Ri_copyFrom_175 : decode prog_7_method_3_code 175 = .ok (.aload_n 0, 1) := by decide +kernel
theorem de_Ri_copyFrom_176 : decode prog_7_method_3_code 176 = .ok (.getfield 31, 3) := by decide +kernel
theorem de_Ri_copyFrom_179 : decode prog_7_method_3_code 179 = .ok (.iconst 0, 1) := by decide +kernel
theorem de_Ri_copyFrom_180 : decode prog_7_method_3_code 180 = .ok (.bipush 12, 2) := by decide +kernel
theorem de_Ri_copyFrom_182 : decode prog_7_method_3_code 182 = .ok (.invokestatic 85, 3) := by decide +kernel
theorem de_Ri_copyFrom_185 : decode prog_7_method_3_code 185 = .ok (.aload_n 0, 1) := by decide +kernel
theorem de_Ri_copyFrom_186 : decode prog_7_method_3_code 186 = .ok (.getfield 37, 3) := by decide +kernel
theorem de_Ri_copyFrom_189 : decode prog_7_method_3_code 189 = .ok (.aload_n 1, 1) := by decide +kernel
theorem de_Ri_copyFrom_190 : decode prog_7_method_3_code 190 = .ok (.getfield 37, 3) := by decide +kernel
theorem de_Ri_copyFrom_193 : decode prog_7_method_3_code 193 = .ok (.invokevirtual 91, 3) := by decide +kernel
theorem de_Ri_copyFrom_196 : decode prog_7_method_3_code 196 = .ok (.return_, 1) := by decide +kernel
set_option maxHeartbeats 4000000 in
set_option maxRecDepth 10000 in
theorem co_Ri_copyFrom {o p : Nat} {told : Int} {an : Int} {hr : Int} {dy : Int} {sp : Int} {ss : Int} {x : Int} {ho : Int} {si : Int} {ga : Int} {sl : Int → Int} {fs : Int → Int} {vo : Int → Int} {li : Int → Int} {vw : Int → Int64} {ra : Int → Int} {wo : Int → Int} {dl : Int} {dh : Int → Int} {da : Int → Int} {ds : Int → Int} {dn : Int → Int} {toldp : Int} {anp : Int} {hrp : Int} {dyp : Int} {spp : Int} {ssp : Int} {xp : Int} {hop : Int} {sip : Int} {gap : Int} {slp : Int → Int} {fsp : Int → Int} {vop : Int → Int} {lip : Int → Int} {vwp : Int → Int64} {rap : Int → Int} {wop : Int → Int} {dlp : Int} {dhp : Int → Int} {dap : Int → Int} {dsp : Int → Int} {dnp : Int → Int} {w : ab_W} (hC : (rgc o told an hr dy sp ss x ho si ga sl fs vo li vw ra wo dl dh da ds dn w)) (hp : (rgc p toldp anp hrp dyp spp ssp xp hop sip gap slp fsp vop lip vwp rap wop dlp dhp dap dsp dnp w)) (hd : o + 13 ≤ p ∨ p + 13 ≤ o) (hztold : toldp = 0 ∨ toldp = 1) (hzsp : spp = 0 ∨ spp = 1) : ab_Mt g_G g_rs mt_Ri_copyFrom 2 0 0 [ab_R o, ab_R p] w (fun r w2 => r = none ∧ (rgc o (toldp) (anp) (hrp) (dyp) (spp) (ssp) (xp) (hop) (sip) (gap) (ab_cp slp sl 0 0 7) (ab_cp fsp fs 0 0 7) (ab_cp vop vo 0 0 7) (ab_cp lip li 0 0 35) (ab_cp vwp vw 0 0 24) (ab_cp rap ra 0 0 24) (ab_cp wop wo 0 0 12) (dlp) (ab_cp dhp dh 0 0 10) (ab_cp dap da 0 0 10) (ab_cp dsp ds 0 0 10) (ab_cp dnp dn 0 0 10) w2) ∧ (rgc p toldp anp hrp dyp spp ssp xp hop sip gap slp fsp vop lip vwp rap wop dlp dhp dap dsp dnp w2) ∧ fr_at o 13 w w2) := by
  obtain ⟨q0, q1, q2, q3, q4, q5, q6, q7, q8, q9, q10, q11, q12⟩ := id hC
  obtain ⟨p0, p1, p2, p3, p4, p5, p6, p7, p8, p9, p10, p11, p12⟩ := id hp
  have hf : fr_at o 13 w w := fr_0
  refine ab_Mt.of rfl (Nat.le_of_ble_eq_true rfl) ?_
  show ab_Ev g_G g_rs mt_Ri_copyFrom _ _ _ 0 [some (ab_R o), some (ab_R p)] [] _ _
  refine ev_aload_n de_Ri_copyFrom_0 rfl rfl ?_
  refine ev_aload_n de_Ri_copyFrom_1 rfl rfl ?_
  refine ev_getfield de_Ri_copyFrom_2 p0 fl_Ri_41 rfl ?_
  refine ev_putfield de_Ri_copyFrom_5 q0 (fp_Ri_41 _) (Nat.le_of_ble_eq_true rfl) hztold ?_
  refine ev_gen (P := fun w1 => (rgc o (toldp) an hr dy sp ss x ho si ga sl fs vo li vw ra wo dl dh da ds dn w1) ∧ (rgc p toldp anp hrp dyp spp ssp xp hop sip gap slp fsp vop lip vwp rap wop dlp dhp dap dsp dnp w1) ∧ fr_at o 13 w w1) ⟨rgc_o hC, rgc_out hp (by omega), fr_set hf (by omega) (by omega)⟩ (fun w1 hCf => ?_)
  obtain ⟨hC, hp, hf⟩ := hCf
  obtain ⟨q0, q1, q2, q3, q4, q5, q6, q7, q8, q9, q10, q11, q12⟩ := id hC
  obtain ⟨p0, p1, p2, p3, p4, p5, p6, p7, p8, p9, p10, p11, p12⟩ := id hp
  refine ev_aload_n de_Ri_copyFrom_8 rfl rfl ?_
  refine ev_aload_n de_Ri_copyFrom_9 rfl rfl ?_
  refine ev_getfield de_Ri_copyFrom_10 p0 fl_Ri_45 rfl ?_
  refine ev_putfield de_Ri_copyFrom_13 q0 (fp_Ri_45 _) (Nat.le_of_ble_eq_true rfl) trivial ?_
  refine ev_gen (P := fun w1 => (rgc o (toldp) (anp) hr dy sp ss x ho si ga sl fs vo li vw ra wo dl dh da ds dn w1) ∧ (rgc p toldp anp hrp dyp spp ssp xp hop sip gap slp fsp vop lip vwp rap wop dlp dhp dap dsp dnp w1) ∧ fr_at o 13 w w1) ⟨rgc_o hC, rgc_out hp (by omega), fr_set hf (by omega) (by omega)⟩ (fun w1 hCf => ?_)
  obtain ⟨hC, hp, hf⟩ := hCf
  obtain ⟨q0, q1, q2, q3, q4, q5, q6, q7, q8, q9, q10, q11, q12⟩ := id hC
  obtain ⟨p0, p1, p2, p3, p4, p5, p6, p7, p8, p9, p10, p11, p12⟩ := id hp
  refine ev_aload_n de_Ri_copyFrom_16 rfl rfl ?_
  refine ev_aload_n de_Ri_copyFrom_17 rfl rfl ?_
  refine ev_getfield de_Ri_copyFrom_18 p0 fl_Ri_49 rfl ?_
  refine ev_putfield de_Ri_copyFrom_21 q0 (fp_Ri_49 _) (Nat.le_of_ble_eq_true rfl) trivial ?_
  refine ev_gen (P := fun w1 => (rgc o (toldp) (anp) (hrp) dy sp ss x ho si ga sl fs vo li vw ra wo dl dh da ds dn w1) ∧ (rgc p toldp anp hrp dyp spp ssp xp hop sip gap slp fsp vop lip vwp rap wop dlp dhp dap dsp dnp w1) ∧ fr_at o 13 w w1) ⟨rgc_o hC, rgc_out hp (by omega), fr_set hf (by omega) (by omega)⟩ (fun w1 hCf => ?_)
  obtain ⟨hC, hp, hf⟩ := hCf
  obtain ⟨q0, q1, q2, q3, q4, q5, q6, q7, q8, q9, q10, q11, q12⟩ := id hC
  obtain ⟨p0, p1, p2, p3, p4, p5, p6, p7, p8, p9, p10, p11, p12⟩ := id hp
  refine ev_aload_n de_Ri_copyFrom_24 rfl rfl ?_
  refine ev_aload_n de_Ri_copyFrom_25 rfl rfl ?_
  refine ev_getfield de_Ri_copyFrom_26 p0 fl_Ri_52 rfl ?_
  refine ev_putfield de_Ri_copyFrom_29 q0 (fp_Ri_52 _) (Nat.le_of_ble_eq_true rfl) trivial ?_
  refine ev_gen (P := fun w1 => (rgc o (toldp) (anp) (hrp) (dyp) sp ss x ho si ga sl fs vo li vw ra wo dl dh da ds dn w1) ∧ (rgc p toldp anp hrp dyp spp ssp xp hop sip gap slp fsp vop lip vwp rap wop dlp dhp dap dsp dnp w1) ∧ fr_at o 13 w w1) ⟨rgc_o hC, rgc_out hp (by omega), fr_set hf (by omega) (by omega)⟩ (fun w1 hCf => ?_)
  obtain ⟨hC, hp, hf⟩ := hCf
  obtain ⟨q0, q1, q2, q3, q4, q5, q6, q7, q8, q9, q10, q11, q12⟩ := id hC
  obtain ⟨p0, p1, p2, p3, p4, p5, p6, p7, p8, p9, p10, p11, p12⟩ := id hp
  refine ev_aload_n de_Ri_copyFrom_32 rfl rfl ?_
  refine ev_aload_n de_Ri_copyFrom_33 rfl rfl ?_
  refine ev_getfield de_Ri_copyFrom_34 p0 fl_Ri_55 rfl ?_
  refine ev_putfield de_Ri_copyFrom_37 q0 (fp_Ri_55 _) (Nat.le_of_ble_eq_true rfl) hzsp ?_
  refine ev_gen (P := fun w1 => (rgc o (toldp) (anp) (hrp) (dyp) (spp) ss x ho si ga sl fs vo li vw ra wo dl dh da ds dn w1) ∧ (rgc p toldp anp hrp dyp spp ssp xp hop sip gap slp fsp vop lip vwp rap wop dlp dhp dap dsp dnp w1) ∧ fr_at o 13 w w1) ⟨rgc_o hC, rgc_out hp (by omega), fr_set hf (by omega) (by omega)⟩ (fun w1 hCf => ?_)
  obtain ⟨hC, hp, hf⟩ := hCf
  obtain ⟨q0, q1, q2, q3, q4, q5, q6, q7, q8, q9, q10, q11, q12⟩ := id hC
  obtain ⟨p0, p1, p2, p3, p4, p5, p6, p7, p8, p9, p10, p11, p12⟩ := id hp
  refine ev_aload_n de_Ri_copyFrom_40 rfl rfl ?_
  refine ev_aload_n de_Ri_copyFrom_41 rfl rfl ?_
  refine ev_getfield de_Ri_copyFrom_42 p0 fl_Ri_58 rfl ?_
  refine ev_putfield de_Ri_copyFrom_45 q0 (fp_Ri_58 _) (Nat.le_of_ble_eq_true rfl) trivial ?_
  refine ev_gen (P := fun w1 => (rgc o (toldp) (anp) (hrp) (dyp) (spp) (ssp) x ho si ga sl fs vo li vw ra wo dl dh da ds dn w1) ∧ (rgc p toldp anp hrp dyp spp ssp xp hop sip gap slp fsp vop lip vwp rap wop dlp dhp dap dsp dnp w1) ∧ fr_at o 13 w w1) ⟨rgc_o hC, rgc_out hp (by omega), fr_set hf (by omega) (by omega)⟩ (fun w1 hCf => ?_)
  obtain ⟨hC, hp, hf⟩ := hCf
  obtain ⟨q0, q1, q2, q3, q4, q5, q6, q7, q8, q9, q10, q11, q12⟩ := id hC
  obtain ⟨p0, p1, p2, p3, p4, p5, p6, p7, p8, p9, p10, p11, p12⟩ := id hp
  refine ev_aload_n de_Ri_copyFrom_48 rfl rfl ?_
  refine ev_aload_n de_Ri_copyFrom_49 rfl rfl ?_
  refine ev_getfield de_Ri_copyFrom_50 p0 fl_Ri_61 rfl ?_
  refine ev_putfield de_Ri_copyFrom_53 q0 (fp_Ri_61 _) (Nat.le_of_ble_eq_true rfl) trivial ?_
  refine ev_gen (P := fun w1 => (rgc o (toldp) (anp) (hrp) (dyp) (spp) (ssp) (xp) ho si ga sl fs vo li vw ra wo dl dh da ds dn w1) ∧ (rgc p toldp anp hrp dyp spp ssp xp hop sip gap slp fsp vop lip vwp rap wop dlp dhp dap dsp dnp w1) ∧ fr_at o 13 w w1) ⟨rgc_o hC, rgc_out hp (by omega), fr_set hf (by omega) (by omega)⟩ (fun w1 hCf => ?_)
  obtain ⟨hC, hp, hf⟩ := hCf
  obtain ⟨q0, q1, q2, q3, q4, q5, q6, q7, q8, q9, q10, q11, q12⟩ := id hC
  obtain ⟨p0, p1, p2, p3, p4, p5, p6, p7, p8, p9, p10, p11, p12⟩ := id hp
  refine ev_aload_n de_Ri_copyFrom_56 rfl rfl ?_
  refine ev_aload_n de_Ri_copyFrom_57 rfl rfl ?_
  refine ev_getfield de_Ri_copyFrom_58 p0 fl_Ri_64 rfl ?_
  refine ev_putfield de_Ri_copyFrom_61 q0 (fp_Ri_64 _) (Nat.le_of_ble_eq_true rfl) trivial ?_
  refine ev_gen (P := fun w1 => (rgc o (toldp) (anp) (hrp) (dyp) (spp) (ssp) (xp) (hop) si ga sl fs vo li vw ra wo dl dh da ds dn w1) ∧ (rgc p toldp anp hrp dyp spp ssp xp hop sip gap slp fsp vop lip vwp rap wop dlp dhp dap dsp dnp w1) ∧ fr_at o 13 w w1) ⟨rgc_o hC, rgc_out hp (by omega), fr_set hf (by omega) (by omega)⟩ (fun w1 hCf => ?_)
  obtain ⟨hC, hp, hf⟩ := hCf
  obtain ⟨q0, q1, q2, q3, q4, q5, q6, q7, q8, q9, q10, q11, q12⟩ := id hC
  obtain ⟨p0, p1, p2, p3, p4, p5, p6, p7, p8, p9, p10, p11, p12⟩ := id hp
  refine ev_aload_n de_Ri_copyFrom_64 rfl rfl ?_
  refine ev_aload_n de_Ri_copyFrom_65 rfl rfl ?_
  refine ev_getfield de_Ri_copyFrom_66 p0 fl_Ri_67 rfl ?_
  refine ev_putfield de_Ri_copyFrom_69 q0 (fp_Ri_67 _) (Nat.le_of_ble_eq_true rfl) trivial ?_
  refine ev_gen (P := fun w1 => (rgc o (toldp) (anp) (hrp) (dyp) (spp) (ssp) (xp) (hop) (sip) ga sl fs vo li vw ra wo dl dh da ds dn w1) ∧ (rgc p toldp anp hrp dyp spp ssp xp hop sip gap slp fsp vop lip vwp rap wop dlp dhp dap dsp dnp w1) ∧ fr_at o 13 w w1) ⟨rgc_o hC, rgc_out hp (by omega), fr_set hf (by omega) (by omega)⟩ (fun w1 hCf => ?_)
  obtain ⟨hC, hp, hf⟩ := hCf
  obtain ⟨q0, q1, q2, q3, q4, q5, q6, q7, q8, q9, q10, q11, q12⟩ := id hC
  obtain ⟨p0, p1, p2, p3, p4, p5, p6, p7, p8, p9, p10, p11, p12⟩ := id hp
  refine ev_aload_n de_Ri_copyFrom_72 rfl rfl ?_
  refine ev_aload_n de_Ri_copyFrom_73 rfl rfl ?_
  refine ev_getfield de_Ri_copyFrom_74 p0 fl_Ri_70 rfl ?_
  refine ev_putfield de_Ri_copyFrom_77 q0 (fp_Ri_70 _) (Nat.le_of_ble_eq_true rfl) trivial ?_
  refine ev_gen (P := fun w1 => (rgc o (toldp) (anp) (hrp) (dyp) (spp) (ssp) (xp) (hop) (sip) (gap) sl fs vo li vw ra wo dl dh da ds dn w1) ∧ (rgc p toldp anp hrp dyp spp ssp xp hop sip gap slp fsp vop lip vwp rap wop dlp dhp dap dsp dnp w1) ∧ fr_at o 13 w w1) ⟨rgc_o hC, rgc_out hp (by omega), fr_set hf (by omega) (by omega)⟩ (fun w1 hCf => ?_)
  obtain ⟨hC, hp, hf⟩ := hCf
  obtain ⟨q0, q1, q2, q3, q4, q5, q6, q7, q8, q9, q10, q11, q12⟩ := id hC
  obtain ⟨p0, p1, p2, p3, p4, p5, p6, p7, p8, p9, p10, p11, p12⟩ := id hp
  refine ev_aload_n de_Ri_copyFrom_80 rfl rfl ?_
  refine ev_getfield de_Ri_copyFrom_81 p0 fl_Ri_9 rfl ?_
  refine ev_iconst de_Ri_copyFrom_84 ?_
  refine ev_aload_n de_Ri_copyFrom_85 rfl rfl ?_
  refine ev_getfield de_Ri_copyFrom_86 q0 fl_Ri_9 rfl ?_
  refine ev_iconst de_Ri_copyFrom_89 ?_
  refine ev_bipush de_Ri_copyFrom_90 rfl ?_
  refine ev_copyi de_Ri_copyFrom_92 ck_Ri_85 (by decide) p1 q1 (by decide) (by decide) (Or.inl rfl) (Nat.le_of_ble_eq_true rfl) (by decide) ?_
  refine ev_gen (P := fun w1 => (rgc o (toldp) (anp) (hrp) (dyp) (spp) (ssp) (xp) (hop) (sip) (gap) (ab_cp slp sl 0 0 7) fs vo li vw ra wo dl dh da ds dn w1) ∧ (rgc p toldp anp hrp dyp spp ssp xp hop sip gap slp fsp vop lip vwp rap wop dlp dhp dap dsp dnp w1) ∧ fr_at o 13 w w1) ⟨rgc_sl hC, rgc_out hp (by omega), fr_set hf (by omega) (by omega)⟩ (fun w1 hCf => ?_)
  obtain ⟨hC, hp, hf⟩ := hCf
  obtain ⟨q0, q1, q2, q3, q4, q5, q6, q7, q8, q9, q10, q11, q12⟩ := id hC
  obtain ⟨p0, p1, p2, p3, p4, p5, p6, p7, p8, p9, p10, p11, p12⟩ := id hp
  refine ev_aload_n de_Ri_copyFrom_95 rfl rfl ?_
  refine ev_getfield de_Ri_copyFrom_96 p0 fl_Ri_15 rfl ?_
  refine ev_iconst de_Ri_copyFrom_99 ?_
  refine ev_aload_n de_Ri_copyFrom_100 rfl rfl ?_
  refine ev_getfield de_Ri_copyFrom_101 q0 fl_Ri_15 rfl ?_
  refine ev_iconst de_Ri_copyFrom_104 ?_
  refine ev_bipush de_Ri_copyFrom_105 rfl ?_
  refine ev_copyi de_Ri_copyFrom_107 ck_Ri_85 (by decide) p2 q2 (by decide) (by decide) (Or.inl rfl) (Nat.le_of_ble_eq_true rfl) (by decide) ?_
  refine ev_gen (P := fun w1 => (rgc o (toldp) (anp) (hrp) (dyp) (spp) (ssp) (xp) (hop) (sip) (gap) (ab_cp slp sl 0 0 7) (ab_cp fsp fs 0 0 7) vo li vw ra wo dl dh da ds dn w1) ∧ (rgc p toldp anp hrp dyp spp ssp xp hop sip gap slp fsp vop lip vwp rap wop dlp dhp dap dsp dnp w1) ∧ fr_at o 13 w w1) ⟨rgc_fs hC, rgc_out hp (by omega), fr_set hf (by omega) (by omega)⟩ (fun w1 hCf => ?_)
  obtain ⟨hC, hp, hf⟩ := hCf
  obtain ⟨q0, q1, q2, q3, q4, q5, q6, q7, q8, q9, q10, q11, q12⟩ := id hC
  obtain ⟨p0, p1, p2, p3, p4, p5, p6, p7, p8, p9, p10, p11, p12⟩ := id hp
  refine ev_aload_n de_Ri_copyFrom_110 rfl rfl ?_
  refine ev_getfield de_Ri_copyFrom_111 p0 fl_Ri_18 rfl ?_
  refine ev_iconst de_Ri_copyFrom_114 ?_
  refine ev_aload_n de_Ri_copyFrom_115 rfl rfl ?_
  refine ev_getfield de_Ri_copyFrom_116 q0 fl_Ri_18 rfl ?_
  refine ev_iconst de_Ri_copyFrom_119 ?_
  refine ev_bipush de_Ri_copyFrom_120 rfl ?_
  refine ev_copyi de_Ri_copyFrom_122 ck_Ri_85 (by decide) p3 q3 (by decide) (by decide) (Or.inl rfl) (Nat.le_of_ble_eq_true rfl) (by decide) ?_
  refine ev_gen (P := fun w1 => (rgc o (toldp) (anp) (hrp) (dyp) (spp) (ssp) (xp) (hop) (sip) (gap) (ab_cp slp sl 0 0 7) (ab_cp fsp fs 0 0 7) (ab_cp vop vo 0 0 7) li vw ra wo dl dh da ds dn w1) ∧ (rgc p toldp anp hrp dyp spp ssp xp hop sip gap slp fsp vop lip vwp rap wop dlp dhp dap dsp dnp w1) ∧ fr_at o 13 w w1) ⟨rgc_vo hC, rgc_out hp (by omega), fr_set hf (by omega) (by omega)⟩ (fun w1 hCf => ?_)
  obtain ⟨hC, hp, hf⟩ := hCf
  obtain ⟨q0, q1, q2, q3, q4, q5, q6, q7, q8, q9, q10, q11, q12⟩ := id hC
  obtain ⟨p0, p1, p2, p3, p4, p5, p6, p7, p8, p9, p10, p11, p12⟩ := id hp
  refine ev_aload_n de_Ri_copyFrom_125 rfl rfl ?_
  refine ev_getfield de_Ri_copyFrom_126 p0 fl_Ri_21 rfl ?_
  refine ev_iconst de_Ri_copyFrom_129 ?_
  refine ev_aload_n de_Ri_copyFrom_130 rfl rfl ?_
  refine ev_getfield de_Ri_copyFrom_131 q0 fl_Ri_21 rfl ?_
  refine ev_iconst de_Ri_copyFrom_134 ?_
  refine ev_bipush de_Ri_copyFrom_135 rfl ?_
  refine ev_copyi de_Ri_copyFrom_137 ck_Ri_85 (by decide) p4 q4 (by decide) (by decide) (Or.inl rfl) (Nat.le_of_ble_eq_true rfl) (by decide) ?_
  refine ev_gen (P := fun w1 => (rgc o (toldp) (anp) (hrp) (dyp) (spp) (ssp) (xp) (hop) (sip) (gap) (ab_cp slp sl 0 0 7) (ab_cp fsp fs 0 0 7) (ab_cp vop vo 0 0 7) (ab_cp lip li 0 0 35) vw ra wo dl dh da ds dn w1) ∧ (rgc p toldp anp hrp dyp spp ssp xp hop sip gap slp fsp vop lip vwp rap wop dlp dhp dap dsp dnp w1) ∧ fr_at o 13 w w1) ⟨rgc_li hC, rgc_out hp (by omega), fr_set hf (by omega) (by omega)⟩ (fun w1 hCf => ?_)
  obtain ⟨hC, hp, hf⟩ := hCf
  obtain ⟨q0, q1, q2, q3, q4, q5, q6, q7, q8, q9, q10, q11, q12⟩ := id hC
  obtain ⟨p0, p1, p2, p3, p4, p5, p6, p7, p8, p9, p10, p11, p12⟩ := id hp
  refine ev_aload_n de_Ri_copyFrom_140 rfl rfl ?_
  refine ev_getfield de_Ri_copyFrom_141 p0 fl_Ri_24 rfl ?_
  refine ev_iconst de_Ri_copyFrom_144 ?_
  refine ev_aload_n de_Ri_copyFrom_145 rfl rfl ?_
  refine ev_getfield de_Ri_copyFrom_146 q0 fl_Ri_24 rfl ?_
  refine ev_iconst de_Ri_copyFrom_149 ?_
  refine ev_bipush de_Ri_copyFrom_150 rfl ?_
  refine ev_copyl de_Ri_copyFrom_152 ck_Ri_85 p5 q5 (by decide) (by decide) (Nat.le_of_ble_eq_true rfl) (by decide) ?_
  refine ev_gen (P := fun w1 => (rgc o (toldp) (anp) (hrp) (dyp) (spp) (ssp) (xp) (hop) (sip) (gap) (ab_cp slp sl 0 0 7) (ab_cp fsp fs 0 0 7) (ab_cp vop vo 0 0 7) (ab_cp lip li 0 0 35) (ab_cp vwp vw 0 0 24) ra wo dl dh da ds dn w1) ∧ (rgc p toldp anp hrp dyp spp ssp xp hop sip gap slp fsp vop lip vwp rap wop dlp dhp dap dsp dnp w1) ∧ fr_at o 13 w w1) ⟨rgc_vw hC, rgc_out hp (by omega), fr_set hf (by omega) (by omega)⟩ (fun w1 hCf => ?_)
  obtain ⟨hC, hp, hf⟩ := hCf
  obtain ⟨q0, q1, q2, q3, q4, q5, q6, q7, q8, q9, q10, q11, q12⟩ := id hC
  obtain ⟨p0, p1, p2, p3, p4, p5, p6, p7, p8, p9, p10, p11, p12⟩ := id hp
  refine ev_aload_n de_Ri_copyFrom_155 rfl rfl ?_
  refine ev_getfield de_Ri_copyFrom_156 p0 fl_Ri_28 rfl ?_
  refine ev_iconst de_Ri_copyFrom_159 ?_
  refine ev_aload_n de_Ri_copyFrom_160 rfl rfl ?_
  refine ev_getfield de_Ri_copyFrom_161 q0 fl_Ri_28 rfl ?_
  refine ev_iconst de_Ri_copyFrom_164 ?_
  refine ev_bipush de_Ri_copyFrom_165 rfl ?_
  refine ev_copyi de_Ri_copyFrom_167 ck_Ri_85 (by decide) p6 q6 (by decide) (by decide) (Or.inl rfl) (Nat.le_of_ble_eq_true rfl) (by decide) ?_
  refine ev_gen (P := fun w1 => (rgc o (toldp) (anp) (hrp) (dyp) (spp) (ssp) (xp) (hop) (sip) (gap) (ab_cp slp sl 0 0 7) (ab_cp fsp fs 0 0 7) (ab_cp vop vo 0 0 7) (ab_cp lip li 0 0 35) (ab_cp vwp vw 0 0 24) (ab_cp rap ra 0 0 24) wo dl dh da ds dn w1) ∧ (rgc p toldp anp hrp dyp spp ssp xp hop sip gap slp fsp vop lip vwp rap wop dlp dhp dap dsp dnp w1) ∧ fr_at o 13 w w1) ⟨rgc_ra hC, rgc_out hp (by omega), fr_set hf (by omega) (by omega)⟩ (fun w1 hCf => ?_)
  obtain ⟨hC, hp, hf⟩ := hCf
  obtain ⟨q0, q1, q2, q3, q4, q5, q6, q7, q8, q9, q10, q11, q12⟩ := id hC
  obtain ⟨p0, p1, p2, p3, p4, p5, p6, p7, p8, p9, p10, p11, p12⟩ := id hp
  refine ev_aload_n de_Ri_copyFrom_170 rfl rfl ?_
  refine ev_getfield de_Ri_copyFrom_171 p0 fl_Ri_31 rfl ?_
  refine ev_iconst de_Ri_copyFrom_174 ?_
  refine ev_aload_n de_Ri_copyFrom_175 rfl rfl ?_
  refine ev_getfield de_Ri_copyFrom_176 q0 fl_Ri_31 rfl ?_
  refine ev_iconst de_Ri_copyFrom_179 ?_
  refine ev_bipush de_Ri_copyFrom_180 rfl ?_
  refine ev_copyi de_Ri_copyFrom_182 ck_Ri_85 (by decide) p7 q7 (by decide) (by decide) (Or.inl rfl) (Nat.le_of_ble_eq_true rfl) (by decide) ?_
  refine ev_gen (P := fun w1 => (rgc o (toldp) (anp) (hrp) (dyp) (spp) (ssp) (xp) (hop) (sip) (gap) (ab_cp slp sl 0 0 7) (ab_cp fsp fs 0 0 7) (ab_cp vop vo 0 0 7) (ab_cp lip li 0 0 35) (ab_cp vwp vw 0 0 24) (ab_cp rap ra 0 0 24) (ab_cp wop wo 0 0 12) dl dh da ds dn w1) ∧ (rgc p toldp anp hrp dyp spp ssp xp hop sip gap slp fsp vop lip vwp rap wop dlp dhp dap dsp dnp w1) ∧ fr_at o 13 w w1) ⟨rgc_wo hC, rgc_out hp (by omega), fr_set hf (by omega) (by omega)⟩ (fun w1 hCf => ?_)
  obtain ⟨hC, hp, hf⟩ := hCf
  obtain ⟨q0, q1, q2, q3, q4, q5, q6, q7, q8, q9, q10, q11, q12⟩ := id hC
  obtain ⟨p0, p1, p2, p3, p4, p5, p6, p7, p8, p9, p10, p11, p12⟩ := id hp
  refine ev_aload_n de_Ri_copyFrom_185 rfl rfl ?_
  refine ev_getfield de_Ri_copyFrom_186 q0 fl_Ri_37 rfl ?_
  refine ev_aload_n de_Ri_copyFrom_189 rfl rfl ?_
  refine ev_getfield de_Ri_copyFrom_190 p0 fl_Ri_37 rfl ?_
  refine ev_virtual (ci := 1) (mc := 0) (ms := 0) (bc := 0) (bs := 0) de_Ri_copyFrom_193 (co_Di_copyFrom hC hp hd) kb_Ri_91 ⟨im_Di_copyFrom, se_Di_copyFrom⟩ rfl q8 rfl (Nat.le_of_ble_eq_true rfl) (by decide) (Or.inl (fun r w1 h => h.2.2.2.1)) (fun r1 w1 hm1 => ?_)
  obtain ⟨rfl, hC, hp, hf2⟩ := hm1
  · skip
    exact ev_return de_Ri_copyFrom_196 rfl ⟨rfl, hC, hp, fr_tr hf hf2⟩
theorem ab_cp_in {α : Type} (f g : Int → α) {n k : Int} (h0 : 0 ≤ k) (h1 : k < n) : ab_cp f g 0 0 n k = f k := by
  unfold ab_cp
  rw [if_pos (by omega), show 0 + (k - 0) = k by omega]