/-! TurnRing, its calls that change nothing, exactly -/
def tu_at (a b : Nat) (rc : Int) (w : ab_W) : Prop := w[0]? = some (ab_ob 10 [ab_R 1, ab_R a, ab_R b, ab_R 29, ab_R 30, ab_R 31, ab_I rc, ab_R 32, ab_R 36, ab_R 38, ab_R 40, ab_R 45, ab_R 51])
theorem sp_wantsI_01 (f : Int → Int) (h : Int) : sp_wantsI f h = 0 ∨ sp_wantsI f h = 1 := by unfold sp_wantsI; split <;> omega
theorem de_Tu_lastHour_0 : decode prog_1_method_42_code 0 = .ok (.sipush 23999, 3) := by decide +kernel
theorem de_Tu_lastHour_3 : decode prog_1_method_42_code 3 = .ok (.ireturn, 1) := by decide +kernel
set_option maxRecDepth 10000 in
theorem co_Tu_lastHour (w : ab_W) : ab_Mt g_G g_rs mt_Tu_lastHour 0 0 0 [] w (ab_is (some (ab_I (23999))) w) := by
  refine ab_Mt.of rfl (Nat.le_of_ble_eq_true rfl) ?_
  show ab_Ev g_G g_rs mt_Tu_lastHour _ _ _ 0 [] [] _ _
  refine ev_sipush de_Tu_lastHour_0 rfl ?_
  exact ev_ireturn de_Tu_lastHour_3 rfl ⟨rfl, rfl⟩
theorem de_Tu_hasHouse_0 : decode prog_1_method_37_code 0 = .ok (.iload_n 1, 1) := by decide +kernel
theorem de_Tu_hasHouse_1 : decode prog_1_method_37_code 1 = .ok (.ifCond .lt 18, 3) := by decide +kernel
theorem de_Tu_hasHouse_4 : decode prog_1_method_37_code 4 = .ok (.iload_n 1, 1) := by decide +kernel
theorem de_Tu_hasHouse_5 : decode prog_1_method_37_code 5 = .ok (.aload_n 0, 1) := by decide +kernel
theorem de_Tu_hasHouse_6 : decode prog_1_method_37_code 6 = .ok (.getfield 19, 3) := by decide +kernel
theorem de_Tu_hasHouse_9 : decode prog_1_method_37_code 9 = .ok (.getfield 102, 3) := by decide +kernel
theorem de_Tu_hasHouse_12 : decode prog_1_method_37_code 12 = .ok (.if_icmp .ge 7, 3) := by decide +kernel
theorem de_Tu_hasHouse_15 : decode prog_1_method_37_code 15 = .ok (.iconst 1, 1) := by decide +kernel
theorem de_Tu_hasHouse_16 : decode prog_1_method_37_code 16 = .ok (.goto 4, 3) := by decide +kernel
theorem de_Tu_hasHouse_19 : decode prog_1_method_37_code 19 = .ok (.iconst 0, 1) := by decide +kernel
theorem de_Tu_hasHouse_20 : decode prog_1_method_37_code 20 = .ok (.ireturn, 1) := by decide +kernel
set_option maxHeartbeats 4000000 in
set_option maxRecDepth 10000 in
theorem co_Tu_hasHouse {a b : Nat} {rc : Int} {f : Int → Int} {x B : Int} {w : ab_W} (hI : sg_ok B f) (t0 : tu_at a b rc w) (hR : ri_at_j a f x w) (y1 : Int) (hy1 : ab_in y1) : ab_Mt g_G g_rs mt_Tu_hasHouse 0 0 0 [ab_R 0, ab_I y1] w (ab_is (some (ab_I (if 0 ≤ y1 ∧ y1 < f 1 then 1 else 0))) w) := by
  have ht0 := t0
  have hR0 := hR
  have hI0 := hI
  unfold tu_at at t0
  obtain ⟨sl, fs, vo, li, ra, wo, dh, da, hzz⟩ := hR
  obtain ⟨ds, dn, vw, q0, q1, q2, q3, q4, hzz⟩ := hzz
  obtain ⟨q5, q6, q7, q8, q9, q10, q11, q12, hzz⟩ := hzz
  obtain ⟨e1, e2, e3, e4, e5, e6, e7, e8, e9⟩ := hzz
  obtain ⟨i0, i1, i2, i3, i4, i5, i6, i7, hzz⟩ := sg_all hI
  obtain ⟨i8, i9, i10, i11, i12, i13, i14, i15, hzz⟩ := hzz
  obtain ⟨i16, i17⟩ := hzz
  refine ab_Mt.of rfl (Nat.le_of_ble_eq_true rfl) ?_
  show ab_Ev g_G g_rs mt_Tu_hasHouse _ _ _ 0 [some (ab_R 0), some (ab_I y1)] [] _ _
  refine ev_iload_n de_Tu_hasHouse_0 rfl rfl ?_
  refine ev_if_lt (tgt := 19) de_Tu_hasHouse_1 (by decide) (by first | omega | assumption) (fun h1 => ?_) (fun h1 => ?_)
  · skip
    refine ev_iconst de_Tu_hasHouse_19 ?_
    exact ev_zreturn de_Tu_hasHouse_20 rfl (by decide) ⟨congrArg (fun z => some (ab_I z)) (by (repeat' split) <;> omega), rfl⟩
  · skip
    refine ev_iload_n de_Tu_hasHouse_4 rfl rfl ?_
    refine ev_aload_n de_Tu_hasHouse_5 rfl rfl ?_
    refine ev_getfield de_Tu_hasHouse_6 t0 fl_Tu_19 rfl ?_
    refine ev_getfield de_Tu_hasHouse_9 q0 fl_Tu_102 rfl ?_
    refine ev_icmp_ge (tgt := 19) de_Tu_hasHouse_12 (by decide) (by first | omega | assumption) (by first | omega | assumption) (fun h12 => ?_) (fun h12 => ?_)
    · skip
      refine ev_iconst de_Tu_hasHouse_19 ?_
      exact ev_zreturn de_Tu_hasHouse_20 rfl (by decide) ⟨congrArg (fun z => some (ab_I z)) (by (repeat' split) <;> omega), rfl⟩
    · skip
      refine ev_iconst de_Tu_hasHouse_15 ?_
      refine ev_goto (tgt := 20) de_Tu_hasHouse_16 (by decide) ?_
      exact ev_zreturn de_Tu_hasHouse_20 rfl (by decide) ⟨congrArg (fun z => some (ab_I z)) (by (repeat' split) <;> omega), rfl⟩
theorem de_Tu_hasRule_0 : decode prog_1_method_38_code 0 = .ok (.iload_n 1, 1) := by decide +kernel
theorem de_Tu_hasRule_1 : decode prog_1_method_38_code 1 = .ok (.ifCond .lt 15, 3) := by decide +kernel
theorem de_Tu_hasRule_4 : decode prog_1_method_38_code 4 = .ok (.iload_n 1, 1) := by decide +kernel
theorem de_Tu_hasRule_5 : decode prog_1_method_38_code 5 = .ok (.aload_n 0, 1) := by decide +kernel
theorem de_Tu_hasRule_6 : decode prog_1_method_38_code 6 = .ok (.getfield 105, 3) := by decide +kernel
theorem de_Tu_hasRule_9 : decode prog_1_method_38_code 9 = .ok (.if_icmp .ge 7, 3) := by decide +kernel
theorem de_Tu_hasRule_12 : decode prog_1_method_38_code 12 = .ok (.iconst 1, 1) := by decide +kernel
theorem de_Tu_hasRule_13 : decode prog_1_method_38_code 13 = .ok (.goto 4, 3) := by decide +kernel
theorem de_Tu_hasRule_16 : decode prog_1_method_38_code 16 = .ok (.iconst 0, 1) := by decide +kernel
theorem de_Tu_hasRule_17 : decode prog_1_method_38_code 17 = .ok (.ireturn, 1) := by decide +kernel
set_option maxHeartbeats 4000000 in
set_option maxRecDepth 10000 in
theorem co_Tu_hasRule {a b : Nat} {rc : Int} {f : Int → Int} {x B : Int} {w : ab_W} (hI : sg_ok B f) (t0 : tu_at a b rc w) (hR : ri_at_j a f x w) (hrc : 0 ≤ rc ∧ rc ≤ 6) (y1 : Int) (hy1 : ab_in y1) : ab_Mt g_G g_rs mt_Tu_hasRule 0 0 0 [ab_R 0, ab_I y1] w (ab_is (some (ab_I (if 0 ≤ y1 ∧ y1 < rc then 1 else 0))) w) := by
  have ht0 := t0
  have hR0 := hR
  have hI0 := hI
  unfold tu_at at t0
  obtain ⟨sl, fs, vo, li, ra, wo, dh, da, hzz⟩ := hR
  obtain ⟨ds, dn, vw, q0, q1, q2, q3, q4, hzz⟩ := hzz
  obtain ⟨q5, q6, q7, q8, q9, q10, q11, q12, hzz⟩ := hzz
  obtain ⟨e1, e2, e3, e4, e5, e6, e7, e8, e9⟩ := hzz
  obtain ⟨i0, i1, i2, i3, i4, i5, i6, i7, hzz⟩ := sg_all hI
  obtain ⟨i8, i9, i10, i11, i12, i13, i14, i15, hzz⟩ := hzz
  obtain ⟨i16, i17⟩ := hzz
  refine ab_Mt.of rfl (Nat.le_of_ble_eq_true rfl) ?_
  show ab_Ev g_G g_rs mt_Tu_hasRule _ _ _ 0 [some (ab_R 0), some (ab_I y1)] [] _ _
  refine ev_iload_n de_Tu_hasRule_0 rfl rfl ?_
  refine ev_if_lt (tgt := 16) de_Tu_hasRule_1 (by decide) (by first | omega | assumption) (fun h1 => ?_) (fun h1 => ?_)
  · skip
    refine ev_iconst de_Tu_hasRule_16 ?_
    exact ev_zreturn de_Tu_hasRule_17 rfl (by decide) ⟨congrArg (fun z => some (ab_I z)) (by (repeat' split) <;> omega), rfl⟩
  · skip
    refine ev_iload_n de_Tu_hasRule_4 rfl rfl ?_
    refine ev_aload_n de_Tu_hasRule_5 rfl rfl ?_
    refine ev_getfield de_Tu_hasRule_6 t0 fl_Tu_105 rfl ?_
    refine ev_icmp_ge (tgt := 16) de_Tu_hasRule_9 (by decide) (by first | omega | assumption) (by first | omega | assumption) (fun h9 => ?_) (fun h9 => ?_)
    · skip
      refine ev_iconst de_Tu_hasRule_16 ?_
      exact ev_zreturn de_Tu_hasRule_17 rfl (by decide) ⟨congrArg (fun z => some (ab_I z)) (by (repeat' split) <;> omega), rfl⟩
    · skip
      refine ev_iconst de_Tu_hasRule_12 ?_
      refine ev_goto (tgt := 17) de_Tu_hasRule_13 (by decide) ?_
      exact ev_zreturn de_Tu_hasRule_17 rfl (by decide) ⟨congrArg (fun z => some (ab_I z)) (by (repeat' split) <;> omega), rfl⟩
theorem de_Tu_rateOf_0 : decode prog_1_method_8_code 0 = .ok (.aload_n 0, 1) := by decide +kernel
theorem de_Tu_rateOf_1 : decode prog_1_method_8_code 1 = .ok (.getfield 19, 3) := by decide +kernel
theorem de_Tu_rateOf_4 : decode prog_1_method_8_code 4 = .ok (.getfield 152, 3) := by decide +kernel
theorem de_Tu_rateOf_7 : decode prog_1_method_8_code 7 = .ok (.ifCond .eq 22, 3) := by decide +kernel
theorem de_Tu_rateOf_10 : decode prog_1_method_8_code 10 = .ok (.iload_n 1, 1) := by decide +kernel
theorem de_Tu_rateOf_11 : decode prog_1_method_8_code 11 = .ok (.invokestatic 162, 3) := by decide +kernel
theorem de_Tu_rateOf_14 : decode prog_1_method_8_code 14 = .ok (.ifCond .eq 15, 3) := by decide +kernel
theorem de_Tu_rateOf_17 : decode prog_1_method_8_code 17 = .ok (.aload_n 0, 1) := by decide +kernel
theorem de_Tu_rateOf_18 : decode prog_1_method_8_code 18 = .ok (.getfield 19, 3) := by decide +kernel
theorem de_Tu_rateOf_21 : decode prog_1_method_8_code 21 = .ok (.getfield 165, 3) := by decide +kernel
theorem de_Tu_rateOf_24 : decode prog_1_method_8_code 24 = .ok (.iload_n 1, 1) := by decide +kernel
theorem de_Tu_rateOf_25 : decode prog_1_method_8_code 25 = .ok (.iaload, 1) := by decide +kernel
theorem de_Tu_rateOf_26 : decode prog_1_method_8_code 26 = .ok (.goto 6, 3) := by decide +kernel
theorem de_Tu_rateOf_29 : decode prog_1_method_8_code 29 = .ok (.sipush (-1000), 3) := by decide +kernel
theorem de_Tu_rateOf_32 : decode prog_1_method_8_code 32 = .ok (.ireturn, 1) := by decide +kernel
set_option maxHeartbeats 4000000 in
set_option maxRecDepth 10000 in
theorem co_Tu_rateOf {a b : Nat} {rc : Int} {f : Int → Int} {x B : Int} {w : ab_W} (hI : sg_ok B f) (t0 : tu_at a b rc w) (hR : ri_at_j a f x w) (y1 : Int) (hy1 : ab_in y1) : ab_Mt g_G g_rs mt_Tu_rateOf 1 0 0 [ab_R 0, ab_I y1] w (ab_is (some (ab_I (sp_rateOf f y1))) w) := by
  have ht0 := t0
  have hR0 := hR
  have hI0 := hI
  unfold tu_at at t0
  obtain ⟨sl, fs, vo, li, ra, wo, dh, da, hzz⟩ := hR
  obtain ⟨ds, dn, vw, q0, q1, q2, q3, q4, hzz⟩ := hzz
  obtain ⟨q5, q6, q7, q8, q9, q10, q11, q12, hzz⟩ := hzz
  obtain ⟨e1, e2, e3, e4, e5, e6, e7, e8, e9⟩ := hzz
  obtain ⟨i0, i1, i2, i3, i4, i5, i6, i7, hzz⟩ := sg_all hI
  obtain ⟨i8, i9, i10, i11, i12, i13, i14, i15, hzz⟩ := hzz
  obtain ⟨i16, i17⟩ := hzz
  refine ab_Mt.of rfl (Nat.le_of_ble_eq_true rfl) ?_
  show ab_Ev g_G g_rs mt_Tu_rateOf _ _ _ 0 [some (ab_R 0), some (ab_I y1)] [] _ _
  refine ev_aload_n de_Tu_rateOf_0 rfl rfl ?_
  refine ev_getfield de_Tu_rateOf_1 t0 fl_Tu_19 rfl ?_
  refine ev_getfield de_Tu_rateOf_4 q0 fl_Tu_152 rfl ?_
  refine ev_if_eq (tgt := 29) de_Tu_rateOf_7 (by decide) (by first | omega | assumption) (fun h7 => ?_) (fun h7 => ?_)
  · skip
    refine ev_sipush de_Tu_rateOf_29 rfl ?_
    exact ev_ireturn de_Tu_rateOf_32 rfl ⟨congrArg (fun z => some (ab_I z)) (by unfold sp_rateOf; (try split at h14) <;> (repeat' split) <;> omega), rfl⟩
  · skip
    refine ev_iload_n de_Tu_rateOf_10 rfl rfl ?_
    refine ev_sv de_Tu_rateOf_11 (co_Tu_isHour _ _ (by assumption)) kb_Tu_162 sc_Tu_isHour rfl (Nat.le_of_ble_eq_true rfl) (by decide) rfl ?_
    refine ev_if_eq (tgt := 29) de_Tu_rateOf_14 (by decide) (by split <;> decide) (fun h14 => ?_) (fun h14 => ?_)
    · skip
      refine ev_sipush de_Tu_rateOf_29 rfl ?_
      exact ev_ireturn de_Tu_rateOf_32 rfl ⟨congrArg (fun z => some (ab_I z)) (by unfold sp_rateOf; (try split at h14) <;> (repeat' split) <;> omega), rfl⟩
    · skip
      have hh : 0 ≤ y1 ∧ y1 ≤ 23 := by split at h14 <;> omega
      have z5 := e5 y1 (by omega) (by omega)
      refine ev_aload_n de_Tu_rateOf_17 rfl rfl ?_
      refine ev_getfield de_Tu_rateOf_18 t0 fl_Tu_19 rfl ?_
      refine ev_getfield de_Tu_rateOf_21 q0 fl_Tu_165 rfl ?_
      refine ev_iload_n de_Tu_rateOf_24 rfl rfl ?_
      refine ev_iaload de_Tu_rateOf_25 q6 (by first | omega | assumption) (by first | omega | assumption) (by first | omega | assumption) ?_
      refine ev_goto (tgt := 32) de_Tu_rateOf_26 (by decide) ?_
      exact ev_ireturn de_Tu_rateOf_32 rfl ⟨congrArg (fun z => some (ab_I z)) (by unfold sp_rateOf; (try split at h14) <;> (repeat' split) <;> omega), rfl⟩
theorem de_Tu_worn_0 : decode prog_1_method_9_code 0 = .ok (.aload_n 0, 1) := by decide +kernel
theorem de_Tu_worn_1 : decode prog_1_method_9_code 1 = .ok (.getfield 19, 3) := by decide +kernel
theorem de_Tu_worn_4 : decode prog_1_method_9_code 4 = .ok (.getfield 152, 3) := by decide +kernel
theorem de_Tu_worn_7 : decode prog_1_method_9_code 7 = .ok (.ifCond .eq 22, 3) := by decide +kernel
theorem de_Tu_worn_10 : decode prog_1_method_9_code 10 = .ok (.iload_n 1, 1) := by decide +kernel
theorem de_Tu_worn_11 : decode prog_1_method_9_code 11 = .ok (.invokestatic 156, 3) := by decide +kernel
theorem de_Tu_worn_14 : decode prog_1_method_9_code 14 = .ok (.ifCond .eq 15, 3) := by decide +kernel
theorem de_Tu_worn_17 : decode prog_1_method_9_code 17 = .ok (.aload_n 0, 1) := by decide +kernel
theorem de_Tu_worn_18 : decode prog_1_method_9_code 18 = .ok (.getfield 19, 3) := by decide +kernel
theorem de_Tu_worn_21 : decode prog_1_method_9_code 21 = .ok (.getfield 168, 3) := by decide +kernel
theorem de_Tu_worn_24 : decode prog_1_method_9_code 24 = .ok (.iload_n 1, 1) := by decide +kernel
theorem de_Tu_worn_25 : decode prog_1_method_9_code 25 = .ok (.iaload, 1) := by decide +kernel
theorem de_Tu_worn_26 : decode prog_1_method_9_code 26 = .ok (.goto 4, 3) := by decide +kernel
theorem de_Tu_worn_29 : decode prog_1_method_9_code 29 = .ok (.iconst (-1), 1) := by decide +kernel
theorem de_Tu_worn_30 : decode prog_1_method_9_code 30 = .ok (.ireturn, 1) := by decide +kernel
set_option maxHeartbeats 4000000 in
set_option maxRecDepth 10000 in
theorem co_Tu_worn {a b : Nat} {rc : Int} {f : Int → Int} {x B : Int} {w : ab_W} (hI : sg_ok B f) (t0 : tu_at a b rc w) (hR : ri_at_j a f x w) (y1 : Int) (hy1 : ab_in y1) : ab_Mt g_G g_rs mt_Tu_worn 1 0 0 [ab_R 0, ab_I y1] w (ab_is (some (ab_I (sp_worn f y1))) w) := by
  have ht0 := t0
  have hR0 := hR
  have hI0 := hI
  unfold tu_at at t0
  obtain ⟨sl, fs, vo, li, ra, wo, dh, da, hzz⟩ := hR
  obtain ⟨ds, dn, vw, q0, q1, q2, q3, q4, hzz⟩ := hzz
  obtain ⟨q5, q6, q7, q8, q9, q10, q11, q12, hzz⟩ := hzz
  obtain ⟨e1, e2, e3, e4, e5, e6, e7, e8, e9⟩ := hzz
  obtain ⟨i0, i1, i2, i3, i4, i5, i6, i7, hzz⟩ := sg_all hI
  obtain ⟨i8, i9, i10, i11, i12, i13, i14, i15, hzz⟩ := hzz
  obtain ⟨i16, i17⟩ := hzz
  refine ab_Mt.of rfl (Nat.le_of_ble_eq_true rfl) ?_
  show ab_Ev g_G g_rs mt_Tu_worn _ _ _ 0 [some (ab_R 0), some (ab_I y1)] [] _ _
  refine ev_aload_n de_Tu_worn_0 rfl rfl ?_
  refine ev_getfield de_Tu_worn_1 t0 fl_Tu_19 rfl ?_
  refine ev_getfield de_Tu_worn_4 q0 fl_Tu_152 rfl ?_
  refine ev_if_eq (tgt := 29) de_Tu_worn_7 (by decide) (by first | omega | assumption) (fun h7 => ?_) (fun h7 => ?_)
  · skip
    refine ev_iconst de_Tu_worn_29 ?_
    exact ev_ireturn de_Tu_worn_30 rfl ⟨congrArg (fun z => some (ab_I z)) (by unfold sp_worn; (try split at h14) <;> (repeat' split) <;> omega), rfl⟩
  · skip
    refine ev_iload_n de_Tu_worn_10 rfl rfl ?_
    refine ev_sv de_Tu_worn_11 (co_Tu_isDirection _ _ (by assumption)) kb_Tu_156 sc_Tu_isDirection rfl (Nat.le_of_ble_eq_true rfl) (by decide) rfl ?_
    refine ev_if_eq (tgt := 29) de_Tu_worn_14 (by decide) (by split <;> decide) (fun h14 => ?_) (fun h14 => ?_)
    · skip
      refine ev_iconst de_Tu_worn_29 ?_
      exact ev_ireturn de_Tu_worn_30 rfl ⟨congrArg (fun z => some (ab_I z)) (by unfold sp_worn; (try split at h14) <;> (repeat' split) <;> omega), rfl⟩
    · skip
      have hh : 0 ≤ y1 ∧ y1 ≤ 11 := by split at h14 <;> omega
      have z6 := e6 y1 (by omega) (by omega)
      refine ev_aload_n de_Tu_worn_17 rfl rfl ?_
      refine ev_getfield de_Tu_worn_18 t0 fl_Tu_19 rfl ?_
      refine ev_getfield de_Tu_worn_21 q0 fl_Tu_168 rfl ?_
      refine ev_iload_n de_Tu_worn_24 rfl rfl ?_
      refine ev_iaload de_Tu_worn_25 q7 (by first | omega | assumption) (by first | omega | assumption) (by first | omega | assumption) ?_
      refine ev_goto (tgt := 30) de_Tu_worn_26 (by decide) ?_
      exact ev_ireturn de_Tu_worn_30 rfl ⟨congrArg (fun z => some (ab_I z)) (by unfold sp_worn; (try split at h14) <;> (repeat' split) <;> omega), rfl⟩
