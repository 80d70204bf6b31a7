theorem de_Tu_undo_0 : decode prog_1_method_15_code 0 = .ok (.aload_n 0, 1) := by decide +kernel
theorem de_Tu_undo_1 : decode prog_1_method_15_code 1 = .ok (.getfield 43, 3) := by decide +kernel
theorem de_Tu_undo_4 : decode prog_1_method_15_code 4 = .ok (.aload_n 0, 1) := by decide +kernel
theorem de_Tu_undo_5 : decode prog_1_method_15_code 5 = .ok (.getfield 19, 3) := by decide +kernel
theorem de_Tu_undo_8 : decode prog_1_method_15_code 8 = .ok (.invokevirtual 226, 3) := by decide +kernel
theorem de_Tu_undo_11 : decode prog_1_method_15_code 11 = .ok (.ifCond .eq 13, 3) := by decide +kernel
theorem de_Tu_undo_14 : decode prog_1_method_15_code 14 = .ok (.aload_n 0, 1) := by decide +kernel
theorem de_Tu_undo_15 : decode prog_1_method_15_code 15 = .ok (.getfield 43, 3) := by decide +kernel
theorem de_Tu_undo_18 : decode prog_1_method_15_code 18 = .ok (.getfield 201, 3) := by decide +kernel
theorem de_Tu_undo_21 : decode prog_1_method_15_code 21 = .ok (.goto 4, 3) := by decide +kernel
theorem de_Tu_undo_24 : decode prog_1_method_15_code 24 = .ok (.iconst (-1), 1) := by decide +kernel
theorem de_Tu_undo_25 : decode prog_1_method_15_code 25 = .ok (.ireturn, 1) := by decide +kernel
set_option maxHeartbeats 4000000 in
set_option maxRecDepth 10000 in
theorem co_Tu_undo {a b : Nat} {rc : Int} {f : Int → Int} {x B : Int} {w : ab_W} (hI : sg_ok B f) (t0 : tu_at a b rc w) (hR : ri_at_j a f x w) {ki f1 s1 : Int → Int} {sz nx : Int} (hab : a = 3 ∨ a = 16) (hac : acl 32 ki f1 s1 sz nx w) (hnx : 0 ≤ nx ∧ nx < 20) (hsz : 0 ≤ sz ∧ sz ≤ 20) (hv : 0 < sz → ac_v (f 1) (ki ((nx + 19) % 20)) (f1 ((nx + 19) % 20)) (s1 ((nx + 19) % 20))) : ab_Mt g_G g_rs mt_Tu_undo 3 0 0 [ab_R 0] w (fun r w2 => w2.length = w.length ∧ ((0 < sz) ∧ r = some (ab_I (sz - 1)) ∧ ri_at_j a (cs_ua (ki ((nx + 19) % 20)) (f1 ((nx + 19) % 20)) (s1 ((nx + 19) % 20)) f) x w2 ∧ acl 32 ki f1 s1 (sz - 1) ((nx + 19) % 20) w2 ∨ ¬ (0 < sz) ∧ r = some (ab_I (-1)) ∧ w2 = w)) := by
  have ht0 := t0
  have hl : w.length = w.length := rfl
  have hR0 := hR
  have hI0 := hI
  unfold tu_at at t0
  obtain ⟨sl, fs, vo, li, ra, wo, dh, da, hzz⟩ := hR
  obtain ⟨ds, dn, vw, q0, q1, q2, q3, q4, hzz⟩ := hzz
  obtain ⟨q5, q6, q7, q8, q9, q10, q11, q12, hzz⟩ := hzz
  obtain ⟨e1, e2, e3, e4, e5, e6, e7, e8, e9⟩ := hzz
  obtain ⟨i0, i1, i2, i3, i4, i5, i6, i7, hzz⟩ := sg_all hI
  obtain ⟨i8, i9, i10, i11, i12, i13, i14, i15, hzz⟩ := hzz
  obtain ⟨i16, i17⟩ := hzz
  obtain ⟨c0, c1, c2, c3⟩ := id hac
  refine ab_Mt.of rfl (Nat.le_of_ble_eq_true rfl) ?_
  show ab_Ev g_G g_rs mt_Tu_undo _ _ _ 0 [some (ab_R 0)] [] _ _
  refine ev_aload_n de_Tu_undo_0 rfl rfl ?_
  refine ev_getfield de_Tu_undo_1 t0 fl_Tu_43 rfl ?_
  refine ev_aload_n de_Tu_undo_4 rfl rfl ?_
  refine ev_getfield de_Tu_undo_5 t0 fl_Tu_19 rfl ?_
  refine ev_virtual (ci := 0) (mc := 0) (ms := 0) (bc := 0) (bs := 0) de_Tu_undo_8 (co_Ac_undoLast hI0 hR0 hac (by omega) hnx hsz hv) kb_Tu_226 ⟨im_Ac_undoLast, se_Ac_undoLast⟩ rfl c0 rfl (Nat.le_of_ble_eq_true rfl) (by decide) (Or.inl (fun r w1 h => h.1)) (fun r1 w1 hm1 => ?_)
  obtain ⟨hl, ⟨h0, rfl, hR, hac9, hfp⟩ | ⟨h0, rfl, rfl⟩⟩ := hm1
  · skip
    have t0 := (hfp 0 (by omega) (by omega)).trans t0
    obtain ⟨c0, c1, c2, c3⟩ := id hac9
    refine ev_if_eq_f (tgt := 24) de_Tu_undo_11 (by decide) (by decide) (by decide) ?_
    refine ev_aload_n de_Tu_undo_14 rfl rfl ?_
    refine ev_getfield de_Tu_undo_15 t0 fl_Tu_43 rfl ?_
    refine ev_getfield de_Tu_undo_18 c0 fl_Tu_201 rfl ?_
    refine ev_goto (tgt := 25) de_Tu_undo_21 (by decide) ?_
    exact ev_ireturn de_Tu_undo_25 rfl (by first | exact ⟨hl, Or.inl ⟨h0, rfl, hR, hac9⟩⟩ | exact ⟨rfl, Or.inr ⟨h0, rfl, rfl⟩⟩)
  · skip
    refine ev_if_eq_t (tgt := 24) de_Tu_undo_11 (by decide) (by decide) (by decide) ?_
    refine ev_iconst de_Tu_undo_24 ?_
    exact ev_ireturn de_Tu_undo_25 rfl (by first | exact ⟨hl, Or.inl ⟨h0, rfl, hR, hac9⟩⟩ | exact ⟨rfl, Or.inr ⟨h0, rfl, rfl⟩⟩)
theorem de_Tu_image_0 : decode prog_1_method_18_code 0 = .ok (.iload_n 1, 1) := by decide +kernel
theorem de_Tu_image_1 : decode prog_1_method_18_code 1 = .ok (.ifCond .lt 8, 3) := by decide +kernel
theorem de_Tu_image_4 : decode prog_1_method_18_code 4 = .ok (.iload_n 1, 1) := by decide +kernel
theorem de_Tu_image_5 : decode prog_1_method_18_code 5 = .ok (.iconst 4, 1) := by decide +kernel
theorem de_Tu_image_6 : decode prog_1_method_18_code 6 = .ok (.if_icmp .lt 5, 3) := by decide +kernel
theorem de_Tu_image_9 : decode prog_1_method_18_code 9 = .ok (.iconst (-1), 1) := by decide +kernel
theorem de_Tu_image_10 : decode prog_1_method_18_code 10 = .ok (.ireturn, 1) := by decide +kernel
theorem de_Tu_image_11 : decode prog_1_method_18_code 11 = .ok (.aload_n 0, 1) := by decide +kernel
theorem de_Tu_image_12 : decode prog_1_method_18_code 12 = .ok (.getfield 26, 3) := by decide +kernel
theorem de_Tu_image_15 : decode prog_1_method_18_code 15 = .ok (.iload_n 1, 1) := by decide +kernel
theorem de_Tu_image_16 : decode prog_1_method_18_code 16 = .ok (.aaload, 1) := by decide +kernel
theorem de_Tu_image_17 : decode prog_1_method_18_code 17 = .ok (.aload_n 0, 1) := by decide +kernel
theorem de_Tu_image_18 : decode prog_1_method_18_code 18 = .ok (.getfield 19, 3) := by decide +kernel
theorem de_Tu_image_21 : decode prog_1_method_18_code 21 = .ok (.invokevirtual 237, 3) := by decide +kernel
theorem de_Tu_image_24 : decode prog_1_method_18_code 24 = .ok (.aload_n 0, 1) := by decide +kernel
theorem de_Tu_image_25 : decode prog_1_method_18_code 25 = .ok (.getfield 30, 3) := by decide +kernel
theorem de_Tu_image_28 : decode prog_1_method_18_code 28 = .ok (.iload_n 1, 1) := by decide +kernel
theorem de_Tu_image_29 : decode prog_1_method_18_code 29 = .ok (.iconst 1, 1) := by decide +kernel
theorem de_Tu_image_30 : decode prog_1_method_18_code 30 = .ok (.bastore, 1) := by decide +kernel
theorem de_Tu_image_31 : decode prog_1_method_18_code 31 = .ok (.aload_n 0, 1) := by decide +kernel
theorem de_Tu_image_32 : decode prog_1_method_18_code 32 = .ok (.getfield 19, 3) := by decide +kernel
theorem de_Tu_image_35 : decode prog_1_method_18_code 35 = .ok (.getfield 180, 3) := by decide +kernel
theorem de_Tu_image_38 : decode prog_1_method_18_code 38 = .ok (.ireturn, 1) := by decide +kernel
set_option maxHeartbeats 4000000 in
set_option maxRecDepth 10000 in
theorem co_Tu_image {a b : Nat} {rc : Int} {f : Int → Int} {x B : Int} {w : ab_W} (hI : sg_ok B f) (t0 : tu_at a b rc w) (hR : ri_at_j a f x w) {fi : Int → Option Nat} {md : Int → Int} {ik : Nat} {g : Int → Int} {y : Int} (hab : a = 3 ∨ a = 16) (im0 : w[29]? = some (ab_ar 4 4 fi)) (md0 : w[30]? = some (ab_ai 2 4 md)) (y1 : Int) (hy1 : ab_in y1) (hfi : 0 ≤ y1 → y1 ≤ 3 → fi y1 = some ik) (hik : 55 ≤ ik) (hIm : ri_at_j ik g y w) : ab_Mt g_G g_rs mt_Tu_image 3 0 0 [ab_R 0, ab_I y1] w (fun r w2 => w2.length = w.length ∧ ((0 ≤ y1 ∧ y1 ≤ 3) ∧ r = some (ab_I (f 6)) ∧ ri_at_j a f x w2 ∧ ri_at_j ik f x w2 ∨ ¬ (0 ≤ y1 ∧ y1 ≤ 3) ∧ r = some (ab_I (-1)) ∧ w2 = w)) := by
  have ht0 := t0
  have hR0 := hR
  have hI0 := hI
  unfold tu_at at t0
  obtain ⟨sl, fs, vo, li, ra, wo, dh, da, hzz⟩ := hR
  obtain ⟨ds, dn, vw, q0, q1, q2, q3, q4, hzz⟩ := hzz
  obtain ⟨q5, q6, q7, q8, q9, q10, q11, q12, hzz⟩ := hzz
  obtain ⟨e1, e2, e3, e4, e5, e6, e7, e8, e9⟩ := hzz
  obtain ⟨i0, i1, i2, i3, i4, i5, i6, i7, hzz⟩ := sg_all hI
  obtain ⟨i8, i9, i10, i11, i12, i13, i14, i15, hzz⟩ := hzz
  obtain ⟨i16, i17⟩ := hzz
  refine ab_Mt.of rfl (Nat.le_of_ble_eq_true rfl) ?_
  show ab_Ev g_G g_rs mt_Tu_image _ _ _ 0 [some (ab_R 0), some (ab_I y1)] [] _ _
  refine ev_iload_n de_Tu_image_0 rfl rfl ?_
  refine ev_if_lt (tgt := 9) de_Tu_image_1 (by decide) (by first | omega | assumption) (fun h1 => ?_) (fun h1 => ?_)
  · skip
    refine ev_iconst de_Tu_image_9 ?_
    exact ev_ireturn de_Tu_image_10 rfl ⟨rfl, Or.inr ⟨by omega, rfl, rfl⟩⟩
  · skip
    refine ev_iload_n de_Tu_image_4 rfl rfl ?_
    refine ev_iconst de_Tu_image_5 ?_
    refine ev_icmp_lt (tgt := 11) de_Tu_image_6 (by decide) (by first | omega | assumption) (by first | omega | assumption) (fun h6 => ?_) (fun h6 => ?_)
    · skip
      refine ev_aload_n de_Tu_image_11 rfl rfl ?_
      refine ev_getfield de_Tu_image_12 t0 fl_Tu_26 rfl ?_
      refine ev_iload_n de_Tu_image_15 rfl rfl ?_
      refine ev_aaload (t := 0) de_Tu_image_16 im0 rfl (by omega) (by omega) (by omega) (hfi (by omega) (by omega)) ?_
      refine ev_aload_n de_Tu_image_17 rfl rfl ?_
      refine ev_getfield de_Tu_image_18 t0 fl_Tu_19 rfl ?_
      obtain ⟨isl, ifs, ivo, ili, ira, iwo, idh, ida, ids, idn, ivw, iq0, -⟩ := id hIm
      refine ev_virtual (ci := 5) (mc := 0) (ms := 0) (bc := 0) (bs := 0) de_Tu_image_21 (cf_Ri_copyFrom_j hI0 hR0 hIm (by omega)) kb_Tu_237 ⟨im_Ri_copyFrom, se_Ri_copyFrom⟩ rfl iq0 rfl (Nat.le_of_ble_eq_true rfl) (by decide) (Or.inl (fun r w1 h => h.2.2.2.1)) (fun r1 w1 hm1 => ?_)
      obtain ⟨rfl, hI9, hR9, hf1⟩ := hm1
      · skip
        have t0 := (hf1.2 0 (by omega)).trans t0
        have md0 := (hf1.2 30 (by omega)).trans md0
        obtain ⟨sl, fs, vo, li, ra, wo, dh, da, hzz⟩ := id hR9
        obtain ⟨ds, dn, vw, q0, q1, q2, q3, q4, hzz⟩ := hzz
        obtain ⟨q5, q6, q7, q8, q9, q10, q11, q12, hzz⟩ := hzz
        obtain ⟨e1, e2, e3, e4, e5, e6, e7, e8, e9⟩ := hzz
        refine ev_aload_n de_Tu_image_24 rfl rfl ?_
        refine ev_getfield de_Tu_image_25 t0 fl_Tu_30 rfl ?_
        refine ev_iload_n de_Tu_image_28 rfl rfl ?_
        refine ev_iconst de_Tu_image_29 ?_
        refine ev_zastore de_Tu_image_30 md0 (by first | omega | assumption) (by first | omega | assumption) (by first | omega | assumption) (Or.inr rfl) ?_
        refine ev_gen (P := fun w2 => fr_at 30 1 w1 w2) (fr_set fr_0 (by omega) (by omega)) (fun w2 hf2 => ?_)
        have t0 := (hf2.2 0 (by omega)).trans t0
        have hR9 := rj_fr hR9 hf2 (by omega)
        have hI9 := rj_fr hI9 hf2 (by omega)
        obtain ⟨sl, fs, vo, li, ra, wo, dh, da, hzz⟩ := id hR9
        obtain ⟨ds, dn, vw, q0, q1, q2, q3, q4, hzz⟩ := hzz
        obtain ⟨q5, q6, q7, q8, q9, q10, q11, q12, hzz⟩ := hzz
        obtain ⟨e1, e2, e3, e4, e5, e6, e7, e8, e9⟩ := hzz
        refine ev_aload_n de_Tu_image_31 rfl rfl ?_
        refine ev_getfield de_Tu_image_32 t0 fl_Tu_19 rfl ?_
        refine ev_getfield de_Tu_image_35 q0 fl_Tu_180 rfl ?_
        exact ev_ireturn de_Tu_image_38 rfl ⟨hf2.1.trans hf1.1, Or.inl ⟨by omega, rfl, hR9, hI9⟩⟩
    · skip
      refine ev_iconst de_Tu_image_9 ?_
      exact ev_ireturn de_Tu_image_10 rfl ⟨rfl, Or.inr ⟨by omega, rfl, rfl⟩⟩
theorem de_Tu_back_0 : decode prog_1_method_19_code 0 = .ok (.iload_n 1, 1) := by decide +kernel
theorem de_Tu_back_1 : decode prog_1_method_19_code 1 = .ok (.ifCond .lt 17, 3) := by decide +kernel
theorem de_Tu_back_4 : decode prog_1_method_19_code 4 = .ok (.iload_n 1, 1) := by decide +kernel
theorem de_Tu_back_5 : decode prog_1_method_19_code 5 = .ok (.iconst 4, 1) := by decide +kernel
theorem de_Tu_back_6 : decode prog_1_method_19_code 6 = .ok (.if_icmp .ge 12, 3) := by decide +kernel
theorem de_Tu_back_9 : decode prog_1_method_19_code 9 = .ok (.aload_n 0, 1) := by decide +kernel
theorem de_Tu_back_10 : decode prog_1_method_19_code 10 = .ok (.getfield 30, 3) := by decide +kernel
theorem de_Tu_back_13 : decode prog_1_method_19_code 13 = .ok (.iload_n 1, 1) := by decide +kernel
theorem de_Tu_back_14 : decode prog_1_method_19_code 14 = .ok (.baload, 1) := by decide +kernel
theorem de_Tu_back_15 : decode prog_1_method_19_code 15 = .ok (.ifCond .ne 5, 3) := by decide +kernel
theorem de_Tu_back_18 : decode prog_1_method_19_code 18 = .ok (.iconst (-1), 1) := by decide +kernel
theorem de_Tu_back_19 : decode prog_1_method_19_code 19 = .ok (.ireturn, 1) := by decide +kernel
theorem de_Tu_back_20 : decode prog_1_method_19_code 20 = .ok (.aload_n 0, 1) := by decide +kernel
theorem de_Tu_back_21 : decode prog_1_method_19_code 21 = .ok (.getfield 19, 3) := by decide +kernel
theorem de_Tu_back_24 : decode prog_1_method_19_code 24 = .ok (.aload_n 0, 1) := by decide +kernel
theorem de_Tu_back_25 : decode prog_1_method_19_code 25 = .ok (.getfield 26, 3) := by decide +kernel
theorem de_Tu_back_28 : decode prog_1_method_19_code 28 = .ok (.iload_n 1, 1) := by decide +kernel
theorem de_Tu_back_29 : decode prog_1_method_19_code 29 = .ok (.aaload, 1) := by decide +kernel
theorem de_Tu_back_30 : decode prog_1_method_19_code 30 = .ok (.invokevirtual 237, 3) := by decide +kernel
theorem de_Tu_back_33 : decode prog_1_method_19_code 33 = .ok (.aload_n 0, 1) := by decide +kernel
theorem de_Tu_back_34 : decode prog_1_method_19_code 34 = .ok (.getfield 43, 3) := by decide +kernel
theorem de_Tu_back_37 : decode prog_1_method_19_code 37 = .ok (.invokevirtual 99, 3) := by decide +kernel
theorem de_Tu_back_40 : decode prog_1_method_19_code 40 = .ok (.aload_n 0, 1) := by decide +kernel
theorem de_Tu_back_41 : decode prog_1_method_19_code 41 = .ok (.getfield 19, 3) := by decide +kernel
theorem de_Tu_back_44 : decode prog_1_method_19_code 44 = .ok (.getfield 180, 3) := by decide +kernel
theorem de_Tu_back_47 : decode prog_1_method_19_code 47 = .ok (.ireturn, 1) := by decide +kernel
set_option maxHeartbeats 4000000 in
set_option maxRecDepth 10000 in
theorem co_Tu_back {a b : Nat} {rc : Int} {f : Int → Int} {x B : Int} {w : ab_W} (hI : sg_ok B f) (t0 : tu_at a b rc w) (hR : ri_at_j a f x w) {fi : Int → Option Nat} {md : Int → Int} {ik : Nat} {g : Int → Int} {y : Int} (hab : a = 3 ∨ a = 16) (im0 : w[29]? = some (ab_ar 4 4 fi)) (md0 : w[30]? = some (ab_ai 2 4 md)) (y1 : Int) (hy1 : ab_in y1) (hfi : 0 ≤ y1 → y1 ≤ 3 → fi y1 = some ik) (hik : 55 ≤ ik) (hIm : ri_at_j ik g y w) {ki f1 s1 : Int → Int} {sz nx Bg : Int} (hac : acl 32 ki f1 s1 sz nx w) (hmd : 0 ≤ y1 → y1 ≤ 3 → md y1 = 0 ∨ md y1 = 1) (hIg : sg_ok Bg g) : ab_Mt g_G g_rs mt_Tu_back 3 0 0 [ab_R 0, ab_I y1] w (fun r w2 => w2.length = w.length ∧ (((0 ≤ y1 ∧ y1 ≤ 3) ∧ md y1 = 1) ∧ r = some (ab_I (g 6)) ∧ ri_at_j a g y w2 ∧ acl 32 ki f1 s1 0 nx w2 ∨ ¬ ((0 ≤ y1 ∧ y1 ≤ 3) ∧ md y1 = 1) ∧ r = some (ab_I (-1)) ∧ w2 = w)) := by
  have ht0 := t0
  have hR0 := hR
  have hI0 := hI
  unfold tu_at at t0
  obtain ⟨sl, fs, vo, li, ra, wo, dh, da, hzz⟩ := hR
  obtain ⟨ds, dn, vw, q0, q1, q2, q3, q4, hzz⟩ := hzz
  obtain ⟨q5, q6, q7, q8, q9, q10, q11, q12, hzz⟩ := hzz
  obtain ⟨e1, e2, e3, e4, e5, e6, e7, e8, e9⟩ := hzz
  obtain ⟨i0, i1, i2, i3, i4, i5, i6, i7, hzz⟩ := sg_all hI
  obtain ⟨i8, i9, i10, i11, i12, i13, i14, i15, hzz⟩ := hzz
  obtain ⟨i16, i17⟩ := hzz
  refine ab_Mt.of rfl (Nat.le_of_ble_eq_true rfl) ?_
  show ab_Ev g_G g_rs mt_Tu_back _ _ _ 0 [some (ab_R 0), some (ab_I y1)] [] _ _
  refine ev_iload_n de_Tu_back_0 rfl rfl ?_
  refine ev_if_lt (tgt := 18) de_Tu_back_1 (by decide) (by first | omega | assumption) (fun h1 => ?_) (fun h1 => ?_)
  · skip
    refine ev_iconst de_Tu_back_18 ?_
    exact ev_ireturn de_Tu_back_19 rfl ⟨rfl, Or.inr ⟨by omega, rfl, rfl⟩⟩
  · skip
    refine ev_iload_n de_Tu_back_4 rfl rfl ?_
    refine ev_iconst de_Tu_back_5 ?_
    refine ev_icmp_ge (tgt := 18) de_Tu_back_6 (by decide) (by first | omega | assumption) (by first | omega | assumption) (fun h6 => ?_) (fun h6 => ?_)
    · skip
      refine ev_iconst de_Tu_back_18 ?_
      exact ev_ireturn de_Tu_back_19 rfl ⟨rfl, Or.inr ⟨by omega, rfl, rfl⟩⟩
    · skip
      refine ev_aload_n de_Tu_back_9 rfl rfl ?_
      refine ev_getfield de_Tu_back_10 t0 fl_Tu_30 rfl ?_
      refine ev_iload_n de_Tu_back_13 rfl rfl ?_
      refine ev_zaload de_Tu_back_14 md0 (by first | omega | assumption) (by first | omega | assumption) (by first | omega | assumption) ?_
      have hm0 := hmd (by omega) (by omega)
      refine ev_if_ne (tgt := 20) de_Tu_back_15 (by decide) (by first | omega | assumption) (fun h15 => ?_) (fun h15 => ?_)
      · skip
        refine ev_aload_n de_Tu_back_20 rfl rfl ?_
        refine ev_getfield de_Tu_back_21 t0 fl_Tu_19 rfl ?_
        refine ev_aload_n de_Tu_back_24 rfl rfl ?_
        refine ev_getfield de_Tu_back_25 t0 fl_Tu_26 rfl ?_
        refine ev_iload_n de_Tu_back_28 rfl rfl ?_
        refine ev_aaload (t := 0) de_Tu_back_29 im0 rfl (by omega) (by omega) (by omega) (hfi (by omega) (by omega)) ?_
        refine ev_virtual (ci := 5) (mc := 0) (ms := 0) (bc := 0) (bs := 0) de_Tu_back_30 (cf_Ri_copyFrom_j hIg hIm hR0 (by omega)) kb_Tu_237 ⟨im_Ri_copyFrom, se_Ri_copyFrom⟩ rfl q0 rfl (Nat.le_of_ble_eq_true rfl) (by decide) (Or.inl (fun r w1 h => h.2.2.2.1)) (fun r1 w1 hm1 => ?_)
        obtain ⟨rfl, hR9, hI9, hf1⟩ := hm1
        · skip
          have t0 := (hf1.2 0 (by omega)).trans t0
          have hac := acl_fr hac hf1 (by omega)
          refine ev_aload_n de_Tu_back_33 rfl rfl ?_
          refine ev_getfield de_Tu_back_34 t0 fl_Tu_43 rfl ?_
          refine ev_virtual (ci := 0) (mc := 0) (ms := 0) (bc := 0) (bs := 0) de_Tu_back_37 (co_Ac_forget hac) kb_Tu_99 ⟨im_Ac_forget, se_Ac_forget⟩ rfl (id hac).1 rfl (Nat.le_of_ble_eq_true rfl) (by decide) (Or.inl (fun r w1 h => h.2.2.1)) (fun r1 w1 hm1 => ?_)
          obtain ⟨rfl, hac, hf2⟩ := hm1
          · skip
            have t0 := (hf2.2 0 (by omega)).trans t0
            have hR9 := rj_fr hR9 hf2 (by omega)
            obtain ⟨sl, fs, vo, li, ra, wo, dh, da, hzz⟩ := id hR9
            obtain ⟨ds, dn, vw, q0, q1, q2, q3, q4, hzz⟩ := hzz
            obtain ⟨q5, q6, q7, q8, q9, q10, q11, q12, hzz⟩ := hzz
            obtain ⟨e1, e2, e3, e4, e5, e6, e7, e8, e9⟩ := hzz
            refine ev_aload_n de_Tu_back_40 rfl rfl ?_
            refine ev_getfield de_Tu_back_41 t0 fl_Tu_19 rfl ?_
            refine ev_getfield de_Tu_back_44 q0 fl_Tu_180 rfl ?_
            exact ev_ireturn de_Tu_back_47 rfl ⟨hf2.1.trans hf1.1, Or.inl ⟨by omega, rfl, hR9, hac⟩⟩
      · skip
        refine ev_iconst de_Tu_back_18 ?_
        exact ev_ireturn de_Tu_back_19 rfl ⟨rfl, Or.inr ⟨by omega, rfl, rfl⟩⟩
