/-! TurnRing's calls that change it, exactly -/
theorem acl_fr {c o n : Nat} {ki f1 s1 : Int → Int} {sz nx : Int} {w w2 : ab_W} (h : acl c ki f1 s1 sz nx w) (hf : fr_at o n w w2) (hd : o + n ≤ c ∨ c + 4 ≤ o) : acl c ki f1 s1 sz nx w2 := by
  obtain ⟨h0, h1, h2, h3⟩ := h
  exact ⟨(hf.2 _ (by omega)).trans h0, (hf.2 _ (by omega)).trans h1, (hf.2 _ (by omega)).trans h2, (hf.2 _ (by omega)).trans h3⟩
theorem rj_ce {o : Nat} {f : Int → Int} {x : Int} {w w2 : ab_W} (h : ri_at_j o f x w) (hf : ∀ p, o ≤ p → p < o + 13 → w2[p]? = w[p]?) : ri_at_j o f x w2 := by
  obtain ⟨sl, fs, vo, li, ra, wo, dh, da, hzz⟩ := h
  obtain ⟨ds, dn, vw, q0, q1, q2, q3, q4, hzz⟩ := hzz
  obtain ⟨q5, q6, q7, q8, q9, q10, q11, q12, e⟩ := hzz
  exact ⟨sl, fs, vo, li, ra, wo, dh, da, ds, dn, vw, (hf _ (by omega) (by omega)).trans q0, (hf _ (by omega) (by omega)).trans q1, (hf _ (by omega) (by omega)).trans q2, (hf _ (by omega) (by omega)).trans q3, (hf _ (by omega) (by omega)).trans q4, (hf _ (by omega) (by omega)).trans q5, (hf _ (by omega) (by omega)).trans q6, (hf _ (by omega) (by omega)).trans q7, (hf _ (by omega) (by omega)).trans q8, (hf _ (by omega) (by omega)).trans q9, (hf _ (by omega) (by omega)).trans q10, (hf _ (by omega) (by omega)).trans q11, (hf _ (by omega) (by omega)).trans q12, e⟩
theorem rj_fr {o c n : Nat} {f : Int → Int} {x : Int} {w w2 : ab_W} (h : ri_at_j o f x w) (hf : fr_at c n w w2) (hd : o + 13 ≤ c ∨ c + n ≤ o) : ri_at_j o f x w2 := rj_ce h (fun p h0 h1 => hf.2 p (by omega))
theorem rj_re_up {f g sl fs vo li ra ra2 wo wo2 dh da ds dn dh2 da2 ds2 dn2 : Int → Int} {vw : Int → Int64} (re : ri_re_j f sl fs vo li ra wo dh da ds dn vw) (h1 : f 1 ≤ 7) (h2 : f 2 ≤ 12) (hj : ∀ j, (1 ≤ j ∧ j < 4) ∨ (46 ≤ j ∧ j < 150) → g j = f j) (hr : ∀ k, 0 ≤ k → k < 24 → ra2 k = g (10 + k)) (hw : ∀ k, 0 ≤ k → k < 12 → wo2 k = g (34 + k)) (hd : ∀ k, 0 ≤ k → k < g 190 → (0 ≤ dh2 k ∧ dh2 k ≤ 6) ∧ (0 ≤ da2 k ∧ da2 k ≤ 99) ∧ (0 ≤ ds2 k ∧ ds2 k ≤ 4) ∧ (0 ≤ dn2 k ∧ dn2 k ≤ 1)) (hd2 : ∀ k, 0 ≤ k → k < g 190 → dh2 k = g (150 + 4 * k) ∧ da2 k = g (150 + 4 * k + 1) ∧ ds2 k = g (150 + 4 * k + 2) ∧ dn2 k = g (150 + 4 * k + 3)) : ri_re_j g sl fs vo li ra2 wo2 dh2 da2 ds2 dn2 vw := by
  obtain ⟨e1, e2, e3, e4, e5, e6, e7, e8, e9⟩ := re
  have g1 := hj 1 (by omega)
  refine ⟨by rw [g1]; exact e1, fun k a b => ?_, by rw [g1]; exact e3, fun k a b => ?_, hr, hw, fun d h a b c e => ?_, hd, hd2⟩
  · rw [g1] at b
    rw [hj (46 + k) (by omega), hj (143 + k) (by omega), hj (53 + k) (by omega)]
    exact e2 k a b
  · rw [g1] at b
    rw [hj (60 + k) (by omega)]
    exact e4 k a b
  · have es : sp_sortsAt g d h = sp_sortsAt f d h := by
      unfold sp_sortsAt
      rw [hj 2 (by omega)]
      exact sp_sorts_c d h _ (fun j x1 x2 => hj j (by omega))
    rw [es]
    exact e7 d h a b c e
theorem rj_rate {o : Nat} {f : Int → Int} {x : Int} {w : ab_W} (h : ri_at_j o f x w) (h1 : f 1 ≤ 7) (h2 : f 2 ≤ 12) {ra : Int → Int} (q : w[o + 6]? = some (ab_ai 0 24 ra)) {y v : Int} (hy : 0 ≤ y) (hy2 : y < 24) : ri_at_j o (ab_up f (10 + y) v) x (w.set (o + 6) (ab_ai 0 24 (ab_up ra y v))) := by
  obtain ⟨sl, fs, vo, li, ra', wo, dh, da, ds, dn, vw, hC, re⟩ := ri_un_j h
  have er : ra' = ra := by
    have z := hC.2.2.2.2.2.2.1
    rw [q] at z
    injection z with z
    injection z with z
    injection z with z z2
    injection z2 with z2 z3
    exact z3.symm
  subst er
  have u : ∀ j, ¬ j = 10 + y → ab_up f (10 + y) v j = f j := fun j hj => ab_upn _ _ hj
  refine ri_mk_j (u 0 (by omega)) (u 4 (by omega)) (u 5 (by omega)) (u 6 (by omega)) (u 7 (by omega)) (u 8 (by omega)) (u 1 (by omega)) (u 2 (by omega)) (u 3 (by omega)) (u 190 (by omega)) (rgc_ra hC) (rj_re_up re h1 h2 (fun j hj => u j (by omega)) (fun k a b => ?_) (fun k a b => ?_) (fun k a b => ?_) (fun k a b => ?_))
  · by_cases z : k = y
    · subst z
      rw [ab_upe, ab_upe]
    · rw [ab_upn _ _ z, u _ (by omega)]
      exact re.2.2.2.2.1 k a b
  · rw [u _ (by omega)]
    exact re.2.2.2.2.2.1 k a b
  · rw [u _ (by omega)] at b
    exact re.2.2.2.2.2.2.2.1 k a b
  · rw [u _ (by omega)] at b
    rw [u _ (by omega), u _ (by omega), u _ (by omega), u _ (by omega)]
    exact re.2.2.2.2.2.2.2.2 k a b
theorem rj_stp {o : Nat} {f : Int → Int} {x : Int} {w : ab_W} (h : ri_at_j o f x w) (h1 : f 1 ≤ 7) (h2 : f 2 ≤ 12) (s v : Int) : ri_at_j o (ab_up (ab_up f 7 s) 8 v) x (w.set o (ab_ob 5 [ab_I (f 0), ab_I (f 4), ab_I (f 5), ab_I (f 6), ab_I s, ab_I v, ab_I x, ab_I (f 1), ab_I (f 2), ab_I (f 3), ab_R (o + 1), ab_R (o + 2), ab_R (o + 3), ab_R (o + 4), ab_R (o + 5), ab_R (o + 6), ab_R (o + 7), ab_R (o + 8)])) := by
  obtain ⟨sl, fs, vo, li, ra, wo, dh, da, ds, dn, vw, hC, re⟩ := ri_un_j h
  have u : ∀ j, ¬ j = 7 → ¬ j = 8 → ab_up (ab_up f 7 s) 8 v j = f j := fun j hj h8 => (ab_upn _ _ h8).trans (ab_upn _ _ hj)
  refine ri_mk_j (u 0 (by omega) (by omega)) (u 4 (by omega) (by omega)) (u 5 (by omega) (by omega)) (u 6 (by omega) (by omega)) ((ab_upn _ _ (by decide)).trans (ab_upe _ _ _)) (ab_upe _ _ _) (u 1 (by omega) (by omega)) (u 2 (by omega) (by omega)) (u 3 (by omega) (by omega)) (u 190 (by omega) (by omega)) (rgc_o hC) (rj_re_up re h1 h2 (fun j hj => u j (by omega) (by omega)) (fun k a b => ?_) (fun k a b => ?_) (fun k a b => ?_) (fun k a b => ?_))
  · rw [u _ (by omega) (by omega)]
    exact re.2.2.2.2.1 k a b
  · rw [u _ (by omega) (by omega)]
    exact re.2.2.2.2.2.1 k a b
  · rw [u _ (by omega) (by omega)] at b
    exact re.2.2.2.2.2.2.2.1 k a b
  · rw [u _ (by omega) (by omega)] at b
    rw [u _ (by omega) (by omega), u _ (by omega) (by omega), u _ (by omega) (by omega), u _ (by omega) (by omega)]
    exact re.2.2.2.2.2.2.2.2 k a b
def cs_ua (k p q : Int) (f : Int → Int) : Int → Int := if k = 0 then cs_back p q f else if k = 1 then ab_up f (10 + p) q else if k = 2 then cs_swap p q f else ab_up (ab_up f 7 0) 8 (f 8 - 1)
def ac_v (h k p q : Int) : Prop := (k = 0 ∧ -3 ≤ p ∧ p ≤ 3 ∧ (q = 0 ∨ q = 1)) ∨ (k = 1 ∧ (0 ≤ p ∧ p ≤ 23) ∧ (-3 ≤ q ∧ q ≤ 3)) ∨ (k = 2 ∧ (0 ≤ p ∧ p < h) ∧ (0 ≤ q ∧ q < h)) ∨ (k = 3 ∧ p = 0 ∧ q = 0)
theorem de_Tu_hour_0 : decode prog_1_method_11_code 0 = .ok (.aload_n 0, 1) := by decide +kernel
theorem de_Tu_hour_1 : decode prog_1_method_11_code 1 = .ok (.getfield 19, 3) := by decide +kernel
theorem de_Tu_hour_4 : decode prog_1_method_11_code 4 = .ok (.getfield 152, 3) := by decide +kernel
theorem de_Tu_hour_7 : decode prog_1_method_11_code 7 = .ok (.ifCond .eq 17, 3) := by decide +kernel
theorem de_Tu_hour_10 : decode prog_1_method_11_code 10 = .ok (.aload_n 0, 1) := by decide +kernel
theorem de_Tu_hour_11 : decode prog_1_method_11_code 11 = .ok (.getfield 19, 3) := by decide +kernel
theorem de_Tu_hour_14 : decode prog_1_method_11_code 14 = .ok (.iconst 1, 1) := by decide +kernel
theorem de_Tu_hour_15 : decode prog_1_method_11_code 15 = .ok (.invokevirtual 209, 3) := by decide +kernel
theorem de_Tu_hour_18 : decode prog_1_method_11_code 18 = .ok (.invokestatic 212, 3) := by decide +kernel
theorem de_Tu_hour_21 : decode prog_1_method_11_code 21 = .ok (.if_icmp .le 5, 3) := by decide +kernel
theorem de_Tu_hour_24 : decode prog_1_method_11_code 24 = .ok (.iconst (-1), 1) := by decide +kernel
theorem de_Tu_hour_25 : decode prog_1_method_11_code 25 = .ok (.ireturn, 1) := by decide +kernel
theorem de_Tu_hour_26 : decode prog_1_method_11_code 26 = .ok (.aload_n 0, 1) := by decide +kernel
theorem de_Tu_hour_27 : decode prog_1_method_11_code 27 = .ok (.getfield 19, 3) := by decide +kernel
theorem de_Tu_hour_30 : decode prog_1_method_11_code 30 = .ok (.getfield 186, 3) := by decide +kernel
theorem de_Tu_hour_33 : decode prog_1_method_11_code 33 = .ok (.istore_n 1, 1) := by decide +kernel
theorem de_Tu_hour_34 : decode prog_1_method_11_code 34 = .ok (.aload_n 0, 1) := by decide +kernel
theorem de_Tu_hour_35 : decode prog_1_method_11_code 35 = .ok (.getfield 19, 3) := by decide +kernel
theorem de_Tu_hour_38 : decode prog_1_method_11_code 38 = .ok (.aload_n 0, 1) := by decide +kernel
theorem de_Tu_hour_39 : decode prog_1_method_11_code 39 = .ok (.getfield 19, 3) := by decide +kernel
theorem de_Tu_hour_42 : decode prog_1_method_11_code 42 = .ok (.getfield 165, 3) := by decide +kernel
theorem de_Tu_hour_45 : decode prog_1_method_11_code 45 = .ok (.aload_n 0, 1) := by decide +kernel
theorem de_Tu_hour_46 : decode prog_1_method_11_code 46 = .ok (.getfield 19, 3) := by decide +kernel
theorem de_Tu_hour_49 : decode prog_1_method_11_code 49 = .ok (.getfield 136, 3) := by decide +kernel
theorem de_Tu_hour_52 : decode prog_1_method_11_code 52 = .ok (.iaload, 1) := by decide +kernel
theorem de_Tu_hour_53 : decode prog_1_method_11_code 53 = .ok (.invokevirtual 215, 3) := by decide +kernel
theorem de_Tu_hour_56 : decode prog_1_method_11_code 56 = .ok (.istore_n 2, 1) := by decide +kernel
theorem de_Tu_hour_57 : decode prog_1_method_11_code 57 = .ok (.aload_n 0, 1) := by decide +kernel
theorem de_Tu_hour_58 : decode prog_1_method_11_code 58 = .ok (.getfield 43, 3) := by decide +kernel
theorem de_Tu_hour_61 : decode prog_1_method_11_code 61 = .ok (.iconst 0, 1) := by decide +kernel
theorem de_Tu_hour_62 : decode prog_1_method_11_code 62 = .ok (.iload_n 2, 1) := by decide +kernel
theorem de_Tu_hour_63 : decode prog_1_method_11_code 63 = .ok (.iload_n 1, 1) := by decide +kernel
theorem de_Tu_hour_64 : decode prog_1_method_11_code 64 = .ok (.ifCond .eq 7, 3) := by decide +kernel
theorem de_Tu_hour_67 : decode prog_1_method_11_code 67 = .ok (.iconst 1, 1) := by decide +kernel
theorem de_Tu_hour_68 : decode prog_1_method_11_code 68 = .ok (.goto 4, 3) := by decide +kernel
theorem de_Tu_hour_71 : decode prog_1_method_11_code 71 = .ok (.iconst 0, 1) := by decide +kernel
theorem de_Tu_hour_72 : decode prog_1_method_11_code 72 = .ok (.invokevirtual 218, 3) := by decide +kernel
theorem de_Tu_hour_75 : decode prog_1_method_11_code 75 = .ok (.aload_n 0, 1) := by decide +kernel
theorem de_Tu_hour_76 : decode prog_1_method_11_code 76 = .ok (.getfield 19, 3) := by decide +kernel
theorem de_Tu_hour_79 : decode prog_1_method_11_code 79 = .ok (.getfield 177, 3) := by decide +kernel
theorem de_Tu_hour_82 : decode prog_1_method_11_code 82 = .ok (.ireturn, 1) := by decide +kernel
set_option maxHeartbeats 4000000 in
set_option maxRecDepth 10000 in
theorem co_Tu_hour {a b : Nat} {rc : Int} {f : Int → Int} {x B : Int} {w : ab_W} (hI : sg_ok B f) (t0 : tu_at a b rc w) (hR : ri_at_j a f x w) {ki f1 s1 : Int → Int} {sz nx : Int} (hab : a = 3 ∨ a = 16) (hac : acl 32 ki f1 s1 sz nx w) (hnx : 0 ≤ nx ∧ nx < 20) (hsz : 0 ≤ sz ∧ sz ≤ 20) : ab_Mt g_G g_rs mt_Tu_hour 2 0 0 [ab_R 0] w (fun r w2 => w2.length = w.length ∧ ((f 0 = 1 ∧ 24 * f 6 + f 5 + 1 < 24000) ∧ r = some (ab_I ((cs_passAt (sp_rateNow f) f) 4)) ∧ ri_at_j a (cs_passAt (sp_rateNow f) f) x w2 ∧ acl 32 (ab_up ki nx 0) (ab_up f1 nx (sp_n f (sp_rateNow f))) (ab_up s1 nx (f 7)) (if 20 < sz + 1 then 20 else sz + 1) ((nx + 1) % 20) w2 ∨ ¬ (f 0 = 1 ∧ 24 * f 6 + f 5 + 1 < 24000) ∧ r = some (ab_I (-1)) ∧ w2 = w)) := by
  have ht0 := t0
  have hl : w.length = w.length := rfl
  have hR0 := hR
  have hI0 := hI
  unfold tu_at at t0
  obtain ⟨sl, fs, vo, li, ra, wo, dh, da, hzz⟩ := hR
  obtain ⟨ds, dn, vw, q0, q1, q2, q3, q4, hzz⟩ := hzz
  obtain ⟨q5, q6, q7, q8, q9, q10, q11, q12, hzz⟩ := hzz
  obtain ⟨e1, e2, e3, e4, e5, e6, e7, e8, e9⟩ := hzz
  obtain ⟨i0, i1, i2, i3, i4, i5, i6, i7, hzz⟩ := sg_all hI
  obtain ⟨i8, i9, i10, i11, i12, i13, i14, i15, hzz⟩ := hzz
  obtain ⟨i16, i17⟩ := hzz
  obtain ⟨c0, c1, c2, c3⟩ := id hac
  refine ab_Mt.of rfl (Nat.le_of_ble_eq_true rfl) ?_
  show ab_Ev g_G g_rs mt_Tu_hour _ _ _ 0 [some (ab_R 0), none, none] [] _ _
  refine ev_aload_n de_Tu_hour_0 rfl rfl ?_
  refine ev_getfield de_Tu_hour_1 t0 fl_Tu_19 rfl ?_
  refine ev_getfield de_Tu_hour_4 q0 fl_Tu_152 rfl ?_
  refine ev_if_eq (tgt := 24) de_Tu_hour_7 (by decide) (by first | omega | assumption) (fun h7 => ?_) (fun h7 => ?_)
  · skip
    refine ev_iconst de_Tu_hour_24 ?_
    exact ev_ireturn de_Tu_hour_25 rfl ⟨rfl, Or.inr ⟨by omega, rfl, rfl⟩⟩
  · skip
    refine ev_aload_n de_Tu_hour_10 rfl rfl ?_
    refine ev_getfield de_Tu_hour_11 t0 fl_Tu_19 rfl ?_
    refine ev_iconst de_Tu_hour_14 ?_
    refine ev_vv (ci := 5) de_Tu_hour_15 (co_Ri_hoursBehind_j hI0 hR0 _) kb_Tu_209 ⟨im_Ri_hoursBehind, se_Ri_hoursBehind⟩ rfl q0 rfl (Nat.le_of_ble_eq_true rfl) (by decide) rfl ?_
    refine ev_sv de_Tu_hour_18 (co_Tu_lastHour _) kb_Tu_212 sc_Tu_lastHour rfl (Nat.le_of_ble_eq_true rfl) (by decide) rfl ?_
    refine ev_icmp_le (tgt := 26) de_Tu_hour_21 (by decide) (by first | omega | assumption) (by first | omega | assumption) (fun h21 => ?_) (fun h21 => ?_)
    · skip
      have z5 : ra (f 5) = sp_rateNow f := e5 (f 5) (by omega) (by omega)
      have zr := i9 (10 + f 5) (by omega) (by omega)
      have zr2 : -3 ≤ sp_rateNow f ∧ sp_rateNow f ≤ 3 := zr
      refine ev_aload_n de_Tu_hour_26 rfl rfl ?_
      refine ev_getfield de_Tu_hour_27 t0 fl_Tu_19 rfl ?_
      refine ev_getfield de_Tu_hour_30 q0 fl_Tu_186 rfl ?_
      refine ev_istore_n (l' := [_, _, _]) de_Tu_hour_33 rfl (Nat.le_of_ble_eq_true rfl) rfl ?_
      refine ev_aload_n de_Tu_hour_34 rfl rfl ?_
      refine ev_getfield de_Tu_hour_35 t0 fl_Tu_19 rfl ?_
      refine ev_aload_n de_Tu_hour_38 rfl rfl ?_
      refine ev_getfield de_Tu_hour_39 t0 fl_Tu_19 rfl ?_
      refine ev_getfield de_Tu_hour_42 q0 fl_Tu_165 rfl ?_
      refine ev_aload_n de_Tu_hour_45 rfl rfl ?_
      refine ev_getfield de_Tu_hour_46 t0 fl_Tu_19 rfl ?_
      refine ev_getfield de_Tu_hour_49 q0 fl_Tu_136 rfl ?_
      refine ev_iaload de_Tu_hour_52 q6 (by first | omega | assumption) (by first | omega | assumption) (by first | omega | assumption) ?_
      refine ev_top (congrArg Sum.inl z5) ?_
      refine ev_virtual (ci := 5) (mc := 0) (ms := 0) (bc := 0) (bs := 0) de_Tu_hour_53 (co_Ri_passHour_j hI0 hR0 _ (by omega) (by omega)) kb_Tu_215 ⟨im_Ri_passHour, se_Ri_passHour⟩ rfl q0 rfl (Nat.le_of_ble_eq_true rfl) (by decide) (Or.inl (fun r w1 h => h.2.2.1)) (fun r1 w1 hm1 => ?_)
      obtain ⟨rfl, hR, hf1⟩ := hm1
      · skip
        have hl := hf1.1.trans hl
        have t0 := (hf1.2 0 (by omega)).trans t0
        have hac := acl_fr hac hf1 (by omega)
        have hR0 := hR
        obtain ⟨sl, fs, vo, li, ra, wo, dh, da, hzz⟩ := hR
        obtain ⟨ds, dn, vw, q0, q1, q2, q3, q4, hzz⟩ := hzz
        obtain ⟨q5, q6, q7, q8, q9, q10, q11, q12, hzz⟩ := hzz
        obtain ⟨e1, e2, e3, e4, e5, e6, e7, e8, e9⟩ := hzz
        refine ev_istore_n (l' := [_, _, _]) de_Tu_hour_56 rfl (Nat.le_of_ble_eq_true rfl) rfl ?_
        refine ev_aload_n de_Tu_hour_57 rfl rfl ?_
        refine ev_getfield de_Tu_hour_58 t0 fl_Tu_43 rfl ?_
        refine ev_iconst de_Tu_hour_61 ?_
        refine ev_iload_n de_Tu_hour_62 rfl rfl ?_
        refine ev_iload_n de_Tu_hour_63 rfl rfl ?_
        refine ev_if_eq (tgt := 71) de_Tu_hour_64 (by decide) (by first | omega | assumption) (fun h64 => ?_) (fun h64 => ?_)
        · skip
          refine ev_iconst de_Tu_hour_71 ?_
          refine ev_virtual (ci := 0) (mc := 0) (ms := 0) (bc := 0) (bs := 0) de_Tu_hour_72 (co_Ac_keep hac (by omega) (by omega) (by omega) (by omega) _ _ _) kb_Tu_218 ⟨im_Ac_keep, se_Ac_keep⟩ rfl (id hac).1 rfl (Nat.le_of_ble_eq_true rfl) (by decide) (Or.inl (fun r w1 h => h.2.2.1)) (fun r1 w1 hm1 => ?_)
          obtain ⟨rfl, hac, hf1⟩ := hm1
          · skip
            have hl := hf1.1.trans hl
            have t0 := (hf1.2 0 (by omega)).trans t0
            have hR0 := rj_fr hR0 hf1 (by omega)
            have hR := hR0
            obtain ⟨sl, fs, vo, li, ra, wo, dh, da, hzz⟩ := hR
            obtain ⟨ds, dn, vw, q0, q1, q2, q3, q4, hzz⟩ := hzz
            obtain ⟨q5, q6, q7, q8, q9, q10, q11, q12, hzz⟩ := hzz
            obtain ⟨e1, e2, e3, e4, e5, e6, e7, e8, e9⟩ := hzz
            refine ev_aload_n de_Tu_hour_75 rfl rfl ?_
            refine ev_getfield de_Tu_hour_76 t0 fl_Tu_19 rfl ?_
            refine ev_getfield de_Tu_hour_79 q0 fl_Tu_177 rfl ?_
            exact ev_ireturn de_Tu_hour_82 rfl ⟨hl, Or.inl ⟨by omega, rfl, hR0, (by first | (rw [show f 7 = 1 by omega]; exact hac) | (rw [show f 7 = 0 by omega]; exact hac))⟩⟩
        · skip
          refine ev_iconst de_Tu_hour_67 ?_
          refine ev_goto (tgt := 72) de_Tu_hour_68 (by decide) ?_
          refine ev_virtual (ci := 0) (mc := 0) (ms := 0) (bc := 0) (bs := 0) de_Tu_hour_72 (co_Ac_keep hac (by omega) (by omega) (by omega) (by omega) _ _ _) kb_Tu_218 ⟨im_Ac_keep, se_Ac_keep⟩ rfl (id hac).1 rfl (Nat.le_of_ble_eq_true rfl) (by decide) (Or.inl (fun r w1 h => h.2.2.1)) (fun r1 w1 hm1 => ?_)
          obtain ⟨rfl, hac, hf1⟩ := hm1
          · skip
            have hl := hf1.1.trans hl
            have t0 := (hf1.2 0 (by omega)).trans t0
            have hR0 := rj_fr hR0 hf1 (by omega)
            have hR := hR0
            obtain ⟨sl, fs, vo, li, ra, wo, dh, da, hzz⟩ := hR
            obtain ⟨ds, dn, vw, q0, q1, q2, q3, q4, hzz⟩ := hzz
            obtain ⟨q5, q6, q7, q8, q9, q10, q11, q12, hzz⟩ := hzz
            obtain ⟨e1, e2, e3, e4, e5, e6, e7, e8, e9⟩ := hzz
            refine ev_aload_n de_Tu_hour_75 rfl rfl ?_
            refine ev_getfield de_Tu_hour_76 t0 fl_Tu_19 rfl ?_
            refine ev_getfield de_Tu_hour_79 q0 fl_Tu_177 rfl ?_
            exact ev_ireturn de_Tu_hour_82 rfl ⟨hl, Or.inl ⟨by omega, rfl, hR0, (by first | (rw [show f 7 = 1 by omega]; exact hac) | (rw [show f 7 = 0 by omega]; exact hac))⟩⟩
    · skip
      refine ev_iconst de_Tu_hour_24 ?_
      exact ev_ireturn de_Tu_hour_25 rfl ⟨rfl, Or.inr ⟨by omega, rfl, rfl⟩⟩
theorem de_Tu_rate_0 : decode prog_1_method_12_code 0 = .ok (.aload_n 0, 1) := by decide +kernel
theorem de_Tu_rate_1 : decode prog_1_method_12_code 1 = .ok (.getfield 19, 3) := by decide +kernel
theorem de_Tu_rate_4 : decode prog_1_method_12_code 4 = .ok (.getfield 152, 3) := by decide +kernel
theorem de_Tu_rate_7 : decode prog_1_method_12_code 7 = .ok (.ifCond .eq 21, 3) := by decide +kernel
theorem de_Tu_rate_10 : decode prog_1_method_12_code 10 = .ok (.iload_n 1, 1) := by decide +kernel
theorem de_Tu_rate_11 : decode prog_1_method_12_code 11 = .ok (.invokestatic 162, 3) := by decide +kernel
theorem de_Tu_rate_14 : decode prog_1_method_12_code 14 = .ok (.ifCond .eq 14, 3) := by decide +kernel
theorem de_Tu_rate_17 : decode prog_1_method_12_code 17 = .ok (.iload_n 2, 1) := by decide +kernel
theorem de_Tu_rate_18 : decode prog_1_method_12_code 18 = .ok (.bipush (-3), 2) := by decide +kernel
theorem de_Tu_rate_20 : decode prog_1_method_12_code 20 = .ok (.if_icmp .lt 8, 3) := by decide +kernel
theorem de_Tu_rate_23 : decode prog_1_method_12_code 23 = .ok (.iload_n 2, 1) := by decide +kernel
theorem de_Tu_rate_24 : decode prog_1_method_12_code 24 = .ok (.iconst 3, 1) := by decide +kernel
theorem de_Tu_rate_25 : decode prog_1_method_12_code 25 = .ok (.if_icmp .le 7, 3) := by decide +kernel
theorem de_Tu_rate_28 : decode prog_1_method_12_code 28 = .ok (.sipush (-1000), 3) := by decide +kernel
theorem de_Tu_rate_31 : decode prog_1_method_12_code 31 = .ok (.ireturn, 1) := by decide +kernel
theorem de_Tu_rate_32 : decode prog_1_method_12_code 32 = .ok (.aload_n 0, 1) := by decide +kernel
theorem de_Tu_rate_33 : decode prog_1_method_12_code 33 = .ok (.getfield 19, 3) := by decide +kernel
theorem de_Tu_rate_36 : decode prog_1_method_12_code 36 = .ok (.getfield 165, 3) := by decide +kernel
theorem de_Tu_rate_39 : decode prog_1_method_12_code 39 = .ok (.iload_n 1, 1) := by decide +kernel
theorem de_Tu_rate_40 : decode prog_1_method_12_code 40 = .ok (.iaload, 1) := by decide +kernel
theorem de_Tu_rate_41 : decode prog_1_method_12_code 41 = .ok (.istore_n 3, 1) := by decide +kernel
theorem de_Tu_rate_42 : decode prog_1_method_12_code 42 = .ok (.aload_n 0, 1) := by decide +kernel
theorem de_Tu_rate_43 : decode prog_1_method_12_code 43 = .ok (.getfield 19, 3) := by decide +kernel
theorem de_Tu_rate_46 : decode prog_1_method_12_code 46 = .ok (.getfield 165, 3) := by decide +kernel
theorem de_Tu_rate_49 : decode prog_1_method_12_code 49 = .ok (.iload_n 1, 1) := by decide +kernel
theorem de_Tu_rate_50 : decode prog_1_method_12_code 50 = .ok (.iload_n 2, 1) := by decide +kernel
theorem de_Tu_rate_51 : decode prog_1_method_12_code 51 = .ok (.iastore, 1) := by decide +kernel
theorem de_Tu_rate_52 : decode prog_1_method_12_code 52 = .ok (.aload_n 0, 1) := by decide +kernel
theorem de_Tu_rate_53 : decode prog_1_method_12_code 53 = .ok (.getfield 43, 3) := by decide +kernel
theorem de_Tu_rate_56 : decode prog_1_method_12_code 56 = .ok (.iconst 1, 1) := by decide +kernel
theorem de_Tu_rate_57 : decode prog_1_method_12_code 57 = .ok (.iload_n 1, 1) := by decide +kernel
theorem de_Tu_rate_58 : decode prog_1_method_12_code 58 = .ok (.iload_n 3, 1) := by decide +kernel
theorem de_Tu_rate_59 : decode prog_1_method_12_code 59 = .ok (.invokevirtual 218, 3) := by decide +kernel
theorem de_Tu_rate_62 : decode prog_1_method_12_code 62 = .ok (.iload_n 3, 1) := by decide +kernel
theorem de_Tu_rate_63 : decode prog_1_method_12_code 63 = .ok (.ireturn, 1) := by decide +kernel
set_option maxHeartbeats 4000000 in
set_option maxRecDepth 10000 in
theorem co_Tu_rate {a b : Nat} {rc : Int} {f : Int → Int} {x B : Int} {w : ab_W} (hI : sg_ok B f) (t0 : tu_at a b rc w) (hR : ri_at_j a f x w) {ki f1 s1 : Int → Int} {sz nx : Int} (hab : a = 3 ∨ a = 16) (hac : acl 32 ki f1 s1 sz nx w) (hnx : 0 ≤ nx ∧ nx < 20) (hsz : 0 ≤ sz ∧ sz ≤ 20) (y1 : Int) (hy1 : ab_in y1) (y2 : Int) (hy2 : ab_in y2) : ab_Mt g_G g_rs mt_Tu_rate 2 0 0 [ab_R 0, ab_I y1, ab_I y2] w (fun r w2 => w2.length = w.length ∧ ((f 0 = 1 ∧ (0 ≤ y1 ∧ y1 ≤ 23) ∧ (-3 ≤ y2 ∧ y2 ≤ 3)) ∧ r = some (ab_I (f (10 + y1))) ∧ ri_at_j a (ab_up f (10 + y1) y2) x w2 ∧ acl 32 (ab_up ki nx 1) (ab_up f1 nx (y1)) (ab_up s1 nx (f (10 + y1))) (if 20 < sz + 1 then 20 else sz + 1) ((nx + 1) % 20) w2 ∨ ¬ (f 0 = 1 ∧ (0 ≤ y1 ∧ y1 ≤ 23) ∧ (-3 ≤ y2 ∧ y2 ≤ 3)) ∧ r = some (ab_I (-1000)) ∧ w2 = w)) := by
  have ht0 := t0
  have hl : w.length = w.length := rfl
  have hR0 := hR
  have hI0 := hI
  unfold tu_at at t0
  obtain ⟨sl, fs, vo, li, ra, wo, dh, da, hzz⟩ := hR
  obtain ⟨ds, dn, vw, q0, q1, q2, q3, q4, hzz⟩ := hzz
  obtain ⟨q5, q6, q7, q8, q9, q10, q11, q12, hzz⟩ := hzz
  obtain ⟨e1, e2, e3, e4, e5, e6, e7, e8, e9⟩ := hzz
  obtain ⟨i0, i1, i2, i3, i4, i5, i6, i7, hzz⟩ := sg_all hI
  obtain ⟨i8, i9, i10, i11, i12, i13, i14, i15, hzz⟩ := hzz
  obtain ⟨i16, i17⟩ := hzz
  obtain ⟨c0, c1, c2, c3⟩ := id hac
  refine ab_Mt.of rfl (Nat.le_of_ble_eq_true rfl) ?_
  show ab_Ev g_G g_rs mt_Tu_rate _ _ _ 0 [some (ab_R 0), some (ab_I y1), some (ab_I y2), none] [] _ _
  refine ev_aload_n de_Tu_rate_0 rfl rfl ?_
  refine ev_getfield de_Tu_rate_1 t0 fl_Tu_19 rfl ?_
  refine ev_getfield de_Tu_rate_4 q0 fl_Tu_152 rfl ?_
  refine ev_if_eq (tgt := 28) de_Tu_rate_7 (by decide) (by first | omega | assumption) (fun h7 => ?_) (fun h7 => ?_)
  · skip
    refine ev_sipush de_Tu_rate_28 rfl ?_
    exact ev_ireturn de_Tu_rate_31 rfl ⟨rfl, Or.inr ⟨by first | omega | (intro z; rw [if_pos z.2.1] at h14; omega), rfl, rfl⟩⟩
  · skip
    refine ev_iload_n de_Tu_rate_10 rfl rfl ?_
    refine ev_sv de_Tu_rate_11 (co_Tu_isHour _ _ (by assumption)) kb_Tu_162 sc_Tu_isHour rfl (Nat.le_of_ble_eq_true rfl) (by decide) rfl ?_
    refine ev_if_eq (tgt := 28) de_Tu_rate_14 (by decide) (by first | omega | (split <;> decide)) (fun h14 => ?_) (fun h14 => ?_)
    · skip
      refine ev_sipush de_Tu_rate_28 rfl ?_
      exact ev_ireturn de_Tu_rate_31 rfl ⟨rfl, Or.inr ⟨by first | omega | (intro z; rw [if_pos z.2.1] at h14; omega), rfl, rfl⟩⟩
    · skip
      refine ev_iload_n de_Tu_rate_17 rfl rfl ?_
      refine ev_bipush de_Tu_rate_18 rfl ?_
      refine ev_icmp_lt (tgt := 28) de_Tu_rate_20 (by decide) (by first | omega | assumption) (by first | omega | assumption) (fun h20 => ?_) (fun h20 => ?_)
      · skip
        refine ev_sipush de_Tu_rate_28 rfl ?_
        exact ev_ireturn de_Tu_rate_31 rfl ⟨rfl, Or.inr ⟨by first | omega | (intro z; rw [if_pos z.2.1] at h14; omega), rfl, rfl⟩⟩
      · skip
        refine ev_iload_n de_Tu_rate_23 rfl rfl ?_
        refine ev_iconst de_Tu_rate_24 ?_
        refine ev_icmp_le (tgt := 32) de_Tu_rate_25 (by decide) (by first | omega | assumption) (by first | omega | assumption) (fun h25 => ?_) (fun h25 => ?_)
        · skip
          have hh1 : 0 ≤ y1 ∧ y1 ≤ 23 := by split at h14 <;> omega
          have z5 := e5 y1 (by omega) (by omega)
          refine ev_aload_n de_Tu_rate_32 rfl rfl ?_
          refine ev_getfield de_Tu_rate_33 t0 fl_Tu_19 rfl ?_
          refine ev_getfield de_Tu_rate_36 q0 fl_Tu_165 rfl ?_
          refine ev_iload_n de_Tu_rate_39 rfl rfl ?_
          refine ev_iaload de_Tu_rate_40 q6 (by first | omega | assumption) (by first | omega | assumption) (by first | omega | assumption) ?_
          refine ev_top (congrArg Sum.inl z5) ?_
          refine ev_istore_n (l' := [_, _, _, _]) de_Tu_rate_41 rfl (Nat.le_of_ble_eq_true rfl) rfl ?_
          refine ev_aload_n de_Tu_rate_42 rfl rfl ?_
          refine ev_getfield de_Tu_rate_43 t0 fl_Tu_19 rfl ?_
          refine ev_getfield de_Tu_rate_46 q0 fl_Tu_165 rfl ?_
          refine ev_iload_n de_Tu_rate_49 rfl rfl ?_
          refine ev_iload_n de_Tu_rate_50 rfl rfl ?_
          refine ev_iastore de_Tu_rate_51 q6 (by first | omega | assumption) (by first | omega | assumption) (by first | omega | assumption) ?_
          refine ev_gen (P := fun w1 => ri_at_j a (ab_up f (10 + y1) y2) x w1 ∧ fr_at a 13 w w1) ⟨rj_rate hR0 (by omega) (by omega) q6 (by omega) (by omega), fr_set fr_0 (by omega) (by omega)⟩ (fun w1 hm1 => ?_)
          obtain ⟨hR, hf1⟩ := hm1
          have hl := hf1.1.trans hl
          have t0 := (hf1.2 0 (by omega)).trans t0
          have hac := acl_fr hac hf1 (by omega)
          have hR0 := hR
          obtain ⟨sl, fs, vo, li, ra, wo, dh, da, hzz⟩ := hR
          obtain ⟨ds, dn, vw, q0, q1, q2, q3, q4, hzz⟩ := hzz
          obtain ⟨q5, q6, q7, q8, q9, q10, q11, q12, hzz⟩ := hzz
          obtain ⟨e1, e2, e3, e4, e5, e6, e7, e8, e9⟩ := hzz
          refine ev_aload_n de_Tu_rate_52 rfl rfl ?_
          refine ev_getfield de_Tu_rate_53 t0 fl_Tu_43 rfl ?_
          refine ev_iconst de_Tu_rate_56 ?_
          refine ev_iload_n de_Tu_rate_57 rfl rfl ?_
          refine ev_iload_n de_Tu_rate_58 rfl rfl ?_
          refine ev_virtual (ci := 0) (mc := 0) (ms := 0) (bc := 0) (bs := 0) de_Tu_rate_59 (co_Ac_keep hac (by omega) (by omega) (by omega) (by omega) _ _ _) kb_Tu_218 ⟨im_Ac_keep, se_Ac_keep⟩ rfl (id hac).1 rfl (Nat.le_of_ble_eq_true rfl) (by decide) (Or.inl (fun r w1 h => h.2.2.1)) (fun r1 w1 hm1 => ?_)
          obtain ⟨rfl, hac, hf1⟩ := hm1
          · skip
            have hl := hf1.1.trans hl
            have t0 := (hf1.2 0 (by omega)).trans t0
            have hR0 := rj_fr hR0 hf1 (by omega)
            have hR := hR0
            obtain ⟨sl, fs, vo, li, ra, wo, dh, da, hzz⟩ := hR
            obtain ⟨ds, dn, vw, q0, q1, q2, q3, q4, hzz⟩ := hzz
            obtain ⟨q5, q6, q7, q8, q9, q10, q11, q12, hzz⟩ := hzz
            obtain ⟨e1, e2, e3, e4, e5, e6, e7, e8, e9⟩ := hzz
            refine ev_iload_n de_Tu_rate_62 rfl rfl ?_
            exact ev_ireturn de_Tu_rate_63 rfl ⟨hl, Or.inl ⟨by omega, rfl, hR0, hac⟩⟩
        · skip
          refine ev_sipush de_Tu_rate_28 rfl ?_
          exact ev_ireturn de_Tu_rate_31 rfl ⟨rfl, Or.inr ⟨by first | omega | (intro z; rw [if_pos z.2.1] at h14; omega), rfl, rfl⟩⟩
theorem de_Tu_swap_0 : decode prog_1_method_13_code 0 = .ok (.aload_n 0, 1) := by decide +kernel
theorem de_Tu_swap_1 : decode prog_1_method_13_code 1 = .ok (.iload_n 1, 1) := by decide +kernel
theorem de_Tu_swap_2 : decode prog_1_method_13_code 2 = .ok (.invokevirtual 118, 3) := by decide +kernel
theorem de_Tu_swap_5 : decode prog_1_method_13_code 5 = .ok (.ifCond .eq 16, 3) := by decide +kernel
theorem de_Tu_swap_8 : decode prog_1_method_13_code 8 = .ok (.aload_n 0, 1) := by decide +kernel
theorem de_Tu_swap_9 : decode prog_1_method_13_code 9 = .ok (.iload_n 2, 1) := by decide +kernel
theorem de_Tu_swap_10 : decode prog_1_method_13_code 10 = .ok (.invokevirtual 118, 3) := by decide +kernel
theorem de_Tu_swap_13 : decode prog_1_method_13_code 13 = .ok (.ifCond .eq 8, 3) := by decide +kernel
theorem de_Tu_swap_16 : decode prog_1_method_13_code 16 = .ok (.iload_n 1, 1) := by decide +kernel
theorem de_Tu_swap_17 : decode prog_1_method_13_code 17 = .ok (.iload_n 2, 1) := by decide +kernel
theorem de_Tu_swap_18 : decode prog_1_method_13_code 18 = .ok (.if_icmp .ne 5, 3) := by decide +kernel
theorem de_Tu_swap_21 : decode prog_1_method_13_code 21 = .ok (.iconst 0, 1) := by decide +kernel
theorem de_Tu_swap_22 : decode prog_1_method_13_code 22 = .ok (.ireturn, 1) := by decide +kernel
theorem de_Tu_swap_23 : decode prog_1_method_13_code 23 = .ok (.aload_n 0, 1) := by decide +kernel
theorem de_Tu_swap_24 : decode prog_1_method_13_code 24 = .ok (.getfield 19, 3) := by decide +kernel
theorem de_Tu_swap_27 : decode prog_1_method_13_code 27 = .ok (.iload_n 1, 1) := by decide +kernel
theorem de_Tu_swap_28 : decode prog_1_method_13_code 28 = .ok (.iload_n 2, 1) := by decide +kernel
theorem de_Tu_swap_29 : decode prog_1_method_13_code 29 = .ok (.invokevirtual 222, 3) := by decide +kernel
theorem de_Tu_swap_32 : decode prog_1_method_13_code 32 = .ok (.aload_n 0, 1) := by decide +kernel
theorem de_Tu_swap_33 : decode prog_1_method_13_code 33 = .ok (.getfield 43, 3) := by decide +kernel
theorem de_Tu_swap_36 : decode prog_1_method_13_code 36 = .ok (.iconst 2, 1) := by decide +kernel
theorem de_Tu_swap_37 : decode prog_1_method_13_code 37 = .ok (.iload_n 1, 1) := by decide +kernel
theorem de_Tu_swap_38 : decode prog_1_method_13_code 38 = .ok (.iload_n 2, 1) := by decide +kernel
theorem de_Tu_swap_39 : decode prog_1_method_13_code 39 = .ok (.invokevirtual 218, 3) := by decide +kernel
theorem de_Tu_swap_42 : decode prog_1_method_13_code 42 = .ok (.iconst 1, 1) := by decide +kernel
theorem de_Tu_swap_43 : decode prog_1_method_13_code 43 = .ok (.ireturn, 1) := by decide +kernel
set_option maxHeartbeats 4000000 in
set_option maxRecDepth 10000 in
theorem co_Tu_swap {a b : Nat} {rc : Int} {f : Int → Int} {x B : Int} {w : ab_W} (hI : sg_ok B f) (t0 : tu_at a b rc w) (hR : ri_at_j a f x w) {ki f1 s1 : Int → Int} {sz nx : Int} (hab : a = 3 ∨ a = 16) (hac : acl 32 ki f1 s1 sz nx w) (hnx : 0 ≤ nx ∧ nx < 20) (hsz : 0 ≤ sz ∧ sz ≤ 20) (y1 : Int) (hy1 : ab_in y1) (y2 : Int) (hy2 : ab_in y2) : ab_Mt g_G g_rs mt_Tu_swap 2 0 0 [ab_R 0, ab_I y1, ab_I y2] w (fun r w2 => w2.length = w.length ∧ (((0 ≤ y1 ∧ y1 < f 1) ∧ (0 ≤ y2 ∧ y2 < f 1) ∧ ¬ y1 = y2) ∧ r = some (ab_I 1) ∧ ri_at_j a (cs_swap y1 y2 f) x w2 ∧ acl 32 (ab_up ki nx 2) (ab_up f1 nx (y1)) (ab_up s1 nx (y2)) (if 20 < sz + 1 then 20 else sz + 1) ((nx + 1) % 20) w2 ∨ ¬ ((0 ≤ y1 ∧ y1 < f 1) ∧ (0 ≤ y2 ∧ y2 < f 1) ∧ ¬ y1 = y2) ∧ r = some (ab_I (0)) ∧ w2 = w)) := by
  have ht0 := t0
  have hl : w.length = w.length := rfl
  have hR0 := hR
  have hI0 := hI
  unfold tu_at at t0
  obtain ⟨sl, fs, vo, li, ra, wo, dh, da, hzz⟩ := hR
  obtain ⟨ds, dn, vw, q0, q1, q2, q3, q4, hzz⟩ := hzz
  obtain ⟨q5, q6, q7, q8, q9, q10, q11, q12, hzz⟩ := hzz
  obtain ⟨e1, e2, e3, e4, e5, e6, e7, e8, e9⟩ := hzz
  obtain ⟨i0, i1, i2, i3, i4, i5, i6, i7, hzz⟩ := sg_all hI
  obtain ⟨i8, i9, i10, i11, i12, i13, i14, i15, hzz⟩ := hzz
  obtain ⟨i16, i17⟩ := hzz
  obtain ⟨c0, c1, c2, c3⟩ := id hac
  refine ab_Mt.of rfl (Nat.le_of_ble_eq_true rfl) ?_
  show ab_Ev g_G g_rs mt_Tu_swap _ _ _ 0 [some (ab_R 0), some (ab_I y1), some (ab_I y2)] [] _ _
  refine ev_aload_n de_Tu_swap_0 rfl rfl ?_
  refine ev_iload_n de_Tu_swap_1 rfl rfl ?_
  refine ev_vv (ci := 10) de_Tu_swap_2 (co_Tu_hasHouse hI0 ht0 hR0 _ (by assumption)) kb_Tu_118 ⟨im_Tu_hasHouse, se_Tu_hasHouse⟩ rfl t0 rfl (Nat.le_of_ble_eq_true rfl) (by decide) rfl ?_
  refine ev_if_eq (tgt := 21) de_Tu_swap_5 (by decide) (by first | omega | (split <;> decide)) (fun h5 => ?_) (fun h5 => ?_)
  · skip
    refine ev_iconst de_Tu_swap_21 ?_
    exact ev_zreturn de_Tu_swap_22 rfl (by decide) ⟨rfl, Or.inr ⟨by first | omega | (intro z; rw [if_pos z.1] at h5; omega) | (intro z; rw [if_pos z.2.1] at h13; omega), rfl, rfl⟩⟩
  · skip
    refine ev_aload_n de_Tu_swap_8 rfl rfl ?_
    refine ev_iload_n de_Tu_swap_9 rfl rfl ?_
    refine ev_vv (ci := 10) de_Tu_swap_10 (co_Tu_hasHouse hI0 ht0 hR0 _ (by assumption)) kb_Tu_118 ⟨im_Tu_hasHouse, se_Tu_hasHouse⟩ rfl t0 rfl (Nat.le_of_ble_eq_true rfl) (by decide) rfl ?_
    refine ev_if_eq (tgt := 21) de_Tu_swap_13 (by decide) (by first | omega | (split <;> decide)) (fun h13 => ?_) (fun h13 => ?_)
    · skip
      refine ev_iconst de_Tu_swap_21 ?_
      exact ev_zreturn de_Tu_swap_22 rfl (by decide) ⟨rfl, Or.inr ⟨by first | omega | (intro z; rw [if_pos z.1] at h5; omega) | (intro z; rw [if_pos z.2.1] at h13; omega), rfl, rfl⟩⟩
    · skip
      refine ev_iload_n de_Tu_swap_16 rfl rfl ?_
      refine ev_iload_n de_Tu_swap_17 rfl rfl ?_
      refine ev_icmp_ne (tgt := 23) de_Tu_swap_18 (by decide) (by first | omega | assumption) (by first | omega | assumption) (fun h18 => ?_) (fun h18 => ?_)
      · skip
        have hh1 : 0 ≤ y1 ∧ y1 < f 1 := by split at h5 <;> omega
        have hh2 : 0 ≤ y2 ∧ y2 < f 1 := by split at h13 <;> omega
        refine ev_aload_n de_Tu_swap_23 rfl rfl ?_
        refine ev_getfield de_Tu_swap_24 t0 fl_Tu_19 rfl ?_
        refine ev_iload_n de_Tu_swap_27 rfl rfl ?_
        refine ev_iload_n de_Tu_swap_28 rfl rfl ?_
        refine ev_virtual (ci := 5) (mc := 0) (ms := 0) (bc := 0) (bs := 0) de_Tu_swap_29 (co_Ri_swapSlots_j hI0 hR0 _ _ (by omega) (by omega) (by omega) (by omega)) kb_Tu_222 ⟨im_Ri_swapSlots, se_Ri_swapSlots⟩ rfl q0 rfl (Nat.le_of_ble_eq_true rfl) (by decide) (Or.inl (fun r w1 h => h.2.2.1)) (fun r1 w1 hm1 => ?_)
        obtain ⟨rfl, hR, hf1⟩ := hm1
        · skip
          have hl := hf1.1.trans hl
          have t0 := (hf1.2 0 (by omega)).trans t0
          have hac := acl_fr hac hf1 (by omega)
          have hR0 := hR
          obtain ⟨sl, fs, vo, li, ra, wo, dh, da, hzz⟩ := hR
          obtain ⟨ds, dn, vw, q0, q1, q2, q3, q4, hzz⟩ := hzz
          obtain ⟨q5, q6, q7, q8, q9, q10, q11, q12, hzz⟩ := hzz
          obtain ⟨e1, e2, e3, e4, e5, e6, e7, e8, e9⟩ := hzz
          refine ev_aload_n de_Tu_swap_32 rfl rfl ?_
          refine ev_getfield de_Tu_swap_33 t0 fl_Tu_43 rfl ?_
          refine ev_iconst de_Tu_swap_36 ?_
          refine ev_iload_n de_Tu_swap_37 rfl rfl ?_
          refine ev_iload_n de_Tu_swap_38 rfl rfl ?_
          refine ev_virtual (ci := 0) (mc := 0) (ms := 0) (bc := 0) (bs := 0) de_Tu_swap_39 (co_Ac_keep hac (by omega) (by omega) (by omega) (by omega) _ _ _) kb_Tu_218 ⟨im_Ac_keep, se_Ac_keep⟩ rfl (id hac).1 rfl (Nat.le_of_ble_eq_true rfl) (by decide) (Or.inl (fun r w1 h => h.2.2.1)) (fun r1 w1 hm1 => ?_)
          obtain ⟨rfl, hac, hf1⟩ := hm1
          · skip
            have hl := hf1.1.trans hl
            have t0 := (hf1.2 0 (by omega)).trans t0
            have hR0 := rj_fr hR0 hf1 (by omega)
            have hR := hR0
            obtain ⟨sl, fs, vo, li, ra, wo, dh, da, hzz⟩ := hR
            obtain ⟨ds, dn, vw, q0, q1, q2, q3, q4, hzz⟩ := hzz
            obtain ⟨q5, q6, q7, q8, q9, q10, q11, q12, hzz⟩ := hzz
            obtain ⟨e1, e2, e3, e4, e5, e6, e7, e8, e9⟩ := hzz
            refine ev_iconst de_Tu_swap_42 ?_
            exact ev_zreturn de_Tu_swap_43 rfl (by decide) ⟨hl, Or.inl ⟨⟨hh1, hh2, by omega⟩, rfl, hR0, hac⟩⟩
      · skip
        refine ev_iconst de_Tu_swap_21 ?_
        exact ev_zreturn de_Tu_swap_22 rfl (by decide) ⟨rfl, Or.inr ⟨by first | omega | (intro z; rw [if_pos z.1] at h5; omega) | (intro z; rw [if_pos z.2.1] at h13; omega), rfl, rfl⟩⟩
theorem de_Tu_stop_0 : decode prog_1_method_14_code 0 = .ok (.aload_n 0, 1) := by decide +kernel
theorem de_Tu_stop_1 : decode prog_1_method_14_code 1 = .ok (.getfield 19, 3) := by decide +kernel
theorem de_Tu_stop_4 : decode prog_1_method_14_code 4 = .ok (.getfield 152, 3) := by decide +kernel
theorem de_Tu_stop_7 : decode prog_1_method_14_code 7 = .ok (.ifCond .eq 13, 3) := by decide +kernel
theorem de_Tu_stop_10 : decode prog_1_method_14_code 10 = .ok (.aload_n 0, 1) := by decide +kernel
theorem de_Tu_stop_11 : decode prog_1_method_14_code 11 = .ok (.getfield 19, 3) := by decide +kernel
theorem de_Tu_stop_14 : decode prog_1_method_14_code 14 = .ok (.getfield 186, 3) := by decide +kernel
theorem de_Tu_stop_17 : decode prog_1_method_14_code 17 = .ok (.ifCond .eq 5, 3) := by decide +kernel
theorem de_Tu_stop_20 : decode prog_1_method_14_code 20 = .ok (.iconst 0, 1) := by decide +kernel
theorem de_Tu_stop_21 : decode prog_1_method_14_code 21 = .ok (.ireturn, 1) := by decide +kernel
theorem de_Tu_stop_22 : decode prog_1_method_14_code 22 = .ok (.aload_n 0, 1) := by decide +kernel
theorem de_Tu_stop_23 : decode prog_1_method_14_code 23 = .ok (.getfield 19, 3) := by decide +kernel
theorem de_Tu_stop_26 : decode prog_1_method_14_code 26 = .ok (.iconst 1, 1) := by decide +kernel
theorem de_Tu_stop_27 : decode prog_1_method_14_code 27 = .ok (.putfield 186, 3) := by decide +kernel
theorem de_Tu_stop_30 : decode prog_1_method_14_code 30 = .ok (.aload_n 0, 1) := by decide +kernel
theorem de_Tu_stop_31 : decode prog_1_method_14_code 31 = .ok (.getfield 19, 3) := by decide +kernel
theorem de_Tu_stop_34 : decode prog_1_method_14_code 34 = .ok (.dup, 1) := by decide +kernel
theorem de_Tu_stop_35 : decode prog_1_method_14_code 35 = .ok (.getfield 189, 3) := by decide +kernel
theorem de_Tu_stop_38 : decode prog_1_method_14_code 38 = .ok (.iconst 1, 1) := by decide +kernel
theorem de_Tu_stop_39 : decode prog_1_method_14_code 39 = .ok (.iadd, 1) := by decide +kernel
theorem de_Tu_stop_40 : decode prog_1_method_14_code 40 = .ok (.putfield 189, 3) := by decide +kernel
theorem de_Tu_stop_43 : decode prog_1_method_14_code 43 = .ok (.aload_n 0, 1) := by decide +kernel
theorem de_Tu_stop_44 : decode prog_1_method_14_code 44 = .ok (.getfield 43, 3) := by decide +kernel
theorem de_Tu_stop_47 : decode prog_1_method_14_code 47 = .ok (.iconst 3, 1) := by decide +kernel
theorem de_Tu_stop_48 : decode prog_1_method_14_code 48 = .ok (.iconst 0, 1) := by decide +kernel
theorem de_Tu_stop_49 : decode prog_1_method_14_code 49 = .ok (.iconst 0, 1) := by decide +kernel
theorem de_Tu_stop_50 : decode prog_1_method_14_code 50 = .ok (.invokevirtual 218, 3) := by decide +kernel
theorem de_Tu_stop_53 : decode prog_1_method_14_code 53 = .ok (.iconst 1, 1) := by decide +kernel
theorem de_Tu_stop_54 : decode prog_1_method_14_code 54 = .ok (.ireturn, 1) := by decide +kernel
set_option maxHeartbeats 4000000 in
set_option maxRecDepth 10000 in
theorem co_Tu_stop {a b : Nat} {rc : Int} {f : Int → Int} {x B : Int} {w : ab_W} (hI : sg_ok B f) (t0 : tu_at a b rc w) (hR : ri_at_j a f x w) {ki f1 s1 : Int → Int} {sz nx : Int} (hab : a = 3 ∨ a = 16) (hac : acl 32 ki f1 s1 sz nx w) (hnx : 0 ≤ nx ∧ nx < 20) (hsz : 0 ≤ sz ∧ sz ≤ 20) : ab_Mt g_G g_rs mt_Tu_stop 2 0 0 [ab_R 0] w (fun r w2 => w2.length = w.length ∧ ((f 0 = 1 ∧ f 7 = 0) ∧ r = some (ab_I 1) ∧ ri_at_j a (ab_up (ab_up f 7 1) 8 (f 8 + 1)) x w2 ∧ acl 32 (ab_up ki nx 3) (ab_up f1 nx (0)) (ab_up s1 nx (0)) (if 20 < sz + 1 then 20 else sz + 1) ((nx + 1) % 20) w2 ∨ ¬ (f 0 = 1 ∧ f 7 = 0) ∧ r = some (ab_I (0)) ∧ w2 = w)) := by
  have ht0 := t0
  have hl : w.length = w.length := rfl
  have hR0 := hR
  have hI0 := hI
  unfold tu_at at t0
  obtain ⟨sl, fs, vo, li, ra, wo, dh, da, hzz⟩ := hR
  obtain ⟨ds, dn, vw, q0, q1, q2, q3, q4, hzz⟩ := hzz
  obtain ⟨q5, q6, q7, q8, q9, q10, q11, q12, hzz⟩ := hzz
  obtain ⟨e1, e2, e3, e4, e5, e6, e7, e8, e9⟩ := hzz
  obtain ⟨i0, i1, i2, i3, i4, i5, i6, i7, hzz⟩ := sg_all hI
  obtain ⟨i8, i9, i10, i11, i12, i13, i14, i15, hzz⟩ := hzz
  obtain ⟨i16, i17⟩ := hzz
  obtain ⟨c0, c1, c2, c3⟩ := id hac
  refine ab_Mt.of rfl (Nat.le_of_ble_eq_true rfl) ?_
  show ab_Ev g_G g_rs mt_Tu_stop _ _ _ 0 [some (ab_R 0)] [] _ _
  refine ev_aload_n de_Tu_stop_0 rfl rfl ?_
  refine ev_getfield de_Tu_stop_1 t0 fl_Tu_19 rfl ?_
  refine ev_getfield de_Tu_stop_4 q0 fl_Tu_152 rfl ?_
  refine ev_if_eq (tgt := 20) de_Tu_stop_7 (by decide) (by first | omega | assumption) (fun h7 => ?_) (fun h7 => ?_)
  · skip
    refine ev_iconst de_Tu_stop_20 ?_
    exact ev_zreturn de_Tu_stop_21 rfl (by decide) ⟨rfl, Or.inr ⟨by omega, rfl, rfl⟩⟩
  · skip
    refine ev_aload_n de_Tu_stop_10 rfl rfl ?_
    refine ev_getfield de_Tu_stop_11 t0 fl_Tu_19 rfl ?_
    refine ev_getfield de_Tu_stop_14 q0 fl_Tu_186 rfl ?_
    refine ev_if_eq (tgt := 22) de_Tu_stop_17 (by decide) (by first | omega | assumption) (fun h17 => ?_) (fun h17 => ?_)
    · skip
      refine ev_aload_n de_Tu_stop_22 rfl rfl ?_
      refine ev_getfield de_Tu_stop_23 t0 fl_Tu_19 rfl ?_
      refine ev_iconst de_Tu_stop_26 ?_
      refine ev_putfield de_Tu_stop_27 q0 (fp_Tu_186 _) (Nat.le_of_ble_eq_true rfl) (Or.inr rfl) ?_
      refine ev_gen (P := fun w1 => w1 = w.set a (ab_ob 5 [ab_I (f 0), ab_I (f 4), ab_I (f 5), ab_I (f 6), ab_I 1, ab_I (f 8), ab_I x, ab_I (f 1), ab_I (f 2), ab_I (f 3), ab_R (a + 1), ab_R (a + 2), ab_R (a + 3), ab_R (a + 4), ab_R (a + 5), ab_R (a + 6), ab_R (a + 7), ab_R (a + 8)])) rfl (fun w1 hm1 => ?_)
      have t0 := (congrArg (fun z : ab_W => z[0]?) hm1).trans (ab_gn t0 (by omega))
      have q0 := (congrArg (fun z : ab_W => z[a]?) hm1).trans (ab_gs q0)
      refine ev_aload_n de_Tu_stop_30 rfl rfl ?_
      refine ev_getfield de_Tu_stop_31 t0 fl_Tu_19 rfl ?_
      refine ev_dup de_Tu_stop_34 rfl ?_
      refine ev_getfield de_Tu_stop_35 q0 fl_Tu_189 rfl ?_
      refine ev_iconst de_Tu_stop_38 ?_
      refine ev_iadd de_Tu_stop_39 ?_
      refine ev_putfield de_Tu_stop_40 q0 (fp_Tu_189 _) (Nat.le_of_ble_eq_true rfl) trivial ?_
      refine ev_gen (P := fun w1 => ri_at_j a (ab_up (ab_up f 7 1) 8 (f 8 + 1)) x w1 ∧ fr_at a 13 w w1) ⟨by rw [hm1, List.set_set]; exact rj_stp hR0 (by omega) (by omega) 1 _, by rw [hm1, List.set_set]; exact fr_set fr_0 (by omega) (by omega)⟩ (fun w1 hm1 => ?_)
      obtain ⟨hR, hf1⟩ := hm1
      have hl := hf1.1
      have t0 := (hf1.2 0 (by omega)).trans ht0
      have hac := acl_fr hac hf1 (by omega)
      have hR0 := hR
      obtain ⟨sl, fs, vo, li, ra, wo, dh, da, hzz⟩ := hR
      obtain ⟨ds, dn, vw, q0, q1, q2, q3, q4, hzz⟩ := hzz
      obtain ⟨q5, q6, q7, q8, q9, q10, q11, q12, hzz⟩ := hzz
      obtain ⟨e1, e2, e3, e4, e5, e6, e7, e8, e9⟩ := hzz
      refine ev_aload_n de_Tu_stop_43 rfl rfl ?_
      refine ev_getfield de_Tu_stop_44 t0 fl_Tu_43 rfl ?_
      refine ev_iconst de_Tu_stop_47 ?_
      refine ev_iconst de_Tu_stop_48 ?_
      refine ev_iconst de_Tu_stop_49 ?_
      refine ev_virtual (ci := 0) (mc := 0) (ms := 0) (bc := 0) (bs := 0) de_Tu_stop_50 (co_Ac_keep hac (by omega) (by omega) (by omega) (by omega) _ _ _) kb_Tu_218 ⟨im_Ac_keep, se_Ac_keep⟩ rfl (id hac).1 rfl (Nat.le_of_ble_eq_true rfl) (by decide) (Or.inl (fun r w1 h => h.2.2.1)) (fun r1 w1 hm1 => ?_)
      obtain ⟨rfl, hac, hf1⟩ := hm1
      · skip
        have hl := hf1.1.trans hl
        have t0 := (hf1.2 0 (by omega)).trans t0
        have hR0 := rj_fr hR0 hf1 (by omega)
        have hR := hR0
        obtain ⟨sl, fs, vo, li, ra, wo, dh, da, hzz⟩ := hR
        obtain ⟨ds, dn, vw, q0, q1, q2, q3, q4, hzz⟩ := hzz
        obtain ⟨q5, q6, q7, q8, q9, q10, q11, q12, hzz⟩ := hzz
        obtain ⟨e1, e2, e3, e4, e5, e6, e7, e8, e9⟩ := hzz
        refine ev_iconst de_Tu_stop_53 ?_
        exact ev_zreturn de_Tu_stop_54 rfl (by decide) ⟨hl, Or.inl ⟨by omega, rfl, hR0, hac⟩⟩
    · skip
      refine ev_iconst de_Tu_stop_20 ?_
      exact ev_zreturn de_Tu_stop_21 rfl (by decide) ⟨rfl, Or.inr ⟨by omega, rfl, rfl⟩⟩
