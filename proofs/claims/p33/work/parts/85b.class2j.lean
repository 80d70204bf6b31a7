set_option maxHeartbeats 4000000 in
set_option maxRecDepth 10000 in
theorem co_Ri_likesNow_j {o : Nat} {f : Int → Int} {x B : Int} {w : ab_W} (hI : sg_ok B f) (hR : ri_at_j o f x w) (h0 : Int) (hh0 : 0 ≤ h0) (hh1 : h0 < f 1) : ab_Mt g_G g_rs mt_Ri_likesNow 2 0 0 [ab_R o, ab_I h0] w (ab_is (some (ab_I (sp_likesOf f h0))) w) := by
  have hR0 := hR
  have hI0 := hI
  obtain ⟨sl, fs, vo, li, ra, wo, dh, da, hzz⟩ := hR
  obtain ⟨ds, dn, vw, q0, q1, q2, q3, q4, hzz⟩ := hzz
  obtain ⟨q5, q6, q7, q8, q9, q10, q11, q12, hzz⟩ := hzz
  obtain ⟨e1, e2, e3, e4, e5, e6, e7, e8, e9⟩ := hzz
  obtain ⟨i0, i1, i2, i3, i4, i5, i6, i7, hzz⟩ := sg_all hI
  obtain ⟨i8, i9, i10, i11, i12, i13, i14, i15, hzz⟩ := hzz
  obtain ⟨i16, i17⟩ := hzz
  refine ab_Mt.of rfl (Nat.le_of_ble_eq_true rfl) ?_
  show ab_Ev g_G g_rs mt_Ri_likesNow _ _ _ 0 [some (ab_R o), some (ab_I h0)] [] _ _
  have z1 := e1 h0 hh0 (by omega)
  have z2 := (e2 h0 hh0 hh1).1
  refine ev_aload_n de_Ri_likesNow_0 rfl rfl ?_
  refine ev_iload_n de_Ri_likesNow_1 rfl rfl ?_
  refine ev_aload_n de_Ri_likesNow_2 rfl rfl ?_
  refine ev_getfield de_Ri_likesNow_3 q0 fl_Ri_9 rfl ?_
  refine ev_iload_n de_Ri_likesNow_6 rfl rfl ?_
  refine ev_iaload de_Ri_likesNow_7 q1 (by omega) (by omega) (by omega) ?_
  refine ev_aload_n de_Ri_likesNow_8 rfl rfl ?_
  refine ev_getfield de_Ri_likesNow_9 q0 fl_Ri_45 rfl ?_
  refine ev_aload_n de_Ri_likesNow_12 rfl rfl ?_
  refine ev_getfield de_Ri_likesNow_13 q0 fl_Ri_49 rfl ?_
  refine ev_vv (ci := 5) de_Ri_likesNow_16 (co_Ri_likesIn_j hI0 hR0 h0 (sl h0) (f 4) (f 5) hh0 hh1 z1.1.1 z1.1.2 (by omega) (by omega) (by omega) (by omega)) kb_Ri_106 ⟨im_Ri_likesIn, se_Ri_likesIn⟩ rfl q0 rfl (Nat.le_of_ble_eq_true rfl) (by decide) rfl ?_
  exact ev_ireturn de_Ri_likesNow_19 rfl ⟨by unfold sp_likesOf sp_facesOf; rw [z2], rfl⟩
set_option maxHeartbeats 4000000 in
set_option maxRecDepth 10000 in
theorem lo_Ri_allLike_j {o : Nat} {f : Int → Int} {x B : Int} {w : ab_W} (hI : sg_ok B f) (hR : ri_at_j o f x w) (a t : Int) (ha0 : 0 ≤ a) (ha1 : a ≤ 11) (ht0 : 0 ≤ t) (ht1 : t ≤ 23) : ∀ (n : Nat) (k : Nat), (k : Int) ≤ f 1 → f 1 < k + n → ab_Ev g_G g_rs mt_Ri_allLike 2 0 0 5 [some (ab_R o), some (ab_I a), some (ab_I t), some (ab_I (cs_all f a t k)), some (ab_I (k : Int))] [] w (ab_is (some (ab_I (cs_all f a t (f 1).toNat))) w) := by
  intro n
  induction n with
  | zero =>
    intro k
    intro g1 g2; omega
  | succ n ih =>
    intro k
    intro g1 g2
    have hR0 := hR
    have hI0 := hI
    obtain ⟨sl, fs, vo, li, ra, wo, dh, da, hzz⟩ := hR
    obtain ⟨ds, dn, vw, q0, q1, q2, q3, q4, hzz⟩ := hzz
    obtain ⟨q5, q6, q7, q8, q9, q10, q11, q12, hzz⟩ := hzz
    obtain ⟨e1, e2, e3, e4, e5, e6, e7, e8, e9⟩ := hzz
    obtain ⟨i0, i1, i2, i3, i4, i5, i6, i7, hzz⟩ := sg_all hI
    obtain ⟨i8, i9, i10, i11, i12, i13, i14, i15, hzz⟩ := hzz
    obtain ⟨i16, i17⟩ := hzz
    refine ev_iload de_Ri_allLike_5 rfl ?_
    refine ev_aload_n de_Ri_allLike_7 rfl rfl ?_
    refine ev_getfield de_Ri_allLike_8 q0 fl_Ri_64 rfl ?_
    refine ev_icmp_ge (tgt := 38) de_Ri_allLike_11 (by decide) (by omega) (by omega) (fun h11 => ?_) (fun h11 => ?_)
    · skip
      have ek : k = (f 1).toNat := by omega
      subst ek
      refine ev_iload_n de_Ri_allLike_38 rfl rfl ?_
      exact ev_ireturn de_Ri_allLike_39 rfl ⟨rfl, rfl⟩
    · skip
      have z1 := e1 (k : Int) (by omega) (by omega)
      have z2 := (e2 (k : Int) (by omega) (by omega)).1
      refine ev_iload_n de_Ri_allLike_14 rfl rfl ?_
      refine ev_aload_n de_Ri_allLike_15 rfl rfl ?_
      refine ev_iload de_Ri_allLike_16 rfl ?_
      refine ev_aload_n de_Ri_allLike_18 rfl rfl ?_
      refine ev_getfield de_Ri_allLike_19 q0 fl_Ri_9 rfl ?_
      refine ev_iload de_Ri_allLike_22 rfl ?_
      refine ev_iaload de_Ri_allLike_24 q1 (by omega) (by omega) (by omega) ?_
      refine ev_iload_n de_Ri_allLike_25 rfl rfl ?_
      refine ev_iload_n de_Ri_allLike_26 rfl rfl ?_
      refine ev_vv (ci := 5) de_Ri_allLike_27 (co_Ri_likesIn_j hI0 hR0 (k : Int) (sl k) a t (by omega) (by omega) z1.1.1 z1.1.2 ha0 ha1 ht0 ht1) kb_Ri_106 ⟨im_Ri_likesIn, se_Ri_likesIn⟩ rfl q0 rfl (Nat.le_of_ble_eq_true rfl) (by decide) rfl ?_
      refine ev_iadd de_Ri_allLike_30 ?_
      refine ev_istore_n (l' := [_, _, _, _, _]) de_Ri_allLike_31 rfl (Nat.le_of_ble_eq_true rfl) rfl ?_
      refine ev_iinc (l' := [_, _, _, _, _]) de_Ri_allLike_32 rfl rfl ?_
      refine ev_goto (tgt := 5) de_Ri_allLike_35 (by decide) ?_
      refine ev_loc (l2 := [some (ab_R o), some (ab_I a), some (ab_I t), some (ab_I (cs_all f a t (k + 1))), some (ab_I ((k + 1 : Nat) : Int))]) (by rw [z2]; rfl) ?_
      exact ih (k + 1) (by omega) (by omega)
set_option maxHeartbeats 4000000 in
set_option maxRecDepth 10000 in
theorem co_Ri_allLike_j {o : Nat} {f : Int → Int} {x B : Int} {w : ab_W} (hI : sg_ok B f) (hR : ri_at_j o f x w) (a t : Int) (ha0 : 0 ≤ a) (ha1 : a ≤ 11) (ht0 : 0 ≤ t) (ht1 : t ≤ 23) : ab_Mt g_G g_rs mt_Ri_allLike 2 0 0 [ab_R o, ab_I a, ab_I t] w (ab_is (some (ab_I (cs_all f a t (f 1).toNat))) w) := by
  have hR0 := hR
  have hI0 := hI
  obtain ⟨sl, fs, vo, li, ra, wo, dh, da, hzz⟩ := hR
  obtain ⟨ds, dn, vw, q0, q1, q2, q3, q4, hzz⟩ := hzz
  obtain ⟨q5, q6, q7, q8, q9, q10, q11, q12, hzz⟩ := hzz
  obtain ⟨e1, e2, e3, e4, e5, e6, e7, e8, e9⟩ := hzz
  obtain ⟨i0, i1, i2, i3, i4, i5, i6, i7, hzz⟩ := sg_all hI
  obtain ⟨i8, i9, i10, i11, i12, i13, i14, i15, hzz⟩ := hzz
  obtain ⟨i16, i17⟩ := hzz
  refine ab_Mt.of rfl (Nat.le_of_ble_eq_true rfl) ?_
  show ab_Ev g_G g_rs mt_Ri_allLike _ _ _ 0 [some (ab_R o), some (ab_I a), some (ab_I t), none, none] [] _ _
  refine ev_iconst de_Ri_allLike_0 ?_
  refine ev_istore_n (l' := [_, _, _, _, _]) de_Ri_allLike_1 rfl (Nat.le_of_ble_eq_true rfl) rfl ?_
  refine ev_iconst de_Ri_allLike_2 ?_
  refine ev_istore (l' := [_, _, _, _, _]) de_Ri_allLike_3 (Nat.le_of_ble_eq_true rfl) rfl ?_
  exact lo_Ri_allLike_j hI0 hR0 a t ha0 ha1 ht0 ht1 8 0 (by omega) (by omega)
set_option maxHeartbeats 4000000 in
set_option maxRecDepth 10000 in
theorem co_Ri_hourOn_j {o : Nat} {f : Int → Int} {x B : Int} {w : ab_W} (hI : sg_ok B f) (hR : ri_at_j o f x w) (n : Int) (hn0 : 0 ≤ n) (hn1 : n ≤ 100000) : ab_Mt g_G g_rs mt_Ri_hourOn 0 0 0 [ab_R o, ab_I n] w (ab_is (some (ab_I ((f 5 + n) % 24))) w) := by
  have hR0 := hR
  have hI0 := hI
  obtain ⟨sl, fs, vo, li, ra, wo, dh, da, hzz⟩ := hR
  obtain ⟨ds, dn, vw, q0, q1, q2, q3, q4, hzz⟩ := hzz
  obtain ⟨q5, q6, q7, q8, q9, q10, q11, q12, hzz⟩ := hzz
  obtain ⟨e1, e2, e3, e4, e5, e6, e7, e8, e9⟩ := hzz
  obtain ⟨i0, i1, i2, i3, i4, i5, i6, i7, hzz⟩ := sg_all hI
  obtain ⟨i8, i9, i10, i11, i12, i13, i14, i15, hzz⟩ := hzz
  obtain ⟨i16, i17⟩ := hzz
  refine ab_Mt.of rfl (Nat.le_of_ble_eq_true rfl) ?_
  show ab_Ev g_G g_rs mt_Ri_hourOn _ _ _ 0 [some (ab_R o), some (ab_I n)] [] _ _
  refine ev_aload_n de_Ri_hourOn_0 rfl rfl ?_
  refine ev_getfield de_Ri_hourOn_1 q0 fl_Ri_49 rfl ?_
  refine ev_iload_n de_Ri_hourOn_4 rfl rfl ?_
  refine ev_iadd de_Ri_hourOn_5 ?_
  refine ev_bipush de_Ri_hourOn_6 rfl ?_
  refine ev_irem de_Ri_hourOn_8 (by omega) (by omega) (by omega) ?_
  have q := ab_tme (f 5 + n) 24 (by decide)
  exact ev_ireturn de_Ri_hourOn_9 rfl ⟨by congr 2; omega, rfl⟩
set_option maxHeartbeats 4000000 in
set_option maxRecDepth 10000 in
theorem co_Ri_angleBehind_j {o : Nat} {f : Int → Int} {x B : Int} {w : ab_W} (hI : sg_ok B f) (hR : ri_at_j o f x w) (a t : Int) (ha0 : 0 ≤ a) (ha1 : a ≤ 11) (ht0 : 0 ≤ t) (ht1 : t ≤ 100000) : ab_Mt g_G g_rs mt_Ri_angleBehind 1 0 0 [ab_R o, ab_I a, ab_I t] w (ab_is (some (ab_I (cs_ab f a t))) w) := by
  have hR0 := hR
  have hI0 := hI
  obtain ⟨sl, fs, vo, li, ra, wo, dh, da, hzz⟩ := hR
  obtain ⟨ds, dn, vw, q0, q1, q2, q3, q4, hzz⟩ := hzz
  obtain ⟨q5, q6, q7, q8, q9, q10, q11, q12, hzz⟩ := hzz
  obtain ⟨e1, e2, e3, e4, e5, e6, e7, e8, e9⟩ := hzz
  obtain ⟨i0, i1, i2, i3, i4, i5, i6, i7, hzz⟩ := sg_all hI
  obtain ⟨i8, i9, i10, i11, i12, i13, i14, i15, hzz⟩ := hzz
  obtain ⟨i16, i17⟩ := hzz
  refine ab_Mt.of rfl (Nat.le_of_ble_eq_true rfl) ?_
  show ab_Ev g_G g_rs mt_Ri_angleBehind _ _ _ 0 [some (ab_R o), some (ab_I a), some (ab_I t)] [] _ _
  have z5 := e5 ((f 5 + t) % 24) (by omega) (by omega)
  have z9 := i9 (10 + (f 5 + t) % 24) (by omega) (by omega)
  refine ev_aload_n de_Ri_angleBehind_0 rfl rfl ?_
  refine ev_getfield de_Ri_angleBehind_1 q0 fl_Ri_55 rfl ?_
  refine ev_if_eq (tgt := 15) de_Ri_angleBehind_4 (by decide) (by omega) (fun h4 => ?_) (fun h4 => ?_)
  · skip
    refine ev_iload_n de_Ri_angleBehind_15 rfl rfl ?_
    refine ev_aload_n de_Ri_angleBehind_16 rfl rfl ?_
    refine ev_getfield de_Ri_angleBehind_17 q0 fl_Ri_28 rfl ?_
    refine ev_aload_n de_Ri_angleBehind_20 rfl rfl ?_
    refine ev_iload_n de_Ri_angleBehind_21 rfl rfl ?_
    refine ev_vv (ci := 5) de_Ri_angleBehind_22 (co_Ri_hourOn_j hI0 hR0 t ht0 ht1) kb_Ri_125 ⟨im_Ri_hourOn, se_Ri_hourOn⟩ rfl q0 rfl (Nat.le_of_ble_eq_true rfl) (by decide) rfl ?_
    refine ev_iaload de_Ri_angleBehind_25 q6 (by omega) (by omega) (by omega) ?_
    refine ev_iadd de_Ri_angleBehind_26 ?_
    refine ev_sv de_Ri_angleBehind_27 (co_Tu_wrapped _ _ (by omega)) kb_Ri_131 sc_Tu_wrapped rfl (Nat.le_of_ble_eq_true rfl) (by decide) rfl ?_
    exact ev_ireturn de_Ri_angleBehind_30 rfl ⟨by unfold cs_ab; first | rw [if_pos (by omega)] | rw [if_neg (by omega), z5], rfl⟩
  · skip
    refine ev_iload_n de_Ri_angleBehind_7 rfl rfl ?_
    refine ev_if_ne (tgt := 15) de_Ri_angleBehind_8 (by decide) (by omega) (fun h8 => ?_) (fun h8 => ?_)
    · skip
      refine ev_iload_n de_Ri_angleBehind_15 rfl rfl ?_
      refine ev_aload_n de_Ri_angleBehind_16 rfl rfl ?_
      refine ev_getfield de_Ri_angleBehind_17 q0 fl_Ri_28 rfl ?_
      refine ev_aload_n de_Ri_angleBehind_20 rfl rfl ?_
      refine ev_iload_n de_Ri_angleBehind_21 rfl rfl ?_
      refine ev_vv (ci := 5) de_Ri_angleBehind_22 (co_Ri_hourOn_j hI0 hR0 t ht0 ht1) kb_Ri_125 ⟨im_Ri_hourOn, se_Ri_hourOn⟩ rfl q0 rfl (Nat.le_of_ble_eq_true rfl) (by decide) rfl ?_
      refine ev_iaload de_Ri_angleBehind_25 q6 (by omega) (by omega) (by omega) ?_
      refine ev_iadd de_Ri_angleBehind_26 ?_
      refine ev_sv de_Ri_angleBehind_27 (co_Tu_wrapped _ _ (by omega)) kb_Ri_131 sc_Tu_wrapped rfl (Nat.le_of_ble_eq_true rfl) (by decide) rfl ?_
      exact ev_ireturn de_Ri_angleBehind_30 rfl ⟨by unfold cs_ab; first | rw [if_pos (by omega)] | rw [if_neg (by omega), z5], rfl⟩
    · skip
      refine ev_iload_n de_Ri_angleBehind_11 rfl rfl ?_
      refine ev_goto (tgt := 30) de_Ri_angleBehind_12 (by decide) ?_
      exact ev_ireturn de_Ri_angleBehind_30 rfl ⟨by unfold cs_ab; first | rw [if_pos (by omega)] | rw [if_neg (by omega), z5], rfl⟩
set_option maxHeartbeats 4000000 in
set_option maxRecDepth 10000 in
theorem lo_Ri_angleOn_j {o : Nat} {f : Int → Int} {x B : Int} {w : ab_W} (hI : sg_ok B f) (hR : ri_at_j o f x w) (nn : Int) (hn0 : 0 ≤ nn) (hn1 : nn ≤ 100000) : ∀ (n : Nat) (k : Nat), (k : Int) ≤ nn → nn < k + n → ab_Ev g_G g_rs mt_Ri_angleOn 2 0 0 7 [some (ab_R o), some (ab_I nn), some (ab_I (cs_ang f k)), some (ab_I (k : Int))] [] w (ab_is (some (ab_I (cs_ang f nn.toNat))) w) := by
  intro n
  induction n with
  | zero =>
    intro k
    intro g1 g2; omega
  | succ n ih =>
    intro k
    intro g1 g2
    have hR0 := hR
    have hI0 := hI
    obtain ⟨sl, fs, vo, li, ra, wo, dh, da, hzz⟩ := hR
    obtain ⟨ds, dn, vw, q0, q1, q2, q3, q4, hzz⟩ := hzz
    obtain ⟨q5, q6, q7, q8, q9, q10, q11, q12, hzz⟩ := hzz
    obtain ⟨e1, e2, e3, e4, e5, e6, e7, e8, e9⟩ := hzz
    obtain ⟨i0, i1, i2, i3, i4, i5, i6, i7, hzz⟩ := sg_all hI
    obtain ⟨i8, i9, i10, i11, i12, i13, i14, i15, hzz⟩ := hzz
    obtain ⟨i16, i17⟩ := hzz
    have cb := cs_ang_b hI0 k
    refine ev_iload_n de_Ri_angleOn_7 rfl rfl ?_
    refine ev_iload_n de_Ri_angleOn_8 rfl rfl ?_
    refine ev_icmp_ge (tgt := 25) de_Ri_angleOn_9 (by decide) (by omega) (by omega) (fun h9 => ?_) (fun h9 => ?_)
    · skip
      have ek : k = nn.toNat := by omega
      subst ek
      refine ev_iload_n de_Ri_angleOn_25 rfl rfl ?_
      exact ev_ireturn de_Ri_angleOn_26 rfl ⟨rfl, rfl⟩
    · skip
      refine ev_aload_n de_Ri_angleOn_12 rfl rfl ?_
      refine ev_iload_n de_Ri_angleOn_13 rfl rfl ?_
      refine ev_iload_n de_Ri_angleOn_14 rfl rfl ?_
      refine ev_vv (ci := 5) de_Ri_angleOn_15 (co_Ri_angleBehind_j hI0 hR0 (cs_ang f k) (k : Int) cb.1 cb.2 (by omega) (by omega)) kb_Ri_128 ⟨im_Ri_angleBehind, se_Ri_angleBehind⟩ rfl q0 rfl (Nat.le_of_ble_eq_true rfl) (by decide) rfl ?_
      refine ev_istore_n (l' := [_, _, _, _]) de_Ri_angleOn_18 rfl (Nat.le_of_ble_eq_true rfl) rfl ?_
      refine ev_iinc (l' := [_, _, _, _]) de_Ri_angleOn_19 rfl rfl ?_
      refine ev_goto (tgt := 7) de_Ri_angleOn_22 (by decide) ?_
      exact ih (k + 1) (by omega) (by omega)
set_option maxHeartbeats 4000000 in
set_option maxRecDepth 10000 in
theorem co_Ri_angleOn_j {o : Nat} {f : Int → Int} {x B : Int} {w : ab_W} (hI : sg_ok B f) (hR : ri_at_j o f x w) (nn : Int) (hn0 : 0 ≤ nn) (hn1 : nn ≤ 100000) : ab_Mt g_G g_rs mt_Ri_angleOn 2 0 0 [ab_R o, ab_I nn] w (ab_is (some (ab_I (cs_ang f nn.toNat))) w) := by
  have hR0 := hR
  have hI0 := hI
  obtain ⟨sl, fs, vo, li, ra, wo, dh, da, hzz⟩ := hR
  obtain ⟨ds, dn, vw, q0, q1, q2, q3, q4, hzz⟩ := hzz
  obtain ⟨q5, q6, q7, q8, q9, q10, q11, q12, hzz⟩ := hzz
  obtain ⟨e1, e2, e3, e4, e5, e6, e7, e8, e9⟩ := hzz
  obtain ⟨i0, i1, i2, i3, i4, i5, i6, i7, hzz⟩ := sg_all hI
  obtain ⟨i8, i9, i10, i11, i12, i13, i14, i15, hzz⟩ := hzz
  obtain ⟨i16, i17⟩ := hzz
  refine ab_Mt.of rfl (Nat.le_of_ble_eq_true rfl) ?_
  show ab_Ev g_G g_rs mt_Ri_angleOn _ _ _ 0 [some (ab_R o), some (ab_I nn), none, none] [] _ _
  refine ev_aload_n de_Ri_angleOn_0 rfl rfl ?_
  refine ev_getfield de_Ri_angleOn_1 q0 fl_Ri_45 rfl ?_
  refine ev_istore_n (l' := [_, _, _, _]) de_Ri_angleOn_4 rfl (Nat.le_of_ble_eq_true rfl) rfl ?_
  refine ev_iconst de_Ri_angleOn_5 ?_
  refine ev_istore_n (l' := [_, _, _, _]) de_Ri_angleOn_6 rfl (Nat.le_of_ble_eq_true rfl) rfl ?_
  exact lo_Ri_angleOn_j hI0 hR0 nn hn0 hn1 (nn.toNat + 1) 0 (by omega) (by omega)
set_option maxHeartbeats 4000000 in
set_option maxRecDepth 10000 in
theorem co_Ri_wantsStay_j {o : Nat} {f : Int → Int} {x B : Int} {w : ab_W} (hI : sg_ok B f) (hR : ri_at_j o f x w) (h0 : Int) (hh0 : 0 ≤ h0) (hh1 : h0 < f 1) : ab_Mt g_G g_rs mt_Ri_wantsStay 2 0 0 [ab_R o, ab_I h0] w (ab_is (some (ab_I (sp_wantsI f h0))) w) := by
  have hR0 := hR
  have hI0 := hI
  obtain ⟨sl, fs, vo, li, ra, wo, dh, da, hzz⟩ := hR
  obtain ⟨ds, dn, vw, q0, q1, q2, q3, q4, hzz⟩ := hzz
  obtain ⟨q5, q6, q7, q8, q9, q10, q11, q12, hzz⟩ := hzz
  obtain ⟨e1, e2, e3, e4, e5, e6, e7, e8, e9⟩ := hzz
  obtain ⟨i0, i1, i2, i3, i4, i5, i6, i7, hzz⟩ := sg_all hI
  obtain ⟨i8, i9, i10, i11, i12, i13, i14, i15, hzz⟩ := hzz
  obtain ⟨i16, i17⟩ := hzz
  refine ab_Mt.of rfl (Nat.le_of_ble_eq_true rfl) ?_
  show ab_Ev g_G g_rs mt_Ri_wantsStay _ _ _ 0 [some (ab_R o), some (ab_I h0), none] [] _ _
  have z1 := e1 h0 hh0 (by omega)
  have z2 := (e2 h0 hh0 hh1).1
  have z5 := e5 (f 5) (by omega) (by omega)
  have z9 := i9 (10 + f 5) (by omega) (by omega)
  have l1 := sp_like_b hI0 hh0 (show h0 < 7 by omega) (sp_sortsAt f ((sl h0 + f 4) % 12) (f 5)) 5 (by decide)
  have l2 := sp_like_b hI0 hh0 (show h0 < 7 by omega) (sp_sortsAt f ((sl h0 + (f 4 + ra (f 5)) % 12) % 12) (f 5)) 5 (by decide)
  have em : sp_likesAt f h0 ((sp_facesOf f h0 + sp_rateNow f) % 12) (f 5) = sp_likesAt f h0 ((sl h0 + (f 4 + ra (f 5)) % 12) % 12) (f 5) := by unfold sp_facesOf sp_rateNow; rw [z2, z5]; congr 1; omega
  have en : sp_likesOf f h0 = sp_likesAt f h0 ((sl h0 + f 4) % 12) (f 5) := by unfold sp_likesOf sp_facesOf; rw [z2]
  refine ev_aload_n de_Ri_wantsStay_0 rfl rfl ?_
  refine ev_getfield de_Ri_wantsStay_1 q0 fl_Ri_45 rfl ?_
  refine ev_aload_n de_Ri_wantsStay_4 rfl rfl ?_
  refine ev_getfield de_Ri_wantsStay_5 q0 fl_Ri_28 rfl ?_
  refine ev_aload_n de_Ri_wantsStay_8 rfl rfl ?_
  refine ev_getfield de_Ri_wantsStay_9 q0 fl_Ri_49 rfl ?_
  refine ev_iaload de_Ri_wantsStay_12 q6 (by omega) (by omega) (by omega) ?_
  refine ev_iadd de_Ri_wantsStay_13 ?_
  refine ev_sv de_Ri_wantsStay_14 (co_Tu_wrapped _ _ (by omega)) kb_Ri_131 sc_Tu_wrapped rfl (Nat.le_of_ble_eq_true rfl) (by decide) rfl ?_
  refine ev_istore_n (l' := [_, _, _]) de_Ri_wantsStay_17 rfl (Nat.le_of_ble_eq_true rfl) rfl ?_
  refine ev_aload_n de_Ri_wantsStay_18 rfl rfl ?_
  refine ev_iload_n de_Ri_wantsStay_19 rfl rfl ?_
  refine ev_aload_n de_Ri_wantsStay_20 rfl rfl ?_
  refine ev_getfield de_Ri_wantsStay_21 q0 fl_Ri_9 rfl ?_
  refine ev_iload_n de_Ri_wantsStay_24 rfl rfl ?_
  refine ev_iaload de_Ri_wantsStay_25 q1 (by omega) (by omega) (by omega) ?_
  refine ev_aload_n de_Ri_wantsStay_26 rfl rfl ?_
  refine ev_getfield de_Ri_wantsStay_27 q0 fl_Ri_45 rfl ?_
  refine ev_aload_n de_Ri_wantsStay_30 rfl rfl ?_
  refine ev_getfield de_Ri_wantsStay_31 q0 fl_Ri_49 rfl ?_
  refine ev_vv (ci := 5) de_Ri_wantsStay_34 (co_Ri_likesIn_j hI0 hR0 h0 (sl h0) (f 4) (f 5) hh0 hh1 z1.1.1 z1.1.2 (by omega) (by omega) (by omega) (by omega)) kb_Ri_106 ⟨im_Ri_likesIn, se_Ri_likesIn⟩ rfl q0 rfl (Nat.le_of_ble_eq_true rfl) (by decide) rfl ?_
  refine ev_aload_n de_Ri_wantsStay_37 rfl rfl ?_
  refine ev_iload_n de_Ri_wantsStay_38 rfl rfl ?_
  refine ev_aload_n de_Ri_wantsStay_39 rfl rfl ?_
  refine ev_getfield de_Ri_wantsStay_40 q0 fl_Ri_9 rfl ?_
  refine ev_iload_n de_Ri_wantsStay_43 rfl rfl ?_
  refine ev_iaload de_Ri_wantsStay_44 q1 (by omega) (by omega) (by omega) ?_
  refine ev_iload_n de_Ri_wantsStay_45 rfl rfl ?_
  refine ev_aload_n de_Ri_wantsStay_46 rfl rfl ?_
  refine ev_getfield de_Ri_wantsStay_47 q0 fl_Ri_49 rfl ?_
  refine ev_vv (ci := 5) de_Ri_wantsStay_50 (co_Ri_likesIn_j hI0 hR0 h0 (sl h0) ((f 4 + ra (f 5)) % 12) (f 5) hh0 hh1 z1.1.1 z1.1.2 (by omega) (by omega) (by omega) (by omega)) kb_Ri_106 ⟨im_Ri_likesIn, se_Ri_likesIn⟩ rfl q0 rfl (Nat.le_of_ble_eq_true rfl) (by decide) rfl ?_
  refine ev_icmp_le (tgt := 60) de_Ri_wantsStay_53 (by decide) (by unfold sp_likesAt; omega) (by unfold sp_likesAt; omega) (fun h53 => ?_) (fun h53 => ?_)
  · skip
    refine ev_iconst de_Ri_wantsStay_60 ?_
    exact ev_zreturn de_Ri_wantsStay_61 rfl (by decide) ⟨by unfold sp_wantsI; rw [em, en]; first | rw [if_pos (by omega)] | rw [if_neg (by omega)], rfl⟩
  · skip
    refine ev_iconst de_Ri_wantsStay_56 ?_
    refine ev_goto (tgt := 61) de_Ri_wantsStay_57 (by decide) ?_
    exact ev_zreturn de_Ri_wantsStay_61 rfl (by decide) ⟨by unfold sp_wantsI; rw [em, en]; first | rw [if_pos (by omega)] | rw [if_neg (by omega)], rfl⟩
set_option maxHeartbeats 4000000 in
set_option maxRecDepth 10000 in
theorem lo_Ri_votesOf_j {o : Nat} {f : Int → Int} {x B : Int} {w : ab_W} (hI : sg_ok B f) (hR : ri_at_j o f x w) (s : Int) (hs0 : 0 ≤ s) (hs1 : s ≤ 2147483647) : ∀ (n : Nat) (k : Nat), (k : Int) ≤ f 1 → f 1 < k + n → ab_Ev g_G g_rs mt_Ri_votesOf 0 0 0 4 [some (ab_R o), some (ab_I s), some (ab_I (sp_sum (fun h => if s.toNat.testBit h.toNat then f (53 + h) else 0) k)), some (ab_I (k : Int))] [] w (ab_is (some (ab_I (sp_votesOf f s.toNat))) w) := by
  intro n
  induction n with
  | zero =>
    intro k
    intro g1 g2; omega
  | succ n ih =>
    intro k
    intro g1 g2
    have hR0 := hR
    have hI0 := hI
    obtain ⟨sl, fs, vo, li, ra, wo, dh, da, hzz⟩ := hR
    obtain ⟨ds, dn, vw, q0, q1, q2, q3, q4, hzz⟩ := hzz
    obtain ⟨q5, q6, q7, q8, q9, q10, q11, q12, hzz⟩ := hzz
    obtain ⟨e1, e2, e3, e4, e5, e6, e7, e8, e9⟩ := hzz
    obtain ⟨i0, i1, i2, i3, i4, i5, i6, i7, hzz⟩ := sg_all hI
    obtain ⟨i8, i9, i10, i11, i12, i13, i14, i15, hzz⟩ := hzz
    obtain ⟨i16, i17⟩ := hzz
    have qb := bit_01 s.toNat k
    refine ev_iload_n de_Ri_votesOf_4 rfl rfl ?_
    refine ev_aload_n de_Ri_votesOf_5 rfl rfl ?_
    refine ev_getfield de_Ri_votesOf_6 q0 fl_Ri_64 rfl ?_
    refine ev_icmp_ge (tgt := 35) de_Ri_votesOf_9 (by decide) (by omega) (by omega) (fun h9 => ?_) (fun h9 => ?_)
    · skip
      have ek : k = (f 1).toNat := by omega
      subst ek
      refine ev_iload_n de_Ri_votesOf_35 rfl rfl ?_
      exact ev_ireturn de_Ri_votesOf_36 rfl ⟨rfl, rfl⟩
    · skip
      refine ev_iload_n de_Ri_votesOf_12 rfl rfl ?_
      refine ev_iload_n de_Ri_votesOf_13 rfl rfl ?_
      refine ev_ishr de_Ri_votesOf_14 (by omega) (by omega) (by omega) ?_
      refine ev_iconst de_Ri_votesOf_15 ?_
      refine ev_iand de_Ri_votesOf_16 ?_
      refine ev_top (congrArg Sum.inl (show _ = bit_at s.toNat k from ab_bit (k := (k : Int)) hs0 hs1)) ?_
      refine ev_if_eq (tgt := 29) de_Ri_votesOf_17 (by decide) (by omega) (fun h17 => ?_) (fun h17 => ?_)
      · skip
        have tb : s.toNat.testBit k = false := bit_z.mp h17
        have eS : sp_sum (fun h => if s.toNat.testBit h.toNat then f (53 + h) else 0) k = sp_sum (fun h => if s.toNat.testBit h.toNat then f (53 + h) else 0) (k + 1) := by simp [sp_sum, tb]
        refine ev_iinc (l' := [_, _, _, _]) de_Ri_votesOf_29 rfl rfl ?_
        refine ev_goto (tgt := 4) de_Ri_votesOf_32 (by decide) ?_
        refine ev_loc (l2 := [some (ab_R o), some (ab_I s), some (ab_I (sp_sum (fun h => if s.toNat.testBit h.toNat then f (53 + h) else 0) (k + 1))), some (ab_I ((k + 1 : Nat) : Int))]) (by rw [← eS]; rfl) ?_
        exact ih (k + 1) (by omega) (by omega)
      · skip
        have tb : s.toNat.testBit k = true := bit_nz.mp h17
        have z2 := (e2 (k : Int) (by omega) (by omega)).2.2
        have eS : sp_sum (fun h => if s.toNat.testBit h.toNat then f (53 + h) else 0) k + vo k = sp_sum (fun h => if s.toNat.testBit h.toNat then f (53 + h) else 0) (k + 1) := by simp [sp_sum, tb, z2]
        refine ev_iload_n de_Ri_votesOf_20 rfl rfl ?_
        refine ev_aload_n de_Ri_votesOf_21 rfl rfl ?_
        refine ev_getfield de_Ri_votesOf_22 q0 fl_Ri_18 rfl ?_
        refine ev_iload_n de_Ri_votesOf_25 rfl rfl ?_
        refine ev_iaload de_Ri_votesOf_26 q3 (by omega) (by omega) (by omega) ?_
        refine ev_iadd de_Ri_votesOf_27 ?_
        refine ev_istore_n (l' := [_, _, _, _]) de_Ri_votesOf_28 rfl (Nat.le_of_ble_eq_true rfl) rfl ?_
        refine ev_iinc (l' := [_, _, _, _]) de_Ri_votesOf_29 rfl rfl ?_
        refine ev_goto (tgt := 4) de_Ri_votesOf_32 (by decide) ?_
        refine ev_loc (l2 := [some (ab_R o), some (ab_I s), some (ab_I (sp_sum (fun h => if s.toNat.testBit h.toNat then f (53 + h) else 0) (k + 1))), some (ab_I ((k + 1 : Nat) : Int))]) (by rw [← eS]; rfl) ?_
        exact ih (k + 1) (by omega) (by omega)
set_option maxHeartbeats 4000000 in
set_option maxRecDepth 10000 in
theorem co_Ri_votesOf_j {o : Nat} {f : Int → Int} {x B : Int} {w : ab_W} (hI : sg_ok B f) (hR : ri_at_j o f x w) (s : Int) (hs0 : 0 ≤ s) (hs1 : s ≤ 2147483647) : ab_Mt g_G g_rs mt_Ri_votesOf 0 0 0 [ab_R o, ab_I s] w (ab_is (some (ab_I (sp_votesOf f s.toNat))) w) := by
  have hR0 := hR
  have hI0 := hI
  obtain ⟨sl, fs, vo, li, ra, wo, dh, da, hzz⟩ := hR
  obtain ⟨ds, dn, vw, q0, q1, q2, q3, q4, hzz⟩ := hzz
  obtain ⟨q5, q6, q7, q8, q9, q10, q11, q12, hzz⟩ := hzz
  obtain ⟨e1, e2, e3, e4, e5, e6, e7, e8, e9⟩ := hzz
  obtain ⟨i0, i1, i2, i3, i4, i5, i6, i7, hzz⟩ := sg_all hI
  obtain ⟨i8, i9, i10, i11, i12, i13, i14, i15, hzz⟩ := hzz
  obtain ⟨i16, i17⟩ := hzz
  refine ab_Mt.of rfl (Nat.le_of_ble_eq_true rfl) ?_
  show ab_Ev g_G g_rs mt_Ri_votesOf _ _ _ 0 [some (ab_R o), some (ab_I s), none, none] [] _ _
  refine ev_iconst de_Ri_votesOf_0 ?_
  refine ev_istore_n (l' := [_, _, _, _]) de_Ri_votesOf_1 rfl (Nat.le_of_ble_eq_true rfl) rfl ?_
  refine ev_iconst de_Ri_votesOf_2 ?_
  refine ev_istore_n (l' := [_, _, _, _]) de_Ri_votesOf_3 rfl (Nat.le_of_ble_eq_true rfl) rfl ?_
  exact lo_Ri_votesOf_j hI0 hR0 s hs0 hs1 8 0 (by omega) (by omega)
set_option maxHeartbeats 4000000 in
set_option maxRecDepth 10000 in
theorem co_Ri_allVotes_j {o : Nat} {f : Int → Int} {x B : Int} {w : ab_W} (hI : sg_ok B f) (hR : ri_at_j o f x w) : ab_Mt g_G g_rs mt_Ri_allVotes 1 0 0 [ab_R o] w (ab_is (some (ab_I (sp_votesOf f (sp_every f)))) w) := by
  have hR0 := hR
  have hI0 := hI
  obtain ⟨sl, fs, vo, li, ra, wo, dh, da, hzz⟩ := hR
  obtain ⟨ds, dn, vw, q0, q1, q2, q3, q4, hzz⟩ := hzz
  obtain ⟨q5, q6, q7, q8, q9, q10, q11, q12, hzz⟩ := hzz
  obtain ⟨e1, e2, e3, e4, e5, e6, e7, e8, e9⟩ := hzz
  obtain ⟨i0, i1, i2, i3, i4, i5, i6, i7, hzz⟩ := sg_all hI
  obtain ⟨i8, i9, i10, i11, i12, i13, i14, i15, hzz⟩ := hzz
  obtain ⟨i16, i17⟩ := hzz
  refine ab_Mt.of rfl (Nat.le_of_ble_eq_true rfl) ?_
  show ab_Ev g_G g_rs mt_Ri_allVotes _ _ _ 0 [some (ab_R o)] [] _ _
  have ev := cs_every (f := f) (by omega) (by omega)
  refine ev_aload_n de_Ri_allVotes_0 rfl rfl ?_
  refine ev_iconst de_Ri_allVotes_1 ?_
  refine ev_aload_n de_Ri_allVotes_2 rfl rfl ?_
  refine ev_getfield de_Ri_allVotes_3 q0 fl_Ri_64 rfl ?_
  refine ev_ishl de_Ri_allVotes_6 (by omega) (by omega) ?_
  refine ev_iconst de_Ri_allVotes_7 ?_
  refine ev_isub de_Ri_allVotes_8 ?_
  refine ev_top (congrArg Sum.inl ev.1) ?_
  refine ev_vv (ci := 5) de_Ri_allVotes_9 (co_Ri_votesOf_j hI0 hR0 _ ev.2.1 (by omega)) kb_Ri_137 ⟨im_Ri_votesOf, se_Ri_votesOf⟩ rfl q0 rfl (Nat.le_of_ble_eq_true rfl) (by decide) rfl ?_
  exact ev_ireturn de_Ri_allVotes_12 rfl ⟨by rw [Int.toNat_natCast], rfl⟩
set_option maxHeartbeats 4000000 in
set_option maxRecDepth 10000 in
theorem lo_Ri_stayVotes_j {o : Nat} {f : Int → Int} {x B : Int} {w : ab_W} (hI : sg_ok B f) (hR : ri_at_j o f x w) : ∀ (n : Nat) (k : Nat), (k : Int) ≤ f 1 → f 1 < k + n → ab_Ev g_G g_rs mt_Ri_stayVotes 3 0 0 4 [some (ab_R o), some (ab_I (cs_sv f k)), some (ab_I (k : Int))] [] w (ab_is (some (ab_I (cs_sv f (f 1).toNat))) w) := by
  intro n
  induction n with
  | zero =>
    intro k
    intro g1 g2; omega
  | succ n ih =>
    intro k
    intro g1 g2
    have hR0 := hR
    have hI0 := hI
    obtain ⟨sl, fs, vo, li, ra, wo, dh, da, hzz⟩ := hR
    obtain ⟨ds, dn, vw, q0, q1, q2, q3, q4, hzz⟩ := hzz
    obtain ⟨q5, q6, q7, q8, q9, q10, q11, q12, hzz⟩ := hzz
    obtain ⟨e1, e2, e3, e4, e5, e6, e7, e8, e9⟩ := hzz
    obtain ⟨i0, i1, i2, i3, i4, i5, i6, i7, hzz⟩ := sg_all hI
    obtain ⟨i8, i9, i10, i11, i12, i13, i14, i15, hzz⟩ := hzz
    obtain ⟨i16, i17⟩ := hzz
    refine ev_iload_n de_Ri_stayVotes_4 rfl rfl ?_
    refine ev_aload_n de_Ri_stayVotes_5 rfl rfl ?_
    refine ev_getfield de_Ri_stayVotes_6 q0 fl_Ri_64 rfl ?_
    refine ev_icmp_ge (tgt := 35) de_Ri_stayVotes_9 (by decide) (by omega) (by omega) (fun h9 => ?_) (fun h9 => ?_)
    · skip
      have ek : k = (f 1).toNat := by omega
      subst ek
      refine ev_iload_n de_Ri_stayVotes_35 rfl rfl ?_
      exact ev_ireturn de_Ri_stayVotes_36 rfl ⟨rfl, rfl⟩
    · skip
      refine ev_aload_n de_Ri_stayVotes_12 rfl rfl ?_
      refine ev_iload_n de_Ri_stayVotes_13 rfl rfl ?_
      refine ev_vv (ci := 5) de_Ri_stayVotes_14 (co_Ri_wantsStay_j hI0 hR0 (k : Int) (by omega) (by omega)) kb_Ri_134 ⟨im_Ri_wantsStay, se_Ri_wantsStay⟩ rfl q0 rfl (Nat.le_of_ble_eq_true rfl) (by decide) rfl ?_
      refine ev_if_eq (tgt := 29) de_Ri_stayVotes_17 (by decide) (by unfold sp_wantsI; split <;> decide) (fun h17 => ?_) (fun h17 => ?_)
      · skip
        have eS : cs_sv f k = cs_sv f (k + 1) := by unfold cs_sv; simp [sp_sum, h17]
        refine ev_iinc (l' := [_, _, _]) de_Ri_stayVotes_29 rfl rfl ?_
        refine ev_goto (tgt := 4) de_Ri_stayVotes_32 (by decide) ?_
        refine ev_loc (l2 := [some (ab_R o), some (ab_I (cs_sv f (k + 1))), some (ab_I ((k + 1 : Nat) : Int))]) (by rw [← eS]; rfl) ?_
        exact ih (k + 1) (by omega) (by omega)
      · skip
        have wi : sp_wantsI f (k : Int) = 1 := by unfold sp_wantsI at h17 ⊢; split at h17; (rename_i c; rw [if_pos c]); exact absurd rfl h17
        have z2 := (e2 (k : Int) (by omega) (by omega)).2.2
        have eS : cs_sv f k + vo k = cs_sv f (k + 1) := by unfold cs_sv; simp [sp_sum, wi, z2]
        refine ev_iload_n de_Ri_stayVotes_20 rfl rfl ?_
        refine ev_aload_n de_Ri_stayVotes_21 rfl rfl ?_
        refine ev_getfield de_Ri_stayVotes_22 q0 fl_Ri_18 rfl ?_
        refine ev_iload_n de_Ri_stayVotes_25 rfl rfl ?_
        refine ev_iaload de_Ri_stayVotes_26 q3 (by omega) (by omega) (by omega) ?_
        refine ev_iadd de_Ri_stayVotes_27 ?_
        refine ev_istore_n (l' := [_, _, _]) de_Ri_stayVotes_28 rfl (Nat.le_of_ble_eq_true rfl) rfl ?_
        refine ev_iinc (l' := [_, _, _]) de_Ri_stayVotes_29 rfl rfl ?_
        refine ev_goto (tgt := 4) de_Ri_stayVotes_32 (by decide) ?_
        refine ev_loc (l2 := [some (ab_R o), some (ab_I (cs_sv f (k + 1))), some (ab_I ((k + 1 : Nat) : Int))]) (by rw [← eS]; rfl) ?_
        exact ih (k + 1) (by omega) (by omega)
set_option maxHeartbeats 4000000 in
set_option maxRecDepth 10000 in
theorem co_Ri_stayVotes_j {o : Nat} {f : Int → Int} {x B : Int} {w : ab_W} (hI : sg_ok B f) (hR : ri_at_j o f x w) : ab_Mt g_G g_rs mt_Ri_stayVotes 3 0 0 [ab_R o] w (ab_is (some (ab_I (cs_sv f (f 1).toNat))) w) := by
  have hR0 := hR
  have hI0 := hI
  obtain ⟨sl, fs, vo, li, ra, wo, dh, da, hzz⟩ := hR
  obtain ⟨ds, dn, vw, q0, q1, q2, q3, q4, hzz⟩ := hzz
  obtain ⟨q5, q6, q7, q8, q9, q10, q11, q12, hzz⟩ := hzz
  obtain ⟨e1, e2, e3, e4, e5, e6, e7, e8, e9⟩ := hzz
  obtain ⟨i0, i1, i2, i3, i4, i5, i6, i7, hzz⟩ := sg_all hI
  obtain ⟨i8, i9, i10, i11, i12, i13, i14, i15, hzz⟩ := hzz
  obtain ⟨i16, i17⟩ := hzz
  refine ab_Mt.of rfl (Nat.le_of_ble_eq_true rfl) ?_
  show ab_Ev g_G g_rs mt_Ri_stayVotes _ _ _ 0 [some (ab_R o), none, none] [] _ _
  refine ev_iconst de_Ri_stayVotes_0 ?_
  refine ev_istore_n (l' := [_, _, _]) de_Ri_stayVotes_1 rfl (Nat.le_of_ble_eq_true rfl) rfl ?_
  refine ev_iconst de_Ri_stayVotes_2 ?_
  refine ev_istore_n (l' := [_, _, _]) de_Ri_stayVotes_3 rfl (Nat.le_of_ble_eq_true rfl) rfl ?_
  exact lo_Ri_stayVotes_j hI0 hR0 8 0 (by omega) (by omega)
set_option maxHeartbeats 4000000 in
set_option maxRecDepth 10000 in
theorem lo_Ri_atGates_j {o : Nat} {f : Int → Int} {x B : Int} {w : ab_W} (hI : sg_ok B f) (hR : ri_at_j o f x w) : ∀ (n : Nat) (k : Nat), (k : Int) ≤ f 1 → f 1 < k + n → ab_Ev g_G g_rs mt_Ri_atGates 2 0 0 4 [some (ab_R o), some (ab_I (sp_sum (fun h => bit_at (f 3).toNat (sp_facesOf f h).toNat) k)), some (ab_I (k : Int))] [] w (ab_is (some (ab_I (sp_atGates f))) w) := by
  intro n
  induction n with
  | zero =>
    intro k
    intro g1 g2; omega
  | succ n ih =>
    intro k
    intro g1 g2
    have hR0 := hR
    have hI0 := hI
    obtain ⟨sl, fs, vo, li, ra, wo, dh, da, hzz⟩ := hR
    obtain ⟨ds, dn, vw, q0, q1, q2, q3, q4, hzz⟩ := hzz
    obtain ⟨q5, q6, q7, q8, q9, q10, q11, q12, hzz⟩ := hzz
    obtain ⟨e1, e2, e3, e4, e5, e6, e7, e8, e9⟩ := hzz
    obtain ⟨i0, i1, i2, i3, i4, i5, i6, i7, hzz⟩ := sg_all hI
    obtain ⟨i8, i9, i10, i11, i12, i13, i14, i15, hzz⟩ := hzz
    obtain ⟨i16, i17⟩ := hzz
    have fb := sp_facesOf_b f (k : Int)
    have qb := bit_01 (f 3).toNat (sp_facesOf f (k : Int)).toNat
    refine ev_iload_n de_Ri_atGates_4 rfl rfl ?_
    refine ev_aload_n de_Ri_atGates_5 rfl rfl ?_
    refine ev_getfield de_Ri_atGates_6 q0 fl_Ri_64 rfl ?_
    refine ev_icmp_ge (tgt := 33) de_Ri_atGates_9 (by decide) (by omega) (by omega) (fun h9 => ?_) (fun h9 => ?_)
    · skip
      have ek : k = (f 1).toNat := by omega
      subst ek
      refine ev_iload_n de_Ri_atGates_33 rfl rfl ?_
      exact ev_ireturn de_Ri_atGates_34 rfl ⟨rfl, rfl⟩
    · skip
      refine ev_aload_n de_Ri_atGates_12 rfl rfl ?_
      refine ev_aload_n de_Ri_atGates_13 rfl rfl ?_
      refine ev_iload_n de_Ri_atGates_14 rfl rfl ?_
      refine ev_vv (ci := 5) de_Ri_atGates_15 (co_Ri_facing_j hI0 hR0 (k : Int) (by omega) (by omega)) kb_Ri_99 ⟨im_Ri_facing, se_Ri_facing⟩ rfl q0 rfl (Nat.le_of_ble_eq_true rfl) (by decide) rfl ?_
      refine ev_vv (ci := 5) de_Ri_atGates_18 (co_Ri_isGate_j hI0 hR0 _ (by omega) (by omega)) kb_Ri_121 ⟨im_Ri_isGate, se_Ri_isGate⟩ rfl q0 rfl (Nat.le_of_ble_eq_true rfl) (by decide) rfl ?_
      refine ev_if_eq (tgt := 27) de_Ri_atGates_21 (by decide) (by omega) (fun h21 => ?_) (fun h21 => ?_)
      · skip
        have eS : sp_sum (fun h => bit_at (f 3).toNat (sp_facesOf f h).toNat) k = sp_sum (fun h => bit_at (f 3).toNat (sp_facesOf f h).toNat) (k + 1) := by show _ = sp_sum (fun h => bit_at (f 3).toNat (sp_facesOf f h).toNat) k + bit_at (f 3).toNat (sp_facesOf f (k : Int)).toNat; omega
        refine ev_iinc (l' := [_, _, _]) de_Ri_atGates_27 rfl rfl ?_
        refine ev_goto (tgt := 4) de_Ri_atGates_30 (by decide) ?_
        refine ev_loc (l2 := [some (ab_R o), some (ab_I (sp_sum (fun h => bit_at (f 3).toNat (sp_facesOf f h).toNat) (k + 1))), some (ab_I ((k + 1 : Nat) : Int))]) (by rw [← eS]; rfl) ?_
        exact ih (k + 1) (by omega) (by omega)
      · skip
        have eS : sp_sum (fun h => bit_at (f 3).toNat (sp_facesOf f h).toNat) k + 1 = sp_sum (fun h => bit_at (f 3).toNat (sp_facesOf f h).toNat) (k + 1) := by show _ = sp_sum (fun h => bit_at (f 3).toNat (sp_facesOf f h).toNat) k + bit_at (f 3).toNat (sp_facesOf f (k : Int)).toNat; omega
        refine ev_iinc (l' := [_, _, _]) de_Ri_atGates_24 rfl rfl ?_
        refine ev_iinc (l' := [_, _, _]) de_Ri_atGates_27 rfl rfl ?_
        refine ev_goto (tgt := 4) de_Ri_atGates_30 (by decide) ?_
        refine ev_loc (l2 := [some (ab_R o), some (ab_I (sp_sum (fun h => bit_at (f 3).toNat (sp_facesOf f h).toNat) (k + 1))), some (ab_I ((k + 1 : Nat) : Int))]) (by rw [← eS]; rfl) ?_
        exact ih (k + 1) (by omega) (by omega)
set_option maxHeartbeats 4000000 in
set_option maxRecDepth 10000 in
theorem co_Ri_atGates_j {o : Nat} {f : Int → Int} {x B : Int} {w : ab_W} (hI : sg_ok B f) (hR : ri_at_j o f x w) : ab_Mt g_G g_rs mt_Ri_atGates 2 0 0 [ab_R o] w (ab_is (some (ab_I (sp_atGates f))) w) := by
  have hR0 := hR
  have hI0 := hI
  obtain ⟨sl, fs, vo, li, ra, wo, dh, da, hzz⟩ := hR
  obtain ⟨ds, dn, vw, q0, q1, q2, q3, q4, hzz⟩ := hzz
  obtain ⟨q5, q6, q7, q8, q9, q10, q11, q12, hzz⟩ := hzz
  obtain ⟨e1, e2, e3, e4, e5, e6, e7, e8, e9⟩ := hzz
  obtain ⟨i0, i1, i2, i3, i4, i5, i6, i7, hzz⟩ := sg_all hI
  obtain ⟨i8, i9, i10, i11, i12, i13, i14, i15, hzz⟩ := hzz
  obtain ⟨i16, i17⟩ := hzz
  refine ab_Mt.of rfl (Nat.le_of_ble_eq_true rfl) ?_
  show ab_Ev g_G g_rs mt_Ri_atGates _ _ _ 0 [some (ab_R o), none, none] [] _ _
  refine ev_iconst de_Ri_atGates_0 ?_
  refine ev_istore_n (l' := [_, _, _]) de_Ri_atGates_1 rfl (Nat.le_of_ble_eq_true rfl) rfl ?_
  refine ev_iconst de_Ri_atGates_2 ?_
  refine ev_istore_n (l' := [_, _, _]) de_Ri_atGates_3 rfl (Nat.le_of_ble_eq_true rfl) rfl ?_
  exact lo_Ri_atGates_j hI0 hR0 8 0 (by omega) (by omega)
set_option maxHeartbeats 4000000 in
set_option maxRecDepth 10000 in
theorem lo_Ri_dayIn_j {o : Nat} {f : Int → Int} {x B : Int} {w : ab_W} (hI : sg_ok B f) (hR : ri_at_j o f x w) (h0 s0 : Int) (hh0 : 0 ≤ h0) (hh1 : h0 < f 1) (hs0 : 0 ≤ s0) (hs1 : s0 ≤ 11) : ∀ (n : Nat) (k : Nat), k ≤ 24 → 24 < k + n → ab_Ev g_G g_rs mt_Ri_dayIn 2 0 0 11 [some (ab_R o), some (ab_I h0), some (ab_I s0), some (ab_I (cs_day f h0 s0 k)), some (ab_I (cs_ang f k)), some (ab_I (k : Int))] [] w (ab_is (some (ab_I (cs_day f h0 s0 24))) w) := by
  intro n
  induction n with
  | zero =>
    intro k
    intro g1 g2; omega
  | succ n ih =>
    intro k
    intro g1 g2
    have hR0 := hR
    have hI0 := hI
    obtain ⟨sl, fs, vo, li, ra, wo, dh, da, hzz⟩ := hR
    obtain ⟨ds, dn, vw, q0, q1, q2, q3, q4, hzz⟩ := hzz
    obtain ⟨q5, q6, q7, q8, q9, q10, q11, q12, hzz⟩ := hzz
    obtain ⟨e1, e2, e3, e4, e5, e6, e7, e8, e9⟩ := hzz
    obtain ⟨i0, i1, i2, i3, i4, i5, i6, i7, hzz⟩ := sg_all hI
    obtain ⟨i8, i9, i10, i11, i12, i13, i14, i15, hzz⟩ := hzz
    obtain ⟨i16, i17⟩ := hzz
    have cb := cs_ang_b hI0 k
    refine ev_iload de_Ri_dayIn_11 rfl ?_
    refine ev_bipush de_Ri_dayIn_13 rfl ?_
    refine ev_icmp_ge (tgt := 51) de_Ri_dayIn_15 (by decide) (by omega) (by omega) (fun h15 => ?_) (fun h15 => ?_)
    · skip
      have ek : k = 24 := by omega
      subst ek
      refine ev_iload_n de_Ri_dayIn_51 rfl rfl ?_
      exact ev_ireturn de_Ri_dayIn_52 rfl ⟨rfl, rfl⟩
    · skip
      refine ev_iload_n de_Ri_dayIn_18 rfl rfl ?_
      refine ev_aload_n de_Ri_dayIn_19 rfl rfl ?_
      refine ev_iload_n de_Ri_dayIn_20 rfl rfl ?_
      refine ev_iload_n de_Ri_dayIn_21 rfl rfl ?_
      refine ev_iload de_Ri_dayIn_22 rfl ?_
      refine ev_aload_n de_Ri_dayIn_24 rfl rfl ?_
      refine ev_iload de_Ri_dayIn_25 rfl ?_
      refine ev_vv (ci := 5) de_Ri_dayIn_27 (co_Ri_hourOn_j hI0 hR0 (k : Int) (by omega) (by omega)) kb_Ri_125 ⟨im_Ri_hourOn, se_Ri_hourOn⟩ rfl q0 rfl (Nat.le_of_ble_eq_true rfl) (by decide) rfl ?_
      refine ev_vv (ci := 5) de_Ri_dayIn_30 (co_Ri_likesIn_j hI0 hR0 h0 s0 (cs_ang f k) ((f 5 + (k : Int)) % 24) hh0 hh1 hs0 hs1 cb.1 cb.2 (by omega) (by omega)) kb_Ri_106 ⟨im_Ri_likesIn, se_Ri_likesIn⟩ rfl q0 rfl (Nat.le_of_ble_eq_true rfl) (by decide) rfl ?_
      refine ev_iadd de_Ri_dayIn_33 ?_
      refine ev_istore_n (l' := [_, _, _, _, _, _]) de_Ri_dayIn_34 rfl (Nat.le_of_ble_eq_true rfl) rfl ?_
      refine ev_aload_n de_Ri_dayIn_35 rfl rfl ?_
      refine ev_iload de_Ri_dayIn_36 rfl ?_
      refine ev_iload de_Ri_dayIn_38 rfl ?_
      refine ev_vv (ci := 5) de_Ri_dayIn_40 (co_Ri_angleBehind_j hI0 hR0 (cs_ang f k) (k : Int) cb.1 cb.2 (by omega) (by omega)) kb_Ri_128 ⟨im_Ri_angleBehind, se_Ri_angleBehind⟩ rfl q0 rfl (Nat.le_of_ble_eq_true rfl) (by decide) rfl ?_
      refine ev_istore (l' := [_, _, _, _, _, _]) de_Ri_dayIn_43 (Nat.le_of_ble_eq_true rfl) rfl ?_
      refine ev_iinc (l' := [_, _, _, _, _, _]) de_Ri_dayIn_45 rfl rfl ?_
      refine ev_goto (tgt := 11) de_Ri_dayIn_48 (by decide) ?_
      exact ih (k + 1) (by omega) (by omega)
set_option maxHeartbeats 4000000 in
set_option maxRecDepth 10000 in
theorem co_Ri_dayIn_j {o : Nat} {f : Int → Int} {x B : Int} {w : ab_W} (hI : sg_ok B f) (hR : ri_at_j o f x w) (h0 s0 : Int) (hh0 : 0 ≤ h0) (hh1 : h0 < f 1) (hs0 : 0 ≤ s0) (hs1 : s0 ≤ 11) : ab_Mt g_G g_rs mt_Ri_dayIn 2 0 0 [ab_R o, ab_I h0, ab_I s0] w (ab_is (some (ab_I (cs_day f h0 s0 24))) w) := by
  have hR0 := hR
  have hI0 := hI
  obtain ⟨sl, fs, vo, li, ra, wo, dh, da, hzz⟩ := hR
  obtain ⟨ds, dn, vw, q0, q1, q2, q3, q4, hzz⟩ := hzz
  obtain ⟨q5, q6, q7, q8, q9, q10, q11, q12, hzz⟩ := hzz
  obtain ⟨e1, e2, e3, e4, e5, e6, e7, e8, e9⟩ := hzz
  obtain ⟨i0, i1, i2, i3, i4, i5, i6, i7, hzz⟩ := sg_all hI
  obtain ⟨i8, i9, i10, i11, i12, i13, i14, i15, hzz⟩ := hzz
  obtain ⟨i16, i17⟩ := hzz
  refine ab_Mt.of rfl (Nat.le_of_ble_eq_true rfl) ?_
  show ab_Ev g_G g_rs mt_Ri_dayIn _ _ _ 0 [some (ab_R o), some (ab_I h0), some (ab_I s0), none, none, none] [] _ _
  refine ev_iconst de_Ri_dayIn_0 ?_
  refine ev_istore_n (l' := [_, _, _, _, _, _]) de_Ri_dayIn_1 rfl (Nat.le_of_ble_eq_true rfl) rfl ?_
  refine ev_aload_n de_Ri_dayIn_2 rfl rfl ?_
  refine ev_getfield de_Ri_dayIn_3 q0 fl_Ri_45 rfl ?_
  refine ev_istore (l' := [_, _, _, _, _, _]) de_Ri_dayIn_6 (Nat.le_of_ble_eq_true rfl) rfl ?_
  refine ev_iconst de_Ri_dayIn_8 ?_
  refine ev_istore (l' := [_, _, _, _, _, _]) de_Ri_dayIn_9 (Nat.le_of_ble_eq_true rfl) rfl ?_
  exact lo_Ri_dayIn_j hI0 hR0 h0 s0 hh0 hh1 hs0 hs1 25 0 (by omega) (by omega)
set_option maxHeartbeats 4000000 in
set_option maxRecDepth 10000 in
theorem co_Ri_hoursBehind_j {o : Nat} {f : Int → Int} {x B : Int} {w : ab_W} (hI : sg_ok B f) (hR : ri_at_j o f x w) (n : Int) : ab_Mt g_G g_rs mt_Ri_hoursBehind 0 0 0 [ab_R o, ab_I n] w (ab_is (some (ab_I (f 6 * 24 + f 5 + n))) w) := by
  have hR0 := hR
  have hI0 := hI
  obtain ⟨sl, fs, vo, li, ra, wo, dh, da, hzz⟩ := hR
  obtain ⟨ds, dn, vw, q0, q1, q2, q3, q4, hzz⟩ := hzz
  obtain ⟨q5, q6, q7, q8, q9, q10, q11, q12, hzz⟩ := hzz
  obtain ⟨e1, e2, e3, e4, e5, e6, e7, e8, e9⟩ := hzz
  obtain ⟨i0, i1, i2, i3, i4, i5, i6, i7, hzz⟩ := sg_all hI
  obtain ⟨i8, i9, i10, i11, i12, i13, i14, i15, hzz⟩ := hzz
  obtain ⟨i16, i17⟩ := hzz
  refine ab_Mt.of rfl (Nat.le_of_ble_eq_true rfl) ?_
  show ab_Ev g_G g_rs mt_Ri_hoursBehind _ _ _ 0 [some (ab_R o), some (ab_I n)] [] _ _
  refine ev_aload_n de_Ri_hoursBehind_0 rfl rfl ?_
  refine ev_getfield de_Ri_hoursBehind_1 q0 fl_Ri_52 rfl ?_
  refine ev_bipush de_Ri_hoursBehind_4 rfl ?_
  refine ev_imul de_Ri_hoursBehind_6 ?_
  refine ev_aload_n de_Ri_hoursBehind_7 rfl rfl ?_
  refine ev_getfield de_Ri_hoursBehind_8 q0 fl_Ri_49 rfl ?_
  refine ev_iadd de_Ri_hoursBehind_11 ?_
  refine ev_iload_n de_Ri_hoursBehind_12 rfl rfl ?_
  refine ev_iadd de_Ri_hoursBehind_13 ?_
  exact ev_ireturn de_Ri_hoursBehind_14 rfl ⟨rfl, rfl⟩
