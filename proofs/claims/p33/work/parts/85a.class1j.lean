def ri_at_j (o : Nat) (f : Int → Int) (x : Int) (w : ab_W) : Prop := ∃ (sl fs vo li ra wo dh da ds dn : Int → Int) (vw : Int → Int64),
  w[o]? = some (ab_ob 5 [ab_I (f 0), ab_I (f 4), ab_I (f 5), ab_I (f 6), ab_I (f 7), ab_I (f 8), ab_I x, ab_I (f 1), ab_I (f 2), ab_I (f 3), ab_R (o + 1), ab_R (o + 2), ab_R (o + 3), ab_R (o + 4), ab_R (o + 5), ab_R (o + 6), ab_R (o + 7), ab_R (o + 8)]) ∧
  w[o + 1]? = some (ab_ai 0 7 sl) ∧ w[o + 2]? = some (ab_ai 0 7 fs) ∧ w[o + 3]? = some (ab_ai 0 7 vo) ∧ w[o + 4]? = some (ab_ai 0 35 li) ∧ w[o + 5]? = some (ab_al 24 vw) ∧ w[o + 6]? = some (ab_ai 0 24 ra) ∧ w[o + 7]? = some (ab_ai 0 12 wo) ∧ w[o + 8]? = some (ab_ob 1 [ab_I (f 190), ab_R (o + 9), ab_R (o + 10), ab_R (o + 11), ab_R (o + 12)]) ∧ w[o + 9]? = some (ab_ai 0 10 dh) ∧ w[o + 10]? = some (ab_ai 0 10 da) ∧ w[o + 11]? = some (ab_ai 0 10 ds) ∧ w[o + 12]? = some (ab_ai 0 10 dn) ∧
  (∀ k, 0 ≤ k → k < f 1 → (0 ≤ sl k ∧ sl k ≤ 11) ∧ (0 ≤ fs k ∧ fs k ≤ 11) ∧ (0 ≤ vo k ∧ vo k ≤ 9)) ∧ (∀ k, 0 ≤ k → k < f 1 → sl k = f (46 + k) ∧ fs k = f (143 + k) ∧ vo k = f (53 + k)) ∧ (∀ k, 0 ≤ k → k < 5 * f 1 → -9 ≤ li k ∧ li k ≤ 9) ∧ (∀ k, 0 ≤ k → k < 5 * f 1 → li k = f (60 + k)) ∧ (∀ k, 0 ≤ k → k < 24 → ra k = f (10 + k)) ∧ (∀ k, 0 ≤ k → k < 12 → wo k = f (34 + k)) ∧ (∀ d h, 0 ≤ d → d ≤ 11 → 0 ≤ h → h ≤ 23 → cs_sorts vw d h = ((sp_sortsAt f d h : Nat) : Int)) ∧ (∀ k, 0 ≤ k → k < f 190 → (0 ≤ dh k ∧ dh k ≤ 6) ∧ (0 ≤ da k ∧ da k ≤ 99) ∧ (0 ≤ ds k ∧ ds k ≤ 4) ∧ (0 ≤ dn k ∧ dn k ≤ 1)) ∧ (∀ k, 0 ≤ k → k < f 190 → dh k = f (150 + 4 * k) ∧ da k = f (150 + 4 * k + 1) ∧ ds k = f (150 + 4 * k + 2) ∧ dn k = f (150 + 4 * k + 3))
set_option maxHeartbeats 4000000 in
set_option maxRecDepth 10000 in
theorem co_Ri_facing_j {o : Nat} {f : Int → Int} {x B : Int} {w : ab_W} (hI : sg_ok B f) (hR : ri_at_j o f x w) (h0 : Int) (hh0 : 0 ≤ h0) (hh1 : h0 < f 1) : ab_Mt g_G g_rs mt_Ri_facing 1 0 0 [ab_R o, ab_I h0] w (ab_is (some (ab_I (sp_facesOf f h0))) w) := by
  have hR0 := hR
  have hI0 := hI
  obtain ⟨sl, fs, vo, li, ra, wo, dh, da, hzz⟩ := hR
  obtain ⟨ds, dn, vw, q0, q1, q2, q3, q4, hzz⟩ := hzz
  obtain ⟨q5, q6, q7, q8, q9, q10, q11, q12, hzz⟩ := hzz
  obtain ⟨e1, e2, e3, e4, e5, e6, e7, e8, e9⟩ := hzz
  obtain ⟨i0, i1, i2, i3, i4, i5, i6, i7, hzz⟩ := sg_all hI
  obtain ⟨i8, i9, i10, i11, i12, i13, i14, i15, hzz⟩ := hzz
  obtain ⟨i16, i17⟩ := hzz
  refine ab_Mt.of rfl (Nat.le_of_ble_eq_true rfl) ?_
  show ab_Ev g_G g_rs mt_Ri_facing _ _ _ 0 [some (ab_R o), some (ab_I h0)] [] _ _
  have z1 := e1 h0 hh0 (by omega)
  have z2 := (e2 h0 hh0 hh1).1
  refine ev_aload_n de_Ri_facing_0 rfl rfl ?_
  refine ev_getfield de_Ri_facing_1 q0 fl_Ri_9 rfl ?_
  refine ev_iload_n de_Ri_facing_4 rfl rfl ?_
  refine ev_iaload de_Ri_facing_5 q1 (by omega) (by omega) (by omega) ?_
  refine ev_aload_n de_Ri_facing_6 rfl rfl ?_
  refine ev_getfield de_Ri_facing_7 q0 fl_Ri_45 rfl ?_
  refine ev_sv de_Ri_facing_10 (co_Tu_facedBy _ _ _ z1.1.1 z1.1.2 (by omega) (by omega)) kb_Ri_95 sc_Tu_facedBy rfl (Nat.le_of_ble_eq_true rfl) (by decide) rfl ?_
  exact ev_ireturn de_Ri_facing_13 rfl ⟨by unfold sp_facesOf; rw [z2], rfl⟩
set_option maxHeartbeats 4000000 in
set_option maxRecDepth 10000 in
theorem co_Ri_sortsAt_j {o : Nat} {f : Int → Int} {x B : Int} {w : ab_W} (hI : sg_ok B f) (hR : ri_at_j o f x w) (d h : Int) (hd0 : 0 ≤ d) (hd1 : d ≤ 11) (hh0 : 0 ≤ h) (hh1 : h ≤ 23) : ab_Mt g_G g_rs mt_Ri_sortsAt 0 0 0 [ab_R o, ab_I d, ab_I h] w (ab_is (some (ab_I ((sp_sortsAt f d h : Nat)))) w) := by
  have hR0 := hR
  have hI0 := hI
  obtain ⟨sl, fs, vo, li, ra, wo, dh, da, hzz⟩ := hR
  obtain ⟨ds, dn, vw, q0, q1, q2, q3, q4, hzz⟩ := hzz
  obtain ⟨q5, q6, q7, q8, q9, q10, q11, q12, hzz⟩ := hzz
  obtain ⟨e1, e2, e3, e4, e5, e6, e7, e8, e9⟩ := hzz
  obtain ⟨i0, i1, i2, i3, i4, i5, i6, i7, hzz⟩ := sg_all hI
  obtain ⟨i8, i9, i10, i11, i12, i13, i14, i15, hzz⟩ := hzz
  obtain ⟨i16, i17⟩ := hzz
  refine ab_Mt.of rfl (Nat.le_of_ble_eq_true rfl) ?_
  show ab_Ev g_G g_rs mt_Ri_sortsAt _ _ _ 0 [some (ab_R o), some (ab_I d), some (ab_I h)] [] _ _
  refine ev_aload_n de_Ri_sortsAt_0 rfl rfl ?_
  refine ev_getfield de_Ri_sortsAt_1 q0 fl_Ri_24 rfl ?_
  refine ev_iload_n de_Ri_sortsAt_4 rfl rfl ?_
  refine ev_laload de_Ri_sortsAt_5 q5 (by omega) (by omega) (by omega) ?_
  refine ev_iload_n de_Ri_sortsAt_6 rfl rfl ?_
  refine ev_iconst de_Ri_sortsAt_7 ?_
  refine ev_imul de_Ri_sortsAt_8 ?_
  refine ev_lushr de_Ri_sortsAt_9 ?_
  refine ev_l2i de_Ri_sortsAt_10 ?_
  refine ev_bipush de_Ri_sortsAt_11 rfl ?_
  refine ev_iand de_Ri_sortsAt_13 ?_
  exact ev_ireturn de_Ri_sortsAt_14 rfl ⟨by rw [← e7 d h hd0 hd1 hh0 hh1]; rfl, rfl⟩
set_option maxHeartbeats 4000000 in
set_option maxRecDepth 10000 in
theorem co_Ri_isGate_j {o : Nat} {f : Int → Int} {x B : Int} {w : ab_W} (hI : sg_ok B f) (hR : ri_at_j o f x w) (d : Int) (hd0 : 0 ≤ d) (hd1 : d ≤ 11) : ab_Mt g_G g_rs mt_Ri_isGate 0 0 0 [ab_R o, ab_I d] w (ab_is (some (ab_I (bit_at (f 3).toNat d.toNat))) w) := by
  have hR0 := hR
  have hI0 := hI
  obtain ⟨sl, fs, vo, li, ra, wo, dh, da, hzz⟩ := hR
  obtain ⟨ds, dn, vw, q0, q1, q2, q3, q4, hzz⟩ := hzz
  obtain ⟨q5, q6, q7, q8, q9, q10, q11, q12, hzz⟩ := hzz
  obtain ⟨e1, e2, e3, e4, e5, e6, e7, e8, e9⟩ := hzz
  obtain ⟨i0, i1, i2, i3, i4, i5, i6, i7, hzz⟩ := sg_all hI
  obtain ⟨i8, i9, i10, i11, i12, i13, i14, i15, hzz⟩ := hzz
  obtain ⟨i16, i17⟩ := hzz
  refine ab_Mt.of rfl (Nat.le_of_ble_eq_true rfl) ?_
  show ab_Ev g_G g_rs mt_Ri_isGate _ _ _ 0 [some (ab_R o), some (ab_I d)] [] _ _
  refine ev_aload_n de_Ri_isGate_0 rfl rfl ?_
  refine ev_getfield de_Ri_isGate_1 q0 fl_Ri_70 rfl ?_
  refine ev_iload_n de_Ri_isGate_4 rfl rfl ?_
  refine ev_ishr de_Ri_isGate_5 (by omega) (by omega) (by omega) ?_
  refine ev_iconst de_Ri_isGate_6 ?_
  refine ev_iand de_Ri_isGate_7 ?_
  refine ev_top (congrArg Sum.inl (ab_bit (by omega) (by omega))) ?_
  have q := bit_01 (f 3).toNat d.toNat
  refine ev_if_eq (tgt := 15) de_Ri_isGate_8 (by decide) (by omega) (fun h8 => ?_) (fun h8 => ?_)
  · skip
    refine ev_iconst de_Ri_isGate_15 ?_
    exact ev_zreturn de_Ri_isGate_16 rfl (by decide) ⟨by congr 2; omega, rfl⟩
  · skip
    refine ev_iconst de_Ri_isGate_11 ?_
    refine ev_goto (tgt := 16) de_Ri_isGate_12 (by decide) ?_
    exact ev_zreturn de_Ri_isGate_16 rfl (by decide) ⟨by congr 2; omega, rfl⟩
set_option maxHeartbeats 4000000 in
set_option maxRecDepth 10000 in
theorem lo_Ri_likesIn_j {o : Nat} {f : Int → Int} {x B : Int} {w : ab_W} (hI : sg_ok B f) (hR : ri_at_j o f x w) (h0 s0 a0 t0 : Int) (hh0 : 0 ≤ h0) (hh1 : h0 < f 1) (hs0 : 0 ≤ s0) (hs1 : s0 ≤ 11) (ha0 : 0 ≤ a0) (ha1 : a0 ≤ 11) (ht0 : 0 ≤ t0) (ht1 : t0 ≤ 23) : ∀ (n : Nat) (k : Nat), k ≤ 5 → 5 < k + n → ab_Ev g_G g_rs mt_Ri_likesIn 1 0 0 19 [some (ab_R o), some (ab_I h0), some (ab_I s0), some (ab_I a0), some (ab_I t0), some (ab_I ((sp_sortsAt f ((s0 + a0) % 12) t0 / 2 ^ k : Nat) : Int)), some (ab_I (sp_like f h0 (sp_sortsAt f ((s0 + a0) % 12) t0) k)), some (ab_I (k : Int))] [] w (ab_is (some (ab_I (sp_likesAt f h0 ((s0 + a0) % 12) t0))) w) := by
  intro n
  induction n with
  | zero =>
    intro k
    intro h1 h2; omega
  | succ n ih =>
    intro k
    intro h1 h2
    have hR0 := hR
    have hI0 := hI
    obtain ⟨sl, fs, vo, li, ra, wo, dh, da, hzz⟩ := hR
    obtain ⟨ds, dn, vw, q0, q1, q2, q3, q4, hzz⟩ := hzz
    obtain ⟨q5, q6, q7, q8, q9, q10, q11, q12, hzz⟩ := hzz
    obtain ⟨e1, e2, e3, e4, e5, e6, e7, e8, e9⟩ := hzz
    obtain ⟨i0, i1, i2, i3, i4, i5, i6, i7, hzz⟩ := sg_all hI
    obtain ⟨i8, i9, i10, i11, i12, i13, i14, i15, hzz⟩ := hzz
    obtain ⟨i16, i17⟩ := hzz
    have hs := sp_sortsAt_lt hI0 ((s0 + a0) % 12) t0
    have hb := sp_like_b hI0 hh0 (show h0 < 7 by omega) (sp_sortsAt f ((s0 + a0) % 12) t0) k h1
    have dq : sp_sortsAt f ((s0 + a0) % 12) t0 / 2 ^ k ≤ sp_sortsAt f ((s0 + a0) % 12) t0 := Nat.div_le_self _ _
    have dz : (0 : Int) ≤ ((sp_sortsAt f ((s0 + a0) % 12) t0 / 2 ^ k : Nat) : Int) := Int.natCast_nonneg _
    have qb := bit_01 (sp_sortsAt f ((s0 + a0) % 12) t0) k
    refine ev_iload de_Ri_likesIn_19 rfl ?_
    refine ev_if_eq (tgt := 65) de_Ri_likesIn_21 (by decide) (by omega) (fun h21 => ?_) (fun h21 => ?_)
    · skip
      have ez : sp_likesAt f h0 ((s0 + a0) % 12) t0 = sp_like f h0 (sp_sortsAt f ((s0 + a0) % 12) t0) k := sp_like_stop f h0 (sp_sortsAt f ((s0 + a0) % 12) t0) k (by omega) 5 h1
      rw [ez]
      refine ev_iload de_Ri_likesIn_65 rfl ?_
      exact ev_ireturn de_Ri_likesIn_67 rfl ⟨rfl, rfl⟩
    · skip
      refine ev_iload de_Ri_likesIn_24 rfl ?_
      refine ev_iconst de_Ri_likesIn_26 ?_
      refine ev_icmp_ge (tgt := 65) de_Ri_likesIn_27 (by decide) (by omega) (by omega) (fun h27 => ?_) (fun h27 => ?_)
      · skip
        have ek : k = 5 := by omega
        subst ek
        refine ev_iload de_Ri_likesIn_65 rfl ?_
        exact ev_ireturn de_Ri_likesIn_67 rfl ⟨rfl, rfl⟩
      · skip
        refine ev_iload de_Ri_likesIn_30 rfl ?_
        refine ev_iconst de_Ri_likesIn_32 ?_
        refine ev_iand de_Ri_likesIn_33 ?_
        refine ev_top (congrArg Sum.inl (cs_odd (sp_sortsAt f ((s0 + a0) % 12) t0) k (by omega))) ?_
        refine ev_if_eq (tgt := 53) de_Ri_likesIn_34 (by decide) (by omega) (fun h34 => ?_) (fun h34 => ?_)
        · skip
          have tb : (sp_sortsAt f ((s0 + a0) % 12) t0).testBit k = false := bit_z.mp h34
          have eS : sp_like f h0 (sp_sortsAt f ((s0 + a0) % 12) t0) k = sp_like f h0 (sp_sortsAt f ((s0 + a0) % 12) t0) (k + 1) := by simp [sp_like, tb]
          refine ev_iload de_Ri_likesIn_53 rfl ?_
          refine ev_iconst de_Ri_likesIn_55 ?_
          refine ev_ishr de_Ri_likesIn_56 (by omega) (by omega) (by omega) ?_
          refine ev_istore (l' := [_, _, _, _, _, _, _, _]) de_Ri_likesIn_57 (Nat.le_of_ble_eq_true rfl) rfl ?_
          refine ev_iinc (l' := [_, _, _, _, _, _, _, _]) de_Ri_likesIn_59 rfl rfl ?_
          refine ev_goto (tgt := 19) de_Ri_likesIn_62 (by decide) ?_
          refine ev_loc (l2 := [some (ab_R o), some (ab_I h0), some (ab_I s0), some (ab_I a0), some (ab_I t0), some (ab_I ((sp_sortsAt f ((s0 + a0) % 12) t0 / 2 ^ (k + 1) : Nat) : Int)), some (ab_I (sp_like f h0 (sp_sortsAt f ((s0 + a0) % 12) t0) (k + 1))), some (ab_I ((k + 1 : Nat) : Int))]) (by rw [cs_half, show ((k : Int) + 1) = ((k + 1 : Nat) : Int) from rfl, eS]) ?_
          exact ih (k + 1) (by omega) (by omega)
        · skip
          have tb : (sp_sortsAt f ((s0 + a0) % 12) t0).testBit k = true := bit_nz.mp h34
          have z3 := e3 (h0 * 5 + k) (by omega) (by omega)
          have z4 := e4 (h0 * 5 + k) (by omega) (by omega)
          have eS : sp_like f h0 (sp_sortsAt f ((s0 + a0) % 12) t0) k + li (h0 * 5 + k) = sp_like f h0 (sp_sortsAt f ((s0 + a0) % 12) t0) (k + 1) := by simp only [sp_like, tb]; rw [z4, show 60 + (h0 * 5 + (k : Int)) = 60 + 5 * h0 + (k : Int) by omega]; rfl
          refine ev_iload de_Ri_likesIn_37 rfl ?_
          refine ev_aload_n de_Ri_likesIn_39 rfl rfl ?_
          refine ev_getfield de_Ri_likesIn_40 q0 fl_Ri_21 rfl ?_
          refine ev_iload_n de_Ri_likesIn_43 rfl rfl ?_
          refine ev_iconst de_Ri_likesIn_44 ?_
          refine ev_imul de_Ri_likesIn_45 ?_
          refine ev_iload de_Ri_likesIn_46 rfl ?_
          refine ev_iadd de_Ri_likesIn_48 ?_
          refine ev_iaload de_Ri_likesIn_49 q4 (by omega) (by omega) (by omega) ?_
          refine ev_iadd de_Ri_likesIn_50 ?_
          refine ev_istore (l' := [_, _, _, _, _, _, _, _]) de_Ri_likesIn_51 (Nat.le_of_ble_eq_true rfl) rfl ?_
          refine ev_iload de_Ri_likesIn_53 rfl ?_
          refine ev_iconst de_Ri_likesIn_55 ?_
          refine ev_ishr de_Ri_likesIn_56 (by omega) (by omega) (by omega) ?_
          refine ev_istore (l' := [_, _, _, _, _, _, _, _]) de_Ri_likesIn_57 (Nat.le_of_ble_eq_true rfl) rfl ?_
          refine ev_iinc (l' := [_, _, _, _, _, _, _, _]) de_Ri_likesIn_59 rfl rfl ?_
          refine ev_goto (tgt := 19) de_Ri_likesIn_62 (by decide) ?_
          refine ev_loc (l2 := [some (ab_R o), some (ab_I h0), some (ab_I s0), some (ab_I a0), some (ab_I t0), some (ab_I ((sp_sortsAt f ((s0 + a0) % 12) t0 / 2 ^ (k + 1) : Nat) : Int)), some (ab_I (sp_like f h0 (sp_sortsAt f ((s0 + a0) % 12) t0) (k + 1))), some (ab_I ((k + 1 : Nat) : Int))]) (by rw [cs_half, show ((k : Int) + 1) = ((k + 1 : Nat) : Int) from rfl, eS]) ?_
          exact ih (k + 1) (by omega) (by omega)
set_option maxHeartbeats 4000000 in
set_option maxRecDepth 10000 in
theorem co_Ri_likesIn_j {o : Nat} {f : Int → Int} {x B : Int} {w : ab_W} (hI : sg_ok B f) (hR : ri_at_j o f x w) (h0 s0 a0 t0 : Int) (hh0 : 0 ≤ h0) (hh1 : h0 < f 1) (hs0 : 0 ≤ s0) (hs1 : s0 ≤ 11) (ha0 : 0 ≤ a0) (ha1 : a0 ≤ 11) (ht0 : 0 ≤ t0) (ht1 : t0 ≤ 23) : ab_Mt g_G g_rs mt_Ri_likesIn 1 0 0 [ab_R o, ab_I h0, ab_I s0, ab_I a0, ab_I t0] w (ab_is (some (ab_I (sp_likesAt f h0 ((s0 + a0) % 12) t0))) w) := by
  have hR0 := hR
  have hI0 := hI
  obtain ⟨sl, fs, vo, li, ra, wo, dh, da, hzz⟩ := hR
  obtain ⟨ds, dn, vw, q0, q1, q2, q3, q4, hzz⟩ := hzz
  obtain ⟨q5, q6, q7, q8, q9, q10, q11, q12, hzz⟩ := hzz
  obtain ⟨e1, e2, e3, e4, e5, e6, e7, e8, e9⟩ := hzz
  obtain ⟨i0, i1, i2, i3, i4, i5, i6, i7, hzz⟩ := sg_all hI
  obtain ⟨i8, i9, i10, i11, i12, i13, i14, i15, hzz⟩ := hzz
  obtain ⟨i16, i17⟩ := hzz
  refine ab_Mt.of rfl (Nat.le_of_ble_eq_true rfl) ?_
  show ab_Ev g_G g_rs mt_Ri_likesIn _ _ _ 0 [some (ab_R o), some (ab_I h0), some (ab_I s0), some (ab_I a0), some (ab_I t0), none, none, none] [] _ _
  refine ev_aload_n de_Ri_likesIn_0 rfl rfl ?_
  refine ev_iload_n de_Ri_likesIn_1 rfl rfl ?_
  refine ev_iload_n de_Ri_likesIn_2 rfl rfl ?_
  refine ev_sv de_Ri_likesIn_3 (co_Tu_facedBy _ _ _ hs0 hs1 ha0 ha1) kb_Ri_95 sc_Tu_facedBy rfl (Nat.le_of_ble_eq_true rfl) (by decide) rfl ?_
  refine ev_iload de_Ri_likesIn_6 rfl ?_
  refine ev_vv (ci := 5) de_Ri_likesIn_8 (co_Ri_sortsAt_j hI0 hR0 _ t0 (by omega) (by omega) ht0 ht1) kb_Ri_103 ⟨im_Ri_sortsAt, se_Ri_sortsAt⟩ rfl q0 rfl (Nat.le_of_ble_eq_true rfl) (by decide) rfl ?_
  refine ev_istore (l' := [_, _, _, _, _, _, _, _]) de_Ri_likesIn_11 (Nat.le_of_ble_eq_true rfl) rfl ?_
  refine ev_iconst de_Ri_likesIn_13 ?_
  refine ev_istore (l' := [_, _, _, _, _, _, _, _]) de_Ri_likesIn_14 (Nat.le_of_ble_eq_true rfl) rfl ?_
  refine ev_iconst de_Ri_likesIn_16 ?_
  refine ev_istore (l' := [_, _, _, _, _, _, _, _]) de_Ri_likesIn_17 (Nat.le_of_ble_eq_true rfl) rfl ?_
  refine ev_loc (l2 := [some (ab_R o), some (ab_I h0), some (ab_I s0), some (ab_I a0), some (ab_I t0), some (ab_I ((sp_sortsAt f ((s0 + a0) % 12) t0 / 2 ^ 0 : Nat) : Int)), some (ab_I (sp_like f h0 (sp_sortsAt f ((s0 + a0) % 12) t0) 0)), some (ab_I ((0 : Nat) : Int))]) (by rw [Nat.pow_zero, Nat.div_one]; rfl) ?_
  exact lo_Ri_likesIn_j hI0 hR0 h0 s0 a0 t0 hh0 hh1 hs0 hs1 ha0 ha1 ht0 ht1 6 0 (by omega) (by omega)
