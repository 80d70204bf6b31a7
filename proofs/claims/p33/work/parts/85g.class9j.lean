set_option maxHeartbeats 4000000 in
set_option maxRecDepth 10000 in
theorem lo_Ri_houseFacing_j {o : Nat} {f : Int → Int} {x B : Int} {w : ab_W} (hI : sg_ok B f) (hR : ri_at_j o f x w) (d : Int) (hd : ab_in d) : ∀ (n : Nat) (k : Nat), (k : Int) ≤ f 1 → f 1 < k + n → sp_find f d ((f 1).toNat - k) (k : Int) = sp_find f d (f 1).toNat 0 → ab_Ev g_G g_rs mt_Ri_houseFacing 2 0 0 2 [some (ab_R o), some (ab_I d), some (ab_I (k : Int))] [] w (ab_is (some (ab_I (sp_find f d (f 1).toNat 0))) w) := by
  intro n
  induction n with
  | zero =>
    intro k
    intro g1 g2 g3; omega
  | succ n ih =>
    intro k
    intro g1 g2 g3
    have hR0 := hR
    have hI0 := hI
    obtain ⟨sl, fs, vo, li, ra, wo, dh, da, hzz⟩ := hR
    obtain ⟨ds, dn, vw, q0, q1, q2, q3, q4, hzz⟩ := hzz
    obtain ⟨q5, q6, q7, q8, q9, q10, q11, q12, hzz⟩ := hzz
    obtain ⟨e1, e2, e3, e4, e5, e6, e7, e8, e9⟩ := hzz
    obtain ⟨i0, i1, i2, i3, i4, i5, i6, i7, hzz⟩ := sg_all hI
    obtain ⟨i8, i9, i10, i11, i12, i13, i14, i15, hzz⟩ := hzz
    obtain ⟨i16, i17⟩ := hzz
    have fb := sp_facesOf_b f (k : Int)
    refine ev_iload_n de_Ri_houseFacing_2 rfl rfl ?_
    refine ev_aload_n de_Ri_houseFacing_3 rfl rfl ?_
    refine ev_getfield de_Ri_houseFacing_4 q0 fl_Ri_64 rfl ?_
    refine ev_icmp_ge (tgt := 27) de_Ri_houseFacing_7 (by decide) (by omega) (by omega) (fun h7 => ?_) (fun h7 => ?_)
    · skip
      have ez : (f 1).toNat - k = 0 := by omega
      rw [ez] at g3
      rw [← g3]
      refine ev_iconst de_Ri_houseFacing_27 ?_
      exact ev_ireturn de_Ri_houseFacing_28 rfl ⟨rfl, rfl⟩
    · skip
      have em : (f 1).toNat - k = ((f 1).toNat - (k + 1)) + 1 := by omega
      refine ev_aload_n de_Ri_houseFacing_10 rfl rfl ?_
      refine ev_iload_n de_Ri_houseFacing_11 rfl rfl ?_
      refine ev_vv (ci := 5) de_Ri_houseFacing_12 (co_Ri_facing_j hI0 hR0 (k : Int) (by omega) (by omega)) kb_Ri_99 ⟨im_Ri_facing, se_Ri_facing⟩ rfl q0 rfl (Nat.le_of_ble_eq_true rfl) (by decide) rfl ?_
      refine ev_iload_n de_Ri_houseFacing_15 rfl rfl ?_
      refine ev_icmp_ne (tgt := 21) de_Ri_houseFacing_16 (by decide) (by omega) (by omega) (fun h16 => ?_) (fun h16 => ?_)
      · skip
        refine ev_iinc (l' := [_, _, _]) de_Ri_houseFacing_21 rfl rfl ?_
        refine ev_goto (tgt := 2) de_Ri_houseFacing_24 (by decide) ?_
        exact ih (k + 1) (by omega) (by omega) (by rw [← g3, em]; show _ = (if _ then _ else _); rw [if_neg h16]; rfl)
      · skip
        have ef : sp_find f d (f 1).toNat 0 = (k : Int) := by rw [← g3, em]; exact if_pos h16
        rw [ef]
        refine ev_iload_n de_Ri_houseFacing_19 rfl rfl ?_
        exact ev_ireturn de_Ri_houseFacing_20 rfl ⟨rfl, rfl⟩
set_option maxHeartbeats 4000000 in
set_option maxRecDepth 10000 in
theorem co_Ri_houseFacing_j {o : Nat} {f : Int → Int} {x B : Int} {w : ab_W} (hI : sg_ok B f) (hR : ri_at_j o f x w) (d : Int) (hd : ab_in d) : ab_Mt g_G g_rs mt_Ri_houseFacing 2 0 0 [ab_R o, ab_I d] w (ab_is (some (ab_I (sp_find f d (f 1).toNat 0))) w) := by
  have hR0 := hR
  have hI0 := hI
  obtain ⟨sl, fs, vo, li, ra, wo, dh, da, hzz⟩ := hR
  obtain ⟨ds, dn, vw, q0, q1, q2, q3, q4, hzz⟩ := hzz
  obtain ⟨q5, q6, q7, q8, q9, q10, q11, q12, hzz⟩ := hzz
  obtain ⟨e1, e2, e3, e4, e5, e6, e7, e8, e9⟩ := hzz
  obtain ⟨i0, i1, i2, i3, i4, i5, i6, i7, hzz⟩ := sg_all hI
  obtain ⟨i8, i9, i10, i11, i12, i13, i14, i15, hzz⟩ := hzz
  obtain ⟨i16, i17⟩ := hzz
  refine ab_Mt.of rfl (Nat.le_of_ble_eq_true rfl) ?_
  show ab_Ev g_G g_rs mt_Ri_houseFacing _ _ _ 0 [some (ab_R o), some (ab_I d), none] [] _ _
  refine ev_iconst de_Ri_houseFacing_0 ?_
  refine ev_istore_n (l' := [_, _, _]) de_Ri_houseFacing_1 rfl (Nat.le_of_ble_eq_true rfl) rfl ?_
  exact lo_Ri_houseFacing_j hI0 hR0 d hd 8 0 (by omega) (by omega) (by rw [Nat.sub_zero]; rfl)
set_option maxHeartbeats 4000000 in
set_option maxRecDepth 10000 in
theorem lo_Ri_bestLike_j {o : Nat} {f : Int → Int} {x B : Int} {w : ab_W} (hI : sg_ok B f) (hR : ri_at_j o f x w) : ∀ (n : Nat) (k : Nat), 1 ≤ k → (k : Int) ≤ f 1 → f 1 < k + n → ab_Ev g_G g_rs mt_Ri_bestLike 3 0 0 19 [some (ab_R o), some (ab_I (sp_best (sp_likesOf f) k)), some (ab_I (k : Int))] [] w (ab_is (some (ab_I (sp_best (sp_likesOf f) (f 1).toNat))) w) := by
  intro n
  induction n with
  | zero =>
    intro k
    intro g0 g1 g2; omega
  | succ n ih =>
    intro k
    intro g0 g1 g2
    have hR0 := hR
    have hI0 := hI
    obtain ⟨sl, fs, vo, li, ra, wo, dh, da, hzz⟩ := hR
    obtain ⟨ds, dn, vw, q0, q1, q2, q3, q4, hzz⟩ := hzz
    obtain ⟨q5, q6, q7, q8, q9, q10, q11, q12, hzz⟩ := hzz
    obtain ⟨e1, e2, e3, e4, e5, e6, e7, e8, e9⟩ := hzz
    obtain ⟨i0, i1, i2, i3, i4, i5, i6, i7, hzz⟩ := sg_all hI
    obtain ⟨i8, i9, i10, i11, i12, i13, i14, i15, hzz⟩ := hzz
    obtain ⟨i16, i17⟩ := hzz
    have lb : ∀ j : Int, 0 ≤ j → j < f 1 → -45 ≤ sp_likesOf f j ∧ sp_likesOf f j ≤ 45 := fun j a b => by have q := sp_like_b hI0 a (show j < 7 by omega) (sp_sortsAt f (sp_facesOf f j) (f 5)) 5 (by decide); show -45 ≤ sp_like f j (sp_sortsAt f (sp_facesOf f j) (f 5)) 5 ∧ sp_like f j (sp_sortsAt f (sp_facesOf f j) (f 5)) 5 ≤ 45; omega
    have bb := sp_best_b (g := sp_likesOf f) k (fun j a b => lb j a (by omega))
    refine ev_iload_n de_Ri_bestLike_19 rfl rfl ?_
    refine ev_aload_n de_Ri_bestLike_20 rfl rfl ?_
    refine ev_getfield de_Ri_bestLike_21 q0 fl_Ri_64 rfl ?_
    refine ev_icmp_ge (tgt := 43) de_Ri_bestLike_24 (by decide) (by omega) (by omega) (fun h24 => ?_) (fun h24 => ?_)
    · skip
      have ek : k = (f 1).toNat := by omega
      subst ek
      refine ev_iload_n de_Ri_bestLike_43 rfl rfl ?_
      exact ev_ireturn de_Ri_bestLike_44 rfl ⟨rfl, rfl⟩
    · skip
      have lk := lb (k : Int) (by omega) (by omega)
      have eS : (if sp_best (sp_likesOf f) k < sp_likesOf f (k : Int) then sp_likesOf f (k : Int) else sp_best (sp_likesOf f) k) = sp_best (sp_likesOf f) (k + 1) := by show _ = (if k = 0 ∨ _ then _ else _); by_cases z : sp_best (sp_likesOf f) k < sp_likesOf f (k : Int); (rw [if_pos z, if_pos (Or.inr z)]); (rw [if_neg z, if_neg (by omega)])
      refine ev_iload_n de_Ri_bestLike_27 rfl rfl ?_
      refine ev_aload_n de_Ri_bestLike_28 rfl rfl ?_
      refine ev_iload_n de_Ri_bestLike_29 rfl rfl ?_
      refine ev_vv (ci := 5) de_Ri_bestLike_30 (co_Ri_likesNow_j hI0 hR0 (k : Int) (by omega) (by omega)) kb_Ri_110 ⟨im_Ri_likesNow, se_Ri_likesNow⟩ rfl q0 rfl (Nat.le_of_ble_eq_true rfl) (by decide) rfl ?_
      refine ev_mmax (by omega) (by omega) de_Ri_bestLike_33 mk_Ri_113 (Nat.le_of_ble_eq_true rfl) (by decide) ?_
      refine ev_istore_n (l' := [_, _, _]) de_Ri_bestLike_36 rfl (Nat.le_of_ble_eq_true rfl) rfl ?_
      refine ev_iinc (l' := [_, _, _]) de_Ri_bestLike_37 rfl rfl ?_
      refine ev_goto (tgt := 19) de_Ri_bestLike_40 (by decide) ?_
      refine ev_loc (l2 := [some (ab_R o), some (ab_I (sp_best (sp_likesOf f) (k + 1))), some (ab_I ((k + 1 : Nat) : Int))]) (by rw [eS]; rfl) ?_
      exact ih (k + 1) (by omega) (by omega) (by omega)
set_option maxHeartbeats 4000000 in
set_option maxRecDepth 10000 in
theorem co_Ri_bestLike_j {o : Nat} {f : Int → Int} {x B : Int} {w : ab_W} (hI : sg_ok B f) (hR : ri_at_j o f x w) : ab_Mt g_G g_rs mt_Ri_bestLike 3 0 0 [ab_R o] w (ab_is (some (ab_I (sp_best (sp_likesOf f) (f 1).toNat))) w) := by
  have hR0 := hR
  have hI0 := hI
  obtain ⟨sl, fs, vo, li, ra, wo, dh, da, hzz⟩ := hR
  obtain ⟨ds, dn, vw, q0, q1, q2, q3, q4, hzz⟩ := hzz
  obtain ⟨q5, q6, q7, q8, q9, q10, q11, q12, hzz⟩ := hzz
  obtain ⟨e1, e2, e3, e4, e5, e6, e7, e8, e9⟩ := hzz
  obtain ⟨i0, i1, i2, i3, i4, i5, i6, i7, hzz⟩ := sg_all hI
  obtain ⟨i8, i9, i10, i11, i12, i13, i14, i15, hzz⟩ := hzz
  obtain ⟨i16, i17⟩ := hzz
  refine ab_Mt.of rfl (Nat.le_of_ble_eq_true rfl) ?_
  show ab_Ev g_G g_rs mt_Ri_bestLike _ _ _ 0 [some (ab_R o), none, none] [] _ _
  refine ev_aload_n de_Ri_bestLike_0 rfl rfl ?_
  refine ev_getfield de_Ri_bestLike_1 q0 fl_Ri_64 rfl ?_
  refine ev_if_ne (tgt := 11) de_Ri_bestLike_4 (by decide) (by omega) (fun h4 => ?_) (fun h4 => ?_)
  · skip
    refine ev_aload_n de_Ri_bestLike_11 rfl rfl ?_
    refine ev_iconst de_Ri_bestLike_12 ?_
    refine ev_vv (ci := 5) de_Ri_bestLike_13 (co_Ri_likesNow_j hI0 hR0 0 (by decide) (by omega)) kb_Ri_110 ⟨im_Ri_likesNow, se_Ri_likesNow⟩ rfl q0 rfl (Nat.le_of_ble_eq_true rfl) (by decide) rfl ?_
    refine ev_istore_n (l' := [_, _, _]) de_Ri_bestLike_16 rfl (Nat.le_of_ble_eq_true rfl) rfl ?_
    refine ev_iconst de_Ri_bestLike_17 ?_
    refine ev_istore_n (l' := [_, _, _]) de_Ri_bestLike_18 rfl (Nat.le_of_ble_eq_true rfl) rfl ?_
    first | exact lo_Ri_bestLike_j hI0 hR0 8 1 (by decide) (by omega) (by omega) | (refine ev_iload_n de_Ri_bestLike_19 rfl rfl ?_; refine ev_aload_n de_Ri_bestLike_20 rfl rfl ?_; refine ev_getfield de_Ri_bestLike_21 q0 fl_Ri_64 rfl ?_; refine ev_icmp_ge (tgt := 43) de_Ri_bestLike_24 (by decide) (by decide) (by omega) (fun _ => ?_) (fun h => absurd h (by omega)); refine ev_iload_n de_Ri_bestLike_43 rfl rfl ?_; exact ev_ireturn de_Ri_bestLike_44 rfl ⟨rfl, rfl⟩)
  · skip
    have ez : (f 1).toNat = 0 := by omega
    rw [ez]
    refine ev_iconst de_Ri_bestLike_7 ?_
    refine ev_goto (tgt := 16) de_Ri_bestLike_8 (by decide) ?_
    refine ev_istore_n (l' := [_, _, _]) de_Ri_bestLike_16 rfl (Nat.le_of_ble_eq_true rfl) rfl ?_
    refine ev_iconst de_Ri_bestLike_17 ?_
    refine ev_istore_n (l' := [_, _, _]) de_Ri_bestLike_18 rfl (Nat.le_of_ble_eq_true rfl) rfl ?_
    first | exact lo_Ri_bestLike_j hI0 hR0 8 1 (by decide) (by omega) (by omega) | (refine ev_iload_n de_Ri_bestLike_19 rfl rfl ?_; refine ev_aload_n de_Ri_bestLike_20 rfl rfl ?_; refine ev_getfield de_Ri_bestLike_21 q0 fl_Ri_64 rfl ?_; refine ev_icmp_ge (tgt := 43) de_Ri_bestLike_24 (by decide) (by decide) (by omega) (fun _ => ?_) (fun h => absurd h (by omega)); refine ev_iload_n de_Ri_bestLike_43 rfl rfl ?_; exact ev_ireturn de_Ri_bestLike_44 rfl ⟨rfl, rfl⟩)
set_option maxHeartbeats 4000000 in
set_option maxRecDepth 10000 in
theorem lo_Ri_leastLike_j {o : Nat} {f : Int → Int} {x B : Int} {w : ab_W} (hI : sg_ok B f) (hR : ri_at_j o f x w) : ∀ (n : Nat) (k : Nat), 1 ≤ k → (k : Int) ≤ f 1 → f 1 < k + n → ab_Ev g_G g_rs mt_Ri_leastLike 3 0 0 19 [some (ab_R o), some (ab_I (sp_lst (sp_likesOf f) k)), some (ab_I (k : Int))] [] w (ab_is (some (ab_I (sp_lst (sp_likesOf f) (f 1).toNat))) w) := by
  intro n
  induction n with
  | zero =>
    intro k
    intro g0 g1 g2; omega
  | succ n ih =>
    intro k
    intro g0 g1 g2
    have hR0 := hR
    have hI0 := hI
    obtain ⟨sl, fs, vo, li, ra, wo, dh, da, hzz⟩ := hR
    obtain ⟨ds, dn, vw, q0, q1, q2, q3, q4, hzz⟩ := hzz
    obtain ⟨q5, q6, q7, q8, q9, q10, q11, q12, hzz⟩ := hzz
    obtain ⟨e1, e2, e3, e4, e5, e6, e7, e8, e9⟩ := hzz
    obtain ⟨i0, i1, i2, i3, i4, i5, i6, i7, hzz⟩ := sg_all hI
    obtain ⟨i8, i9, i10, i11, i12, i13, i14, i15, hzz⟩ := hzz
    obtain ⟨i16, i17⟩ := hzz
    have lb : ∀ j : Int, 0 ≤ j → j < f 1 → -45 ≤ sp_likesOf f j ∧ sp_likesOf f j ≤ 45 := fun j a b => by have q := sp_like_b hI0 a (show j < 7 by omega) (sp_sortsAt f (sp_facesOf f j) (f 5)) 5 (by decide); show -45 ≤ sp_like f j (sp_sortsAt f (sp_facesOf f j) (f 5)) 5 ∧ sp_like f j (sp_sortsAt f (sp_facesOf f j) (f 5)) 5 ≤ 45; omega
    have bb := sp_lst_b (g := sp_likesOf f) k (fun j a b => lb j a (by omega))
    refine ev_iload_n de_Ri_leastLike_19 rfl rfl ?_
    refine ev_aload_n de_Ri_leastLike_20 rfl rfl ?_
    refine ev_getfield de_Ri_leastLike_21 q0 fl_Ri_64 rfl ?_
    refine ev_icmp_ge (tgt := 43) de_Ri_leastLike_24 (by decide) (by omega) (by omega) (fun h24 => ?_) (fun h24 => ?_)
    · skip
      have ek : k = (f 1).toNat := by omega
      subst ek
      refine ev_iload_n de_Ri_leastLike_43 rfl rfl ?_
      exact ev_ireturn de_Ri_leastLike_44 rfl ⟨rfl, rfl⟩
    · skip
      have lk := lb (k : Int) (by omega) (by omega)
      have eS : (if sp_likesOf f (k : Int) < sp_lst (sp_likesOf f) k then sp_likesOf f (k : Int) else sp_lst (sp_likesOf f) k) = sp_lst (sp_likesOf f) (k + 1) := by show _ = (if k = 0 ∨ _ then _ else _); by_cases z : sp_likesOf f (k : Int) < sp_lst (sp_likesOf f) k; (rw [if_pos z, if_pos (Or.inr z)]); (rw [if_neg z, if_neg (by omega)])
      refine ev_iload_n de_Ri_leastLike_27 rfl rfl ?_
      refine ev_aload_n de_Ri_leastLike_28 rfl rfl ?_
      refine ev_iload_n de_Ri_leastLike_29 rfl rfl ?_
      refine ev_vv (ci := 5) de_Ri_leastLike_30 (co_Ri_likesNow_j hI0 hR0 (k : Int) (by omega) (by omega)) kb_Ri_110 ⟨im_Ri_likesNow, se_Ri_likesNow⟩ rfl q0 rfl (Nat.le_of_ble_eq_true rfl) (by decide) rfl ?_
      refine ev_mmin (by omega) (by omega) de_Ri_leastLike_33 mk_Ri_118 (Nat.le_of_ble_eq_true rfl) (by decide) ?_
      refine ev_istore_n (l' := [_, _, _]) de_Ri_leastLike_36 rfl (Nat.le_of_ble_eq_true rfl) rfl ?_
      refine ev_iinc (l' := [_, _, _]) de_Ri_leastLike_37 rfl rfl ?_
      refine ev_goto (tgt := 19) de_Ri_leastLike_40 (by decide) ?_
      refine ev_loc (l2 := [some (ab_R o), some (ab_I (sp_lst (sp_likesOf f) (k + 1))), some (ab_I ((k + 1 : Nat) : Int))]) (by rw [eS]; rfl) ?_
      exact ih (k + 1) (by omega) (by omega) (by omega)
set_option maxHeartbeats 4000000 in
set_option maxRecDepth 10000 in
theorem co_Ri_leastLike_j {o : Nat} {f : Int → Int} {x B : Int} {w : ab_W} (hI : sg_ok B f) (hR : ri_at_j o f x w) : ab_Mt g_G g_rs mt_Ri_leastLike 3 0 0 [ab_R o] w (ab_is (some (ab_I (sp_lst (sp_likesOf f) (f 1).toNat))) w) := by
  have hR0 := hR
  have hI0 := hI
  obtain ⟨sl, fs, vo, li, ra, wo, dh, da, hzz⟩ := hR
  obtain ⟨ds, dn, vw, q0, q1, q2, q3, q4, hzz⟩ := hzz
  obtain ⟨q5, q6, q7, q8, q9, q10, q11, q12, hzz⟩ := hzz
  obtain ⟨e1, e2, e3, e4, e5, e6, e7, e8, e9⟩ := hzz
  obtain ⟨i0, i1, i2, i3, i4, i5, i6, i7, hzz⟩ := sg_all hI
  obtain ⟨i8, i9, i10, i11, i12, i13, i14, i15, hzz⟩ := hzz
  obtain ⟨i16, i17⟩ := hzz
  refine ab_Mt.of rfl (Nat.le_of_ble_eq_true rfl) ?_
  show ab_Ev g_G g_rs mt_Ri_leastLike _ _ _ 0 [some (ab_R o), none, none] [] _ _
  refine ev_aload_n de_Ri_leastLike_0 rfl rfl ?_
  refine ev_getfield de_Ri_leastLike_1 q0 fl_Ri_64 rfl ?_
  refine ev_if_ne (tgt := 11) de_Ri_leastLike_4 (by decide) (by omega) (fun h4 => ?_) (fun h4 => ?_)
  · skip
    refine ev_aload_n de_Ri_leastLike_11 rfl rfl ?_
    refine ev_iconst de_Ri_leastLike_12 ?_
    refine ev_vv (ci := 5) de_Ri_leastLike_13 (co_Ri_likesNow_j hI0 hR0 0 (by decide) (by omega)) kb_Ri_110 ⟨im_Ri_likesNow, se_Ri_likesNow⟩ rfl q0 rfl (Nat.le_of_ble_eq_true rfl) (by decide) rfl ?_
    refine ev_istore_n (l' := [_, _, _]) de_Ri_leastLike_16 rfl (Nat.le_of_ble_eq_true rfl) rfl ?_
    refine ev_iconst de_Ri_leastLike_17 ?_
    refine ev_istore_n (l' := [_, _, _]) de_Ri_leastLike_18 rfl (Nat.le_of_ble_eq_true rfl) rfl ?_
    first | exact lo_Ri_leastLike_j hI0 hR0 8 1 (by decide) (by omega) (by omega) | (refine ev_iload_n de_Ri_leastLike_19 rfl rfl ?_; refine ev_aload_n de_Ri_leastLike_20 rfl rfl ?_; refine ev_getfield de_Ri_leastLike_21 q0 fl_Ri_64 rfl ?_; refine ev_icmp_ge (tgt := 43) de_Ri_leastLike_24 (by decide) (by decide) (by omega) (fun _ => ?_) (fun h => absurd h (by omega)); refine ev_iload_n de_Ri_leastLike_43 rfl rfl ?_; exact ev_ireturn de_Ri_leastLike_44 rfl ⟨rfl, rfl⟩)
  · skip
    have ez : (f 1).toNat = 0 := by omega
    rw [ez]
    refine ev_iconst de_Ri_leastLike_7 ?_
    refine ev_goto (tgt := 16) de_Ri_leastLike_8 (by decide) ?_
    refine ev_istore_n (l' := [_, _, _]) de_Ri_leastLike_16 rfl (Nat.le_of_ble_eq_true rfl) rfl ?_
    refine ev_iconst de_Ri_leastLike_17 ?_
    refine ev_istore_n (l' := [_, _, _]) de_Ri_leastLike_18 rfl (Nat.le_of_ble_eq_true rfl) rfl ?_
    first | exact lo_Ri_leastLike_j hI0 hR0 8 1 (by decide) (by omega) (by omega) | (refine ev_iload_n de_Ri_leastLike_19 rfl rfl ?_; refine ev_aload_n de_Ri_leastLike_20 rfl rfl ?_; refine ev_getfield de_Ri_leastLike_21 q0 fl_Ri_64 rfl ?_; refine ev_icmp_ge (tgt := 43) de_Ri_leastLike_24 (by decide) (by decide) (by omega) (fun _ => ?_) (fun h => absurd h (by omega)); refine ev_iload_n de_Ri_leastLike_43 rfl rfl ?_; exact ev_ireturn de_Ri_leastLike_44 rfl ⟨rfl, rfl⟩)
