/-! who stays, whose VOTES swing, how to spare: exactly -/
theorem tb_or {k h j : Nat} : (k ||| 2 ^ h).testBit j = (k.testBit j || decide (h = j)) := by
  rw [Nat.testBit_or, Nat.testBit_two_pow]
theorem vo_or (f : Int → Int) {k h : Nat} (tb : k.testBit h = false) : ∀ n : Nat, sp_sum (fun j => if (k ||| 2 ^ h).testBit j.toNat then f (53 + j) else 0) n = sp_sum (fun j => if k.testBit j.toNat then f (53 + j) else 0) n + (if h < n then f (53 + (h : Int)) else 0)
  | 0 => by rw [if_neg (by omega)]; rfl
  | n + 1 => by
    have ih := vo_or f tb n
    show sp_sum _ n + (if (k ||| 2 ^ h).testBit (n : Int).toNat then f (53 + (n : Int)) else 0) = sp_sum _ n + (if k.testBit (n : Int).toNat then f (53 + (n : Int)) else 0) + _
    rw [ih, Int.toNat_natCast, tb_or]
    by_cases e : h = n
    · subst e
      rw [tb]
      simp
    · rw [decide_eq_false e, Bool.or_false]
      by_cases e2 : h < n
      · rw [if_pos e2, if_pos (show h < n + 1 by omega)]
        omega
      · rw [if_neg e2, if_neg (show ¬ h < n + 1 by omega)]
        omega
theorem vo_or2 (f : Int → Int) {k : Nat} {h : Int} (h0 : 0 ≤ h) (h1 : h < f 1) (tb : k.testBit h.toNat = false) : sp_votesOf f (k ||| 2 ^ h.toNat) = sp_votesOf f k + f (53 + h) := by
  have q := vo_or f tb (f 1).toNat
  rw [if_pos (by omega), Int.toNat_of_nonneg h0] at q
  exact q
theorem de_Tu_swings_0 : decode prog_1_method_26_code 0 = .ok (.aload_n 0, 1) := by decide +kernel
theorem de_Tu_swings_1 : decode prog_1_method_26_code 1 = .ok (.iload_n 1, 1) := by decide +kernel
theorem de_Tu_swings_2 : decode prog_1_method_26_code 2 = .ok (.invokevirtual 118, 3) := by decide +kernel
theorem de_Tu_swings_5 : decode prog_1_method_26_code 5 = .ok (.ifCond .ne 5, 3) := by decide +kernel
theorem de_Tu_swings_8 : decode prog_1_method_26_code 8 = .ok (.iconst (-1), 1) := by decide +kernel
theorem de_Tu_swings_9 : decode prog_1_method_26_code 9 = .ok (.ireturn, 1) := by decide +kernel
theorem de_Tu_swings_10 : decode prog_1_method_26_code 10 = .ok (.aload_n 0, 1) := by decide +kernel
theorem de_Tu_swings_11 : decode prog_1_method_26_code 11 = .ok (.getfield 19, 3) := by decide +kernel
theorem de_Tu_swings_14 : decode prog_1_method_26_code 14 = .ok (.invokevirtual 204, 3) := by decide +kernel
theorem de_Tu_swings_17 : decode prog_1_method_26_code 17 = .ok (.istore_n 2, 1) := by decide +kernel
theorem de_Tu_swings_18 : decode prog_1_method_26_code 18 = .ok (.iconst 0, 1) := by decide +kernel
theorem de_Tu_swings_19 : decode prog_1_method_26_code 19 = .ok (.istore_n 3, 1) := by decide +kernel
theorem de_Tu_swings_20 : decode prog_1_method_26_code 20 = .ok (.iconst 0, 1) := by decide +kernel
theorem de_Tu_swings_21 : decode prog_1_method_26_code 21 = .ok (.istore 4, 2) := by decide +kernel
theorem de_Tu_swings_23 : decode prog_1_method_26_code 23 = .ok (.iload 4, 2) := by decide +kernel
theorem de_Tu_swings_25 : decode prog_1_method_26_code 25 = .ok (.iconst 1, 1) := by decide +kernel
theorem de_Tu_swings_26 : decode prog_1_method_26_code 26 = .ok (.aload_n 0, 1) := by decide +kernel
theorem de_Tu_swings_27 : decode prog_1_method_26_code 27 = .ok (.getfield 19, 3) := by decide +kernel
theorem de_Tu_swings_30 : decode prog_1_method_26_code 30 = .ok (.getfield 102, 3) := by decide +kernel
theorem de_Tu_swings_33 : decode prog_1_method_26_code 33 = .ok (.ishl, 1) := by decide +kernel
theorem de_Tu_swings_34 : decode prog_1_method_26_code 34 = .ok (.if_icmp .ge 58, 3) := by decide +kernel
theorem de_Tu_swings_37 : decode prog_1_method_26_code 37 = .ok (.iload 4, 2) := by decide +kernel
theorem de_Tu_swings_39 : decode prog_1_method_26_code 39 = .ok (.iload_n 1, 1) := by decide +kernel
theorem de_Tu_swings_40 : decode prog_1_method_26_code 40 = .ok (.ishr, 1) := by decide +kernel
theorem de_Tu_swings_41 : decode prog_1_method_26_code 41 = .ok (.iconst 1, 1) := by decide +kernel
theorem de_Tu_swings_42 : decode prog_1_method_26_code 42 = .ok (.iand, 1) := by decide +kernel
theorem de_Tu_swings_43 : decode prog_1_method_26_code 43 = .ok (.ifCond .ne 43, 3) := by decide +kernel
theorem de_Tu_swings_46 : decode prog_1_method_26_code 46 = .ok (.aload_n 0, 1) := by decide +kernel
theorem de_Tu_swings_47 : decode prog_1_method_26_code 47 = .ok (.getfield 19, 3) := by decide +kernel
theorem de_Tu_swings_50 : decode prog_1_method_26_code 50 = .ok (.iload 4, 2) := by decide +kernel
theorem de_Tu_swings_52 : decode prog_1_method_26_code 52 = .ok (.invokevirtual 270, 3) := by decide +kernel
theorem de_Tu_swings_55 : decode prog_1_method_26_code 55 = .ok (.istore 5, 2) := by decide +kernel
theorem de_Tu_swings_57 : decode prog_1_method_26_code 57 = .ok (.iconst 2, 1) := by decide +kernel
theorem de_Tu_swings_58 : decode prog_1_method_26_code 58 = .ok (.iload 5, 2) := by decide +kernel
theorem de_Tu_swings_60 : decode prog_1_method_26_code 60 = .ok (.imul, 1) := by decide +kernel
theorem de_Tu_swings_61 : decode prog_1_method_26_code 61 = .ok (.iload_n 2, 1) := by decide +kernel
theorem de_Tu_swings_62 : decode prog_1_method_26_code 62 = .ok (.if_icmp .gt 24, 3) := by decide +kernel
theorem de_Tu_swings_65 : decode prog_1_method_26_code 65 = .ok (.iconst 2, 1) := by decide +kernel
theorem de_Tu_swings_66 : decode prog_1_method_26_code 66 = .ok (.iload 5, 2) := by decide +kernel
theorem de_Tu_swings_68 : decode prog_1_method_26_code 68 = .ok (.aload_n 0, 1) := by decide +kernel
theorem de_Tu_swings_69 : decode prog_1_method_26_code 69 = .ok (.getfield 19, 3) := by decide +kernel
theorem de_Tu_swings_72 : decode prog_1_method_26_code 72 = .ok (.getfield 129, 3) := by decide +kernel
theorem de_Tu_swings_75 : decode prog_1_method_26_code 75 = .ok (.iload_n 1, 1) := by decide +kernel
theorem de_Tu_swings_76 : decode prog_1_method_26_code 76 = .ok (.iaload, 1) := by decide +kernel
theorem de_Tu_swings_77 : decode prog_1_method_26_code 77 = .ok (.iadd, 1) := by decide +kernel
theorem de_Tu_swings_78 : decode prog_1_method_26_code 78 = .ok (.imul, 1) := by decide +kernel
theorem de_Tu_swings_79 : decode prog_1_method_26_code 79 = .ok (.iload_n 2, 1) := by decide +kernel
theorem de_Tu_swings_80 : decode prog_1_method_26_code 80 = .ok (.if_icmp .le 6, 3) := by decide +kernel
theorem de_Tu_swings_83 : decode prog_1_method_26_code 83 = .ok (.iinc 3 1, 3) := by decide +kernel
theorem de_Tu_swings_86 : decode prog_1_method_26_code 86 = .ok (.iinc 4 1, 3) := by decide +kernel
theorem de_Tu_swings_89 : decode prog_1_method_26_code 89 = .ok (.goto (-66), 3) := by decide +kernel
theorem de_Tu_swings_92 : decode prog_1_method_26_code 92 = .ok (.iload_n 3, 1) := by decide +kernel
theorem de_Tu_swings_93 : decode prog_1_method_26_code 93 = .ok (.ireturn, 1) := by decide +kernel
set_option maxHeartbeats 4000000 in
set_option maxRecDepth 10000 in
theorem lo_Tu_swings {a b : Nat} {rc : Int} {f : Int → Int} {x B : Int} {w : ab_W} (hI : sg_ok B f) (t0 : tu_at a b rc w) (hR : ri_at_j a f x w) (y1 : Int) (hh0 : 0 ≤ y1) (hh1 : y1 < f 1) : ∀ (n : Nat) (k : Nat) (x5 : Option ab_V), k ≤ sp_every f + 1 → sp_every f + 1 < k + n → ab_Ev g_G g_rs mt_Tu_swings 2 0 0 23 [some (ab_R 0), some (ab_I y1), some (ab_I (sp_votesOf f (sp_every f))), some (ab_I (sp_swc f y1 k)), some (ab_I (k : Int)), x5] [] w (ab_is (some (ab_I (sp_swc f y1 (sp_every f + 1)))) w) := by
  intro n
  induction n with
  | zero =>
    intro k x5
    intro g1 g2; omega
  | succ n ih =>
    intro k x5
    intro g1 g2
    have ht0 := t0
    have hR0 := hR
    have hI0 := hI
    unfold tu_at at t0
    obtain ⟨sl, fs, vo, li, ra, wo, dh, da, hzz⟩ := hR
    obtain ⟨ds, dn, vw, q0, q1, q2, q3, q4, hzz⟩ := hzz
    obtain ⟨q5, q6, q7, q8, q9, q10, q11, q12, hzz⟩ := hzz
    obtain ⟨e1, e2, e3, e4, e5, e6, e7, e8, e9⟩ := hzz
    obtain ⟨i0, i1, i2, i3, i4, i5, i6, i7, hzz⟩ := sg_all hI
    obtain ⟨i8, i9, i10, i11, i12, i13, i14, i15, hzz⟩ := hzz
    obtain ⟨i16, i17⟩ := hzz
    have qe := sp_every_b hI0
    have qv1 := sp_votesOf_b hI0 k
    have qv2 := sp_votesOf_b hI0 (sp_every f)
    have qs := sp_swc_b f y1 k
    have qb := bit_01 k y1.toNat
    have z1 := (e1 y1 hh0 hh1).2.2
    have z2 := (e2 y1 hh0 hh1).2.2
    have ep : (1 * 2 ^ (f 1).toNat : Int) = ((sp_every f + 1 : Nat) : Int) := by
      have hp : 0 < 2 ^ (f 1).toNat := Nat.pow_pos (by decide)
      rw [ab_pw]
      unfold sp_every
      omega
    refine ev_iload de_Tu_swings_23 rfl ?_
    refine ev_iconst de_Tu_swings_25 ?_
    refine ev_aload_n de_Tu_swings_26 rfl rfl ?_
    refine ev_getfield de_Tu_swings_27 t0 fl_Tu_19 rfl ?_
    refine ev_getfield de_Tu_swings_30 q0 fl_Tu_102 rfl ?_
    refine ev_ishl de_Tu_swings_33 (by omega) (by omega) ?_
    refine ev_top (congrArg Sum.inl ep) ?_
    refine ev_icmp_ge (tgt := 92) de_Tu_swings_34 (by decide) (by omega) (by omega) (fun h34 => ?_) (fun h34 => ?_)
    · skip
      have ek : k = sp_every f + 1 := by omega
      subst ek
      refine ev_iload_n de_Tu_swings_92 rfl rfl ?_
      exact ev_ireturn de_Tu_swings_93 rfl ⟨rfl, rfl⟩
    · skip
      refine ev_iload de_Tu_swings_37 rfl ?_
      refine ev_iload_n de_Tu_swings_39 rfl rfl ?_
      refine ev_ishr de_Tu_swings_40 (by omega) (by omega) (by omega) ?_
      refine ev_iconst de_Tu_swings_41 ?_
      refine ev_iand de_Tu_swings_42 ?_
      refine ev_top (congrArg Sum.inl (show _ = bit_at k y1.toNat from ab_bit (by omega) (by omega))) ?_
      refine ev_if_ne (tgt := 86) de_Tu_swings_43 (by decide) (by rcases qb with q | q <;> (show ab_in (bit_at k y1.toNat); rw [q]; decide)) (fun h43 => ?_) (fun h43 => ?_)
      · skip
        have tb : k.testBit y1.toNat = true := bit_nz.mp h43
        have eS : sp_swc f y1 k = sp_swc f y1 (k + 1) := by
          show _ = _ + (if _ then _ else _)
          rw [if_neg (fun z => by first | omega | (rw [tb] at z; exact absurd z.1 (by decide))), Int.add_zero]
        refine ev_iinc (l' := [_, _, _, _, _, _]) de_Tu_swings_86 rfl rfl ?_
        refine ev_goto (tgt := 23) de_Tu_swings_89 (by decide) ?_
        refine ev_loc (l2 := [some (ab_R 0), some (ab_I y1), some (ab_I (sp_votesOf f (sp_every f))), some (ab_I (sp_swc f y1 (k + 1))), some (ab_I ((k + 1 : Nat) : Int)), _]) (by rw [eS]; rfl) ?_
        exact ih (k + 1) _ (by omega) (by omega)
      · skip
        have tb : k.testBit y1.toNat = false := bit_z.mp h43
        have ev := vo_or2 f hh0 hh1 tb
        refine ev_aload_n de_Tu_swings_46 rfl rfl ?_
        refine ev_getfield de_Tu_swings_47 t0 fl_Tu_19 rfl ?_
        refine ev_iload de_Tu_swings_50 rfl ?_
        refine ev_vv (ci := 5) de_Tu_swings_52 (co_Ri_votesOf_j hI0 hR0 _ (by omega) (by omega)) kb_Tu_270 ⟨im_Ri_votesOf, se_Ri_votesOf⟩ rfl q0 rfl (Nat.le_of_ble_eq_true rfl) (by decide) rfl ?_
        refine ev_istore (l' := [_, _, _, _, _, _]) de_Tu_swings_55 (Nat.le_of_ble_eq_true rfl) rfl ?_
        refine ev_iconst de_Tu_swings_57 ?_
        refine ev_iload de_Tu_swings_58 rfl ?_
        refine ev_imul de_Tu_swings_60 ?_
        refine ev_iload_n de_Tu_swings_61 rfl rfl ?_
        refine ev_icmp_gt (tgt := 86) de_Tu_swings_62 (by decide) (by first | (show ab_in (2 * sp_votesOf f k); omega) | omega) (by first | (show ab_in (2 * sp_votesOf f k); omega) | omega) (fun h62 => ?_) (fun h62 => ?_)
        · skip
          have h62 : sp_votesOf f (sp_every f) < 2 * sp_votesOf f k := h62
          have eS : sp_swc f y1 k = sp_swc f y1 (k + 1) := by
            show _ = _ + (if _ then _ else _)
            rw [if_neg (fun z => by first | omega | (rw [tb] at z; exact absurd z.1 (by decide))), Int.add_zero]
          refine ev_iinc (l' := [_, _, _, _, _, _]) de_Tu_swings_86 rfl rfl ?_
          refine ev_goto (tgt := 23) de_Tu_swings_89 (by decide) ?_
          refine ev_loc (l2 := [some (ab_R 0), some (ab_I y1), some (ab_I (sp_votesOf f (sp_every f))), some (ab_I (sp_swc f y1 (k + 1))), some (ab_I ((k + 1 : Nat) : Int)), _]) (by rw [eS]; rfl) ?_
          exact ih (k + 1) _ (by omega) (by omega)
        · skip
          have h62 : ¬ sp_votesOf f (sp_every f) < 2 * sp_votesOf f k := h62
          refine ev_iconst de_Tu_swings_65 ?_
          refine ev_iload de_Tu_swings_66 rfl ?_
          refine ev_aload_n de_Tu_swings_68 rfl rfl ?_
          refine ev_getfield de_Tu_swings_69 t0 fl_Tu_19 rfl ?_
          refine ev_getfield de_Tu_swings_72 q0 fl_Tu_129 rfl ?_
          refine ev_iload_n de_Tu_swings_75 rfl rfl ?_
          refine ev_iaload de_Tu_swings_76 q3 (by omega) (by omega) (by omega) ?_
          refine ev_iadd de_Tu_swings_77 ?_
          refine ev_imul de_Tu_swings_78 ?_
          refine ev_iload_n de_Tu_swings_79 rfl rfl ?_
          refine ev_icmp_le (tgt := 86) de_Tu_swings_80 (by decide) (by first | (show ab_in (2 * (sp_votesOf f k + vo y1)); omega) | omega) (by first | (show ab_in (2 * (sp_votesOf f k + vo y1)); omega) | omega) (fun h80 => ?_) (fun h80 => ?_)
          · skip
            have h80 : 2 * (sp_votesOf f k + vo y1) ≤ sp_votesOf f (sp_every f) := h80
            have eS : sp_swc f y1 k = sp_swc f y1 (k + 1) := by
              show _ = _ + (if _ then _ else _)
              rw [if_neg (fun z => by first | omega | (rw [tb] at z; exact absurd z.1 (by decide))), Int.add_zero]
            refine ev_iinc (l' := [_, _, _, _, _, _]) de_Tu_swings_86 rfl rfl ?_
            refine ev_goto (tgt := 23) de_Tu_swings_89 (by decide) ?_
            refine ev_loc (l2 := [some (ab_R 0), some (ab_I y1), some (ab_I (sp_votesOf f (sp_every f))), some (ab_I (sp_swc f y1 (k + 1))), some (ab_I ((k + 1 : Nat) : Int)), _]) (by rw [eS]; rfl) ?_
            exact ih (k + 1) _ (by omega) (by omega)
          · skip
            have h80 : ¬ 2 * (sp_votesOf f k + vo y1) ≤ sp_votesOf f (sp_every f) := h80
            have eS : sp_swc f y1 k + 1 = sp_swc f y1 (k + 1) := by
              show _ = _ + (if _ then _ else _)
              rw [if_pos ⟨tb, by omega, by omega⟩]
            refine ev_iinc (l' := [_, _, _, _, _, _]) de_Tu_swings_83 rfl rfl ?_
            refine ev_iinc (l' := [_, _, _, _, _, _]) de_Tu_swings_86 rfl rfl ?_
            refine ev_goto (tgt := 23) de_Tu_swings_89 (by decide) ?_
            refine ev_loc (l2 := [some (ab_R 0), some (ab_I y1), some (ab_I (sp_votesOf f (sp_every f))), some (ab_I (sp_swc f y1 (k + 1))), some (ab_I ((k + 1 : Nat) : Int)), _]) (by rw [eS]; rfl) ?_
            exact ih (k + 1) _ (by omega) (by omega)
set_option maxHeartbeats 4000000 in
set_option maxRecDepth 10000 in
theorem co_Tu_swings {a b : Nat} {rc : Int} {f : Int → Int} {x B : Int} {w : ab_W} (hI : sg_ok B f) (t0 : tu_at a b rc w) (hR : ri_at_j a f x w) (y1 : Int) (hy1 : ab_in y1) : ab_Mt g_G g_rs mt_Tu_swings 2 0 0 [ab_R 0, ab_I y1] w (ab_is (some (ab_I (if 0 ≤ y1 ∧ y1 < f 1 then sp_swc f y1 (sp_every f + 1) else -1))) w) := by
  have ht0 := t0
  have hR0 := hR
  have hI0 := hI
  unfold tu_at at t0
  obtain ⟨sl, fs, vo, li, ra, wo, dh, da, hzz⟩ := hR
  obtain ⟨ds, dn, vw, q0, q1, q2, q3, q4, hzz⟩ := hzz
  obtain ⟨q5, q6, q7, q8, q9, q10, q11, q12, hzz⟩ := hzz
  obtain ⟨e1, e2, e3, e4, e5, e6, e7, e8, e9⟩ := hzz
  obtain ⟨i0, i1, i2, i3, i4, i5, i6, i7, hzz⟩ := sg_all hI
  obtain ⟨i8, i9, i10, i11, i12, i13, i14, i15, hzz⟩ := hzz
  obtain ⟨i16, i17⟩ := hzz
  refine ab_Mt.of rfl (Nat.le_of_ble_eq_true rfl) ?_
  show ab_Ev g_G g_rs mt_Tu_swings _ _ _ 0 [some (ab_R 0), some (ab_I y1), none, none, none, none] [] _ _
  refine ev_aload_n de_Tu_swings_0 rfl rfl ?_
  refine ev_iload_n de_Tu_swings_1 rfl rfl ?_
  refine ev_vv (ci := 10) de_Tu_swings_2 (co_Tu_hasHouse hI0 ht0 hR0 _ (by assumption)) kb_Tu_118 ⟨im_Tu_hasHouse, se_Tu_hasHouse⟩ rfl t0 rfl (Nat.le_of_ble_eq_true rfl) (by decide) rfl ?_
  refine ev_if_ne (tgt := 10) de_Tu_swings_5 (by decide) (by first | omega | (split <;> decide)) (fun h5 => ?_) (fun h5 => ?_)
  · skip
    have hh1 : 0 ≤ y1 ∧ y1 < f 1 := by split at h5 <;> omega
    rw [if_pos hh1]
    refine ev_aload_n de_Tu_swings_10 rfl rfl ?_
    refine ev_getfield de_Tu_swings_11 t0 fl_Tu_19 rfl ?_
    refine ev_vv (ci := 5) de_Tu_swings_14 (co_Ri_allVotes_j hI0 hR0) kb_Tu_204 ⟨im_Ri_allVotes, se_Ri_allVotes⟩ rfl q0 rfl (Nat.le_of_ble_eq_true rfl) (by decide) rfl ?_
    refine ev_istore_n (l' := [_, _, _, _, _, _]) de_Tu_swings_17 rfl (Nat.le_of_ble_eq_true rfl) rfl ?_
    refine ev_iconst de_Tu_swings_18 ?_
    refine ev_istore_n (l' := [_, _, _, _, _, _]) de_Tu_swings_19 rfl (Nat.le_of_ble_eq_true rfl) rfl ?_
    refine ev_iconst de_Tu_swings_20 ?_
    refine ev_istore (l' := [_, _, _, _, _, _]) de_Tu_swings_21 (Nat.le_of_ble_eq_true rfl) rfl ?_
    exact lo_Tu_swings hI0 ht0 hR0 y1 hh1.1 hh1.2 (sp_every f + 2) 0 _ (by omega) (by omega)
  · skip
    refine ev_iconst de_Tu_swings_8 ?_
    exact ev_ireturn de_Tu_swings_9 rfl ⟨congrArg (fun z => some (ab_I z)) (by (try split at h5) <;> (repeat' split) <;> omega), rfl⟩