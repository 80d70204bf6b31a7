section MO
variable {tape : Int → Int} {taped : Int} {rules : Int} {sign : Int → Int} {leng : Int → Int} {clause : Int → Int} {clauses : Int → Int} {read : Int → Int} {next : Int} {wrong : Int} {number : Int} {text : Int} {made : Int} {deep : Int} {lines : Int} {opn : Int → Int} {opened : Int} {stack : Int → Int64} {top : Int} {word : Int → Int64} {said : Int → Int} {xx : Int} {was : Int → Int} {undone : Int} {kept : Int → Int} {sumOf : Int → Int} {faced : Int → Int} {slotAt : Int → Int} {dayAt : Int → Int} {row : Int → Int} {bestRow : Int → Int} {tMany : Int} {tMost : Int} {drawX : Int64} {images : Int → Int} {imageX : Int → Int} {isMade : Int → Int}
def sp_stay (f : Int → Int) (w : Int) : Int := if w = 0 then (sp_whoStay f : Nat) else if sp_votesOf f (sp_every f) < 2 * sp_votesOf f (sp_whoStay f) then 1 else 0
theorem sp_who_b {B : Int} {f : Int → Int} (h : sg_ok B f) : sp_whoStay f < 128 := by
  obtain ⟨-, i1, -⟩ := sg_all h
  have h1 := sp_set_lt (sp_wantsI f) (f 1).toNat
  have : 2 ^ (f 1).toNat ≤ 2 ^ 7 := Nat.pow_le_pow_right (by decide) (by omega)
  unfold sp_whoStay
  omega
theorem de_Mo_stay_0 : decode prog_14_method_94_code 0 = .ok (.aload_n 0, 1) := by decide +kernel
theorem de_Mo_stay_1 : decode prog_14_method_94_code 1 = .ok (.invokevirtual 323, 3) := by decide +kernel
theorem de_Mo_stay_4 : decode prog_14_method_94_code 4 = .ok (.ifCond .eq 13, 3) := by decide +kernel
theorem de_Mo_stay_7 : decode prog_14_method_94_code 7 = .ok (.iload_n 1, 1) := by decide +kernel
theorem de_Mo_stay_8 : decode prog_14_method_94_code 8 = .ok (.i2l, 1) := by decide +kernel
theorem de_Mo_stay_9 : decode prog_14_method_94_code 9 = .ok (.lconst 0, 1) := by decide +kernel
theorem de_Mo_stay_10 : decode prog_14_method_94_code 10 = .ok (.lconst 1, 1) := by decide +kernel
theorem de_Mo_stay_11 : decode prog_14_method_94_code 11 = .ok (.invokestatic 115, 3) := by decide +kernel
theorem de_Mo_stay_14 : decode prog_14_method_94_code 14 = .ok (.ifCond .ne 5, 3) := by decide +kernel
theorem de_Mo_stay_17 : decode prog_14_method_94_code 17 = .ok (.iconst (-1), 1) := by decide +kernel
theorem de_Mo_stay_18 : decode prog_14_method_94_code 18 = .ok (.ireturn, 1) := by decide +kernel
theorem de_Mo_stay_19 : decode prog_14_method_94_code 19 = .ok (.aload_n 0, 1) := by decide +kernel
theorem de_Mo_stay_20 : decode prog_14_method_94_code 20 = .ok (.invokevirtual 357, 3) := by decide +kernel
theorem de_Mo_stay_23 : decode prog_14_method_94_code 23 = .ok (.istore_n 2, 1) := by decide +kernel
theorem de_Mo_stay_24 : decode prog_14_method_94_code 24 = .ok (.iload_n 1, 1) := by decide +kernel
theorem de_Mo_stay_25 : decode prog_14_method_94_code 25 = .ok (.ifCond .ne 7, 3) := by decide +kernel
theorem de_Mo_stay_28 : decode prog_14_method_94_code 28 = .ok (.iload_n 2, 1) := by decide +kernel
theorem de_Mo_stay_29 : decode prog_14_method_94_code 29 = .ok (.goto 26, 3) := by decide +kernel
theorem de_Mo_stay_32 : decode prog_14_method_94_code 32 = .ok (.iconst 2, 1) := by decide +kernel
theorem de_Mo_stay_33 : decode prog_14_method_94_code 33 = .ok (.aload_n 0, 1) := by decide +kernel
theorem de_Mo_stay_34 : decode prog_14_method_94_code 34 = .ok (.iload_n 2, 1) := by decide +kernel
theorem de_Mo_stay_35 : decode prog_14_method_94_code 35 = .ok (.invokevirtual 360, 3) := by decide +kernel
theorem de_Mo_stay_38 : decode prog_14_method_94_code 38 = .ok (.imul, 1) := by decide +kernel
theorem de_Mo_stay_39 : decode prog_14_method_94_code 39 = .ok (.aload_n 0, 1) := by decide +kernel
theorem de_Mo_stay_40 : decode prog_14_method_94_code 40 = .ok (.aload_n 0, 1) := by decide +kernel
theorem de_Mo_stay_41 : decode prog_14_method_94_code 41 = .ok (.invokevirtual 363, 3) := by decide +kernel
theorem de_Mo_stay_44 : decode prog_14_method_94_code 44 = .ok (.invokevirtual 360, 3) := by decide +kernel
theorem de_Mo_stay_47 : decode prog_14_method_94_code 47 = .ok (.if_icmp .le 7, 3) := by decide +kernel
theorem de_Mo_stay_50 : decode prog_14_method_94_code 50 = .ok (.iconst 1, 1) := by decide +kernel
theorem de_Mo_stay_51 : decode prog_14_method_94_code 51 = .ok (.goto 4, 3) := by decide +kernel
theorem de_Mo_stay_54 : decode prog_14_method_94_code 54 = .ok (.iconst 0, 1) := by decide +kernel
theorem de_Mo_stay_55 : decode prog_14_method_94_code 55 = .ok (.ireturn, 1) := by decide +kernel
set_option maxRecDepth 10000 in
theorem co_Mo_stay {B : Int} (hI : sg_ok B said) (ww : Int) (hw : ab_in ww) : ab_Mt g_G g_rs mt_Mo_stay 5 0 0 [ab_R 0, ab_I ww] (mo_W tape taped rules sign leng clause clauses read next wrong number text made deep lines opn opened stack top word said xx was undone kept sumOf faced slotAt dayAt row bestRow tMany tMost drawX images imageX isMade) (ab_is (some (ab_I (if said 0 = 1 ∧ 0 ≤ ww ∧ ww ≤ 1 then sp_stay said ww else -1))) (mo_W tape taped rules sign leng clause clauses read next wrong number text made deep lines opn opened stack top word said xx was undone kept sumOf faced slotAt dayAt row bestRow tMany tMost drawX images imageX isMade)) := by
  refine ab_Mt.of rfl (Nat.le_of_ble_eq_true rfl) ?_
  show ab_Ev g_G g_rs mt_Mo_stay _ _ _ 0 [some (ab_R 0), some (ab_I ww), none] [] _ _
  have hJ := hI; obtain ⟨i0, i1, i2, i3, i4, i5, i6, i7, i8, i9, i10, i11, i12, i13, i14, i15, i16, i17⟩ := sg_all hJ
  have qw := sp_who_b hI
  have qe := sp_every_b hI
  have qv1 := sp_votesOf_b hI (sp_whoStay said)
  have qv2 := sp_votesOf_b hI (sp_every said)
  refine ev_aload_n de_Mo_stay_0 rfl rfl ?_
  refine ev_vv (ci := 11) de_Mo_stay_1 (co_Mo_isRing hI) kb_Mo_323 ⟨im_Mo_isRing, se_Mo_isRing⟩ rfl rfl rfl (Nat.le_of_ble_eq_true rfl) (by decide) rfl ?_
  refine ev_if_eq (tgt := 17) de_Mo_stay_4 (by decide) (by omega) (fun h4 => ?_) (fun h4 => ?_)
  · skip
    rw [if_neg (by omega)]
    refine ev_iconst de_Mo_stay_17 ?_
    exact ev_ireturn de_Mo_stay_18 rfl ⟨rfl, rfl⟩
  · skip
    refine ev_iload_n de_Mo_stay_7 rfl rfl ?_
    refine ev_i2l de_Mo_stay_8 (by omega) ?_
    refine ev_lconsti (n := 0) de_Mo_stay_9 (by decide) ?_
    refine ev_lconsti (n := 1) de_Mo_stay_10 (by decide) ?_
    refine ev_sv de_Mo_stay_11 (co_Mo_in _ ww (0) (1) (by omega) (by decide) (by decide)) kb_Mo_115 sc_Mo_in rfl (Nat.le_of_ble_eq_true rfl) (by decide) rfl ?_
    refine ev_if_ne (tgt := 19) de_Mo_stay_14 (by decide) (by split <;> decide) (fun h14 => ?_) (fun h14 => ?_)
    · skip
      have n14 : 0 ≤ ww ∧ ww ≤ 1 := Decidable.byContradiction (fun z => by rw [if_neg z] at h14; omega)
      rw [if_pos (by omega)]
      refine ev_aload_n de_Mo_stay_19 rfl rfl ?_
      refine ev_vv (ci := 11) de_Mo_stay_20 (co_Mo_whoStay hI) kb_Mo_357 ⟨im_Mo_whoStay, se_Mo_whoStay⟩ rfl rfl rfl (Nat.le_of_ble_eq_true rfl) (by decide) rfl ?_
      refine ev_istore_n (l' := [_, _, _]) de_Mo_stay_23 rfl (Nat.le_of_ble_eq_true rfl) rfl ?_
      refine ev_iload_n de_Mo_stay_24 rfl rfl ?_
      refine ev_if_ne (tgt := 32) de_Mo_stay_25 (by decide) (by omega) (fun h25 => ?_) (fun h25 => ?_)
      · skip
        refine ev_iconst de_Mo_stay_32 ?_
        refine ev_aload_n de_Mo_stay_33 rfl rfl ?_
        refine ev_iload_n de_Mo_stay_34 rfl rfl ?_
        refine ev_vv (ci := 11) de_Mo_stay_35 (co_Mo_votesOf hI _ (by omega) (by omega)) kb_Mo_360 ⟨im_Mo_votesOf, se_Mo_votesOf⟩ rfl rfl rfl (Nat.le_of_ble_eq_true rfl) (by decide) rfl ?_
        refine ev_imul de_Mo_stay_38 ?_
        refine ev_aload_n de_Mo_stay_39 rfl rfl ?_
        refine ev_aload_n de_Mo_stay_40 rfl rfl ?_
        refine ev_vv (ci := 11) de_Mo_stay_41 (co_Mo_everyHouse hI) kb_Mo_363 ⟨im_Mo_everyHouse, se_Mo_everyHouse⟩ rfl rfl rfl (Nat.le_of_ble_eq_true rfl) (by decide) rfl ?_
        refine ev_vv (ci := 11) de_Mo_stay_44 (co_Mo_votesOf hI _ (by omega) (by omega)) kb_Mo_360 ⟨im_Mo_votesOf, se_Mo_votesOf⟩ rfl rfl rfl (Nat.le_of_ble_eq_true rfl) (by decide) rfl ?_
        refine ev_icmp_le (tgt := 54) de_Mo_stay_47 (by decide) (by first | (show ab_in (2 * sp_votesOf said (sp_whoStay said)); omega) | (show ab_in (sp_votesOf said (sp_every said)); omega)) (by first | (show ab_in (2 * sp_votesOf said (sp_whoStay said)); omega) | (show ab_in (sp_votesOf said (sp_every said)); omega)) (fun h47 => ?_) (fun h47 => ?_)
        · skip
          have h47 : 2 * sp_votesOf said (sp_whoStay said) ≤ sp_votesOf said (sp_every said) := h47
          refine ev_iconst de_Mo_stay_54 ?_
          exact ev_ireturn de_Mo_stay_55 rfl ⟨by unfold sp_stay; first | (rw [if_pos (by omega)]; done) | (rw [if_neg (by omega), if_pos (by omega)]; done) | (rw [if_neg (by omega), if_neg (by omega)]; done), rfl⟩
        · skip
          have h47 : ¬ 2 * sp_votesOf said (sp_whoStay said) ≤ sp_votesOf said (sp_every said) := h47
          refine ev_iconst de_Mo_stay_50 ?_
          refine ev_goto (tgt := 55) de_Mo_stay_51 (by decide) ?_
          exact ev_ireturn de_Mo_stay_55 rfl ⟨by unfold sp_stay; first | (rw [if_pos (by omega)]; done) | (rw [if_neg (by omega), if_pos (by omega)]; done) | (rw [if_neg (by omega), if_neg (by omega)]; done), rfl⟩
      · skip
        refine ev_iload_n de_Mo_stay_28 rfl rfl ?_
        refine ev_goto (tgt := 55) de_Mo_stay_29 (by decide) ?_
        exact ev_ireturn de_Mo_stay_55 rfl ⟨by unfold sp_stay; first | (rw [if_pos (by omega)]; done) | (rw [if_neg (by omega), if_pos (by omega)]; done) | (rw [if_neg (by omega), if_neg (by omega)]; done), rfl⟩
    · skip
      have n14 : ¬ (0 ≤ ww ∧ ww ≤ 1) := fun z => by rw [if_pos z] at h14; omega
      rw [if_neg (by omega)]
      refine ev_iconst de_Mo_stay_17 ?_
      exact ev_ireturn de_Mo_stay_18 rfl ⟨rfl, rfl⟩
theorem de_Mo_swings_0 : decode prog_14_method_95_code 0 = .ok (.aload_n 0, 1) := by decide +kernel
theorem de_Mo_swings_1 : decode prog_14_method_95_code 1 = .ok (.iload_n 1, 1) := by decide +kernel
theorem de_Mo_swings_2 : decode prog_14_method_95_code 2 = .ok (.invokevirtual 316, 3) := by decide +kernel
theorem de_Mo_swings_5 : decode prog_14_method_95_code 5 = .ok (.ifCond .ne 5, 3) := by decide +kernel
theorem de_Mo_swings_8 : decode prog_14_method_95_code 8 = .ok (.iconst (-1), 1) := by decide +kernel
theorem de_Mo_swings_9 : decode prog_14_method_95_code 9 = .ok (.ireturn, 1) := by decide +kernel
theorem de_Mo_swings_10 : decode prog_14_method_95_code 10 = .ok (.aload_n 0, 1) := by decide +kernel
theorem de_Mo_swings_11 : decode prog_14_method_95_code 11 = .ok (.aload_n 0, 1) := by decide +kernel
theorem de_Mo_swings_12 : decode prog_14_method_95_code 12 = .ok (.invokevirtual 363, 3) := by decide +kernel
theorem de_Mo_swings_15 : decode prog_14_method_95_code 15 = .ok (.invokevirtual 360, 3) := by decide +kernel
theorem de_Mo_swings_18 : decode prog_14_method_95_code 18 = .ok (.istore_n 2, 1) := by decide +kernel
theorem de_Mo_swings_19 : decode prog_14_method_95_code 19 = .ok (.iconst 0, 1) := by decide +kernel
theorem de_Mo_swings_20 : decode prog_14_method_95_code 20 = .ok (.istore_n 3, 1) := by decide +kernel
theorem de_Mo_swings_21 : decode prog_14_method_95_code 21 = .ok (.iconst 0, 1) := by decide +kernel
theorem de_Mo_swings_22 : decode prog_14_method_95_code 22 = .ok (.istore 4, 2) := by decide +kernel
theorem de_Mo_swings_24 : decode prog_14_method_95_code 24 = .ok (.iload 4, 2) := by decide +kernel
theorem de_Mo_swings_26 : decode prog_14_method_95_code 26 = .ok (.aload_n 0, 1) := by decide +kernel
theorem de_Mo_swings_27 : decode prog_14_method_95_code 27 = .ok (.invokevirtual 363, 3) := by decide +kernel
theorem de_Mo_swings_30 : decode prog_14_method_95_code 30 = .ok (.if_icmp .gt 52, 3) := by decide +kernel
theorem de_Mo_swings_33 : decode prog_14_method_95_code 33 = .ok (.iload 4, 2) := by decide +kernel
theorem de_Mo_swings_35 : decode prog_14_method_95_code 35 = .ok (.iload_n 1, 1) := by decide +kernel
theorem de_Mo_swings_36 : decode prog_14_method_95_code 36 = .ok (.invokestatic 294, 3) := by decide +kernel
theorem de_Mo_swings_39 : decode prog_14_method_95_code 39 = .ok (.ifCond .ne 37, 3) := by decide +kernel
theorem de_Mo_swings_42 : decode prog_14_method_95_code 42 = .ok (.iconst 2, 1) := by decide +kernel
theorem de_Mo_swings_43 : decode prog_14_method_95_code 43 = .ok (.aload_n 0, 1) := by decide +kernel
theorem de_Mo_swings_44 : decode prog_14_method_95_code 44 = .ok (.iload 4, 2) := by decide +kernel
theorem de_Mo_swings_46 : decode prog_14_method_95_code 46 = .ok (.invokevirtual 360, 3) := by decide +kernel
theorem de_Mo_swings_49 : decode prog_14_method_95_code 49 = .ok (.imul, 1) := by decide +kernel
theorem de_Mo_swings_50 : decode prog_14_method_95_code 50 = .ok (.iload_n 2, 1) := by decide +kernel
theorem de_Mo_swings_51 : decode prog_14_method_95_code 51 = .ok (.if_icmp .gt 25, 3) := by decide +kernel
theorem de_Mo_swings_54 : decode prog_14_method_95_code 54 = .ok (.iconst 2, 1) := by decide +kernel
theorem de_Mo_swings_55 : decode prog_14_method_95_code 55 = .ok (.aload_n 0, 1) := by decide +kernel
theorem de_Mo_swings_56 : decode prog_14_method_95_code 56 = .ok (.iload 4, 2) := by decide +kernel
theorem de_Mo_swings_58 : decode prog_14_method_95_code 58 = .ok (.iconst 1, 1) := by decide +kernel
theorem de_Mo_swings_59 : decode prog_14_method_95_code 59 = .ok (.iload_n 1, 1) := by decide +kernel
theorem de_Mo_swings_60 : decode prog_14_method_95_code 60 = .ok (.ishl, 1) := by decide +kernel
theorem de_Mo_swings_61 : decode prog_14_method_95_code 61 = .ok (.ior, 1) := by decide +kernel
theorem de_Mo_swings_62 : decode prog_14_method_95_code 62 = .ok (.invokevirtual 360, 3) := by decide +kernel
theorem de_Mo_swings_65 : decode prog_14_method_95_code 65 = .ok (.imul, 1) := by decide +kernel
theorem de_Mo_swings_66 : decode prog_14_method_95_code 66 = .ok (.iload_n 2, 1) := by decide +kernel
theorem de_Mo_swings_67 : decode prog_14_method_95_code 67 = .ok (.if_icmp .gt 6, 3) := by decide +kernel
theorem de_Mo_swings_70 : decode prog_14_method_95_code 70 = .ok (.goto 6, 3) := by decide +kernel
theorem de_Mo_swings_73 : decode prog_14_method_95_code 73 = .ok (.iinc 3 1, 3) := by decide +kernel
theorem de_Mo_swings_76 : decode prog_14_method_95_code 76 = .ok (.iinc 4 1, 3) := by decide +kernel
theorem de_Mo_swings_79 : decode prog_14_method_95_code 79 = .ok (.goto (-55), 3) := by decide +kernel
theorem de_Mo_swings_82 : decode prog_14_method_95_code 82 = .ok (.iload_n 3, 1) := by decide +kernel
theorem de_Mo_swings_83 : decode prog_14_method_95_code 83 = .ok (.ireturn, 1) := by decide +kernel
set_option maxRecDepth 10000 in
theorem lo_Mo_swings {B : Int} (hI : sg_ok B said) (h0 : Int) (hh0 : 0 ≤ h0) (hh1 : h0 < said 1) : ∀ (n : Nat) (k : Nat), k ≤ sp_every said + 1 → sp_every said + 1 < k + n → ab_Ev g_G g_rs mt_Mo_swings 2 0 0 24 [some (ab_R 0), some (ab_I h0), some (ab_I (sp_votesOf said (sp_every said))), some (ab_I (sp_swc said h0 k)), some (ab_I (k : Int))] [] (mo_W tape taped rules sign leng clause clauses read next wrong number text made deep lines opn opened stack top word said xx was undone kept sumOf faced slotAt dayAt row bestRow tMany tMost drawX images imageX isMade) (ab_is (some (ab_I (sp_swc said h0 (sp_every said + 1)))) (mo_W tape taped rules sign leng clause clauses read next wrong number text made deep lines opn opened stack top word said xx was undone kept sumOf faced slotAt dayAt row bestRow tMany tMost drawX images imageX isMade)) := by
  intro n
  induction n with
  | zero =>
    intro k
    intro g1 g2; omega
  | succ n ih =>
    intro k
    intro g1 g2
    have hJ := hI; obtain ⟨i0, i1, i2, i3, i4, i5, i6, i7, i8, i9, i10, i11, i12, i13, i14, i15, i16, i17⟩ := sg_all hJ
    have qe := sp_every_b hI
    have qv1 := sp_votesOf_b hI k
    have qv2 := sp_votesOf_b hI (sp_every said)
    have qs := sp_swc_b said h0 k
    have qo : k ||| 2 ^ h0.toNat < 2 ^ 8 := Nat.or_lt_two_pow (by omega) (Nat.pow_lt_pow_right (by decide) (by omega))
    have qv3 := sp_votesOf_b hI (k ||| 2 ^ h0.toNat)
    refine ev_iload de_Mo_swings_24 rfl ?_
    refine ev_aload_n de_Mo_swings_26 rfl rfl ?_
    refine ev_vv (ci := 11) de_Mo_swings_27 (co_Mo_everyHouse hI) kb_Mo_363 ⟨im_Mo_everyHouse, se_Mo_everyHouse⟩ rfl rfl rfl (Nat.le_of_ble_eq_true rfl) (by decide) rfl ?_
    refine ev_icmp_gt (tgt := 82) de_Mo_swings_30 (by decide) (by omega) (by omega) (fun h30 => ?_) (fun h30 => ?_)
    · skip
      have e : k = sp_every said + 1 := by omega
      subst e
      refine ev_iload_n de_Mo_swings_82 rfl rfl ?_
      exact ev_ireturn de_Mo_swings_83 rfl ⟨rfl, rfl⟩
    · skip
      refine ev_iload de_Mo_swings_33 rfl ?_
      refine ev_iload_n de_Mo_swings_35 rfl rfl ?_
      refine ev_sv de_Mo_swings_36 (co_Mo_isOf _ _ _ (by omega) (by omega) (by omega) (by omega)) kb_Mo_294 sc_Mo_isOf rfl (Nat.le_of_ble_eq_true rfl) (by decide) rfl ?_
      have qb := bit_01 k h0.toNat
      refine ev_if_ne (tgt := 76) de_Mo_swings_39 (by decide) (by rcases qb with q | q <;> (show ab_in (bit_at k h0.toNat); rw [q]; decide)) (fun h39 => ?_) (fun h39 => ?_)
      · skip
        have tb : k.testBit h0.toNat = true := bit_nz.mp h39
        have e : sp_swc said h0 (k + 1) = sp_swc said h0 k := by
          show _ + (if _ then _ else _) = _
          rw [if_neg (fun z => by first | omega | (rw [tb] at z; exact absurd z.1 (by decide))), Int.add_zero]
        refine ev_iinc (l' := [_, _, _, _, _]) de_Mo_swings_76 rfl rfl ?_
        refine ev_goto (tgt := 24) de_Mo_swings_79 (by decide) ?_
        rw [← e]
        exact ih (k + 1) (by omega) (by omega)
      · skip
        have tb : k.testBit h0.toNat = false := bit_z.mp h39
        refine ev_iconst de_Mo_swings_42 ?_
        refine ev_aload_n de_Mo_swings_43 rfl rfl ?_
        refine ev_iload de_Mo_swings_44 rfl ?_
        refine ev_vv (ci := 11) de_Mo_swings_46 (co_Mo_votesOf hI _ (by omega) (by omega)) kb_Mo_360 ⟨im_Mo_votesOf, se_Mo_votesOf⟩ rfl rfl rfl (Nat.le_of_ble_eq_true rfl) (by decide) rfl ?_
        refine ev_imul de_Mo_swings_49 ?_
        refine ev_iload_n de_Mo_swings_50 rfl rfl ?_
        refine ev_icmp_gt (tgt := 76) de_Mo_swings_51 (by decide) (by first | (show ab_in (2 * sp_votesOf said k); omega) | omega) (by first | (show ab_in (2 * sp_votesOf said k); omega) | omega) (fun h51 => ?_) (fun h51 => ?_)
        · skip
          have h51 : sp_votesOf said (sp_every said) < 2 * sp_votesOf said k := h51
          have e : sp_swc said h0 (k + 1) = sp_swc said h0 k := by
            show _ + (if _ then _ else _) = _
            rw [if_neg (fun z => by first | omega | (rw [tb] at z; exact absurd z.1 (by decide))), Int.add_zero]
          refine ev_iinc (l' := [_, _, _, _, _]) de_Mo_swings_76 rfl rfl ?_
          refine ev_goto (tgt := 24) de_Mo_swings_79 (by decide) ?_
          rw [← e]
          exact ih (k + 1) (by omega) (by omega)
        · skip
          have h51 : ¬ sp_votesOf said (sp_every said) < 2 * sp_votesOf said k := h51
          refine ev_iconst de_Mo_swings_54 ?_
          refine ev_aload_n de_Mo_swings_55 rfl rfl ?_
          refine ev_iload de_Mo_swings_56 rfl ?_
          refine ev_iconst de_Mo_swings_58 ?_
          refine ev_iload_n de_Mo_swings_59 rfl rfl ?_
          refine ev_ishl de_Mo_swings_60 (by omega) (by omega) ?_
          refine ev_ior de_Mo_swings_61 ?_
          refine ev_top (congrArg Sum.inl (show _ = ((k ||| 2 ^ h0.toNat : Nat) : Int) from ab_ior_pow (by omega) (by omega))) ?_
          refine ev_vv (ci := 11) de_Mo_swings_62 (co_Mo_votesOf hI _ (by omega) (by omega)) kb_Mo_360 ⟨im_Mo_votesOf, se_Mo_votesOf⟩ rfl rfl rfl (Nat.le_of_ble_eq_true rfl) (by decide) rfl ?_
          refine ev_imul de_Mo_swings_65 ?_
          refine ev_iload_n de_Mo_swings_66 rfl rfl ?_
          refine ev_icmp_gt (tgt := 73) de_Mo_swings_67 (by decide) (by first | (show ab_in (2 * sp_votesOf said (k ||| 2 ^ h0.toNat)); omega) | omega) (by first | (show ab_in (2 * sp_votesOf said (k ||| 2 ^ h0.toNat)); omega) | omega) (fun h67 => ?_) (fun h67 => ?_)
          · skip
            have h67 : sp_votesOf said (sp_every said) < 2 * sp_votesOf said (k ||| 2 ^ h0.toNat) := h67
            have e : sp_swc said h0 (k + 1) = sp_swc said h0 k + 1 := by
              show _ + (if _ then _ else _) = _
              rw [if_pos ⟨tb, by omega, h67⟩]
            refine ev_iinc (l' := [_, _, _, _, _]) de_Mo_swings_73 rfl rfl ?_
            refine ev_iinc (l' := [_, _, _, _, _]) de_Mo_swings_76 rfl rfl ?_
            refine ev_goto (tgt := 24) de_Mo_swings_79 (by decide) ?_
            rw [← e]
            exact ih (k + 1) (by omega) (by omega)
          · skip
            have h67 : ¬ sp_votesOf said (sp_every said) < 2 * sp_votesOf said (k ||| 2 ^ h0.toNat) := h67
            have e : sp_swc said h0 (k + 1) = sp_swc said h0 k := by
              show _ + (if _ then _ else _) = _
              rw [if_neg (fun z => by first | omega | (rw [tb] at z; exact absurd z.1 (by decide))), Int.add_zero]
            refine ev_goto (tgt := 76) de_Mo_swings_70 (by decide) ?_
            refine ev_iinc (l' := [_, _, _, _, _]) de_Mo_swings_76 rfl rfl ?_
            refine ev_goto (tgt := 24) de_Mo_swings_79 (by decide) ?_
            rw [← e]
            exact ih (k + 1) (by omega) (by omega)
set_option maxRecDepth 10000 in
theorem co_Mo_swings {B : Int} (hI : sg_ok B said) (h0 : Int) (hh : ab_in h0) : ab_Mt g_G g_rs mt_Mo_swings 2 0 0 [ab_R 0, ab_I h0] (mo_W tape taped rules sign leng clause clauses read next wrong number text made deep lines opn opened stack top word said xx was undone kept sumOf faced slotAt dayAt row bestRow tMany tMost drawX images imageX isMade) (ab_is (some (ab_I (if 0 ≤ h0 ∧ h0 < said 1 then sp_swc said h0 (sp_every said + 1) else -1))) (mo_W tape taped rules sign leng clause clauses read next wrong number text made deep lines opn opened stack top word said xx was undone kept sumOf faced slotAt dayAt row bestRow tMany tMost drawX images imageX isMade)) := by
  refine ab_Mt.of rfl (Nat.le_of_ble_eq_true rfl) ?_
  show ab_Ev g_G g_rs mt_Mo_swings _ _ _ 0 [some (ab_R 0), some (ab_I h0), none, none, none] [] _ _
  have hJ := hI; obtain ⟨i0, i1, i2, i3, i4, i5, i6, i7, i8, i9, i10, i11, i12, i13, i14, i15, i16, i17⟩ := sg_all hJ
  have qe := sp_every_b hI
  refine ev_aload_n de_Mo_swings_0 rfl rfl ?_
  refine ev_iload_n de_Mo_swings_1 rfl rfl ?_
  refine ev_vv (ci := 11) de_Mo_swings_2 (co_Mo_isHouse hI h0 hh) kb_Mo_316 ⟨im_Mo_isHouse, se_Mo_isHouse⟩ rfl rfl rfl (Nat.le_of_ble_eq_true rfl) (by decide) rfl ?_
  refine ev_if_ne (tgt := 10) de_Mo_swings_5 (by decide) (by split <;> decide) (fun h5 => ?_) (fun h5 => ?_)
  · skip
    have n5 : 0 ≤ h0 ∧ h0 < said 1 := Decidable.byContradiction (fun z => by rw [if_neg z] at h5; omega)
    rw [if_pos n5]
    refine ev_aload_n de_Mo_swings_10 rfl rfl ?_
    refine ev_aload_n de_Mo_swings_11 rfl rfl ?_
    refine ev_vv (ci := 11) de_Mo_swings_12 (co_Mo_everyHouse hI) kb_Mo_363 ⟨im_Mo_everyHouse, se_Mo_everyHouse⟩ rfl rfl rfl (Nat.le_of_ble_eq_true rfl) (by decide) rfl ?_
    refine ev_vv (ci := 11) de_Mo_swings_15 (co_Mo_votesOf hI _ (by omega) (by omega)) kb_Mo_360 ⟨im_Mo_votesOf, se_Mo_votesOf⟩ rfl rfl rfl (Nat.le_of_ble_eq_true rfl) (by decide) rfl ?_
    refine ev_istore_n (l' := [_, _, _, _, _]) de_Mo_swings_18 rfl (Nat.le_of_ble_eq_true rfl) rfl ?_
    refine ev_iconst de_Mo_swings_19 ?_
    refine ev_istore_n (l' := [_, _, _, _, _]) de_Mo_swings_20 rfl (Nat.le_of_ble_eq_true rfl) rfl ?_
    refine ev_iconst de_Mo_swings_21 ?_
    refine ev_istore (l' := [_, _, _, _, _]) de_Mo_swings_22 (Nat.le_of_ble_eq_true rfl) rfl ?_
    exact lo_Mo_swings hI h0 (by omega) (by omega) (sp_every said + 2) 0 (by omega) (by omega)
  · skip
    have n5 : ¬ (0 ≤ h0 ∧ h0 < said 1) := fun z => by rw [if_pos z] at h5; omega
    rw [if_neg n5]
    refine ev_iconst de_Mo_swings_8 ?_
    exact ev_ireturn de_Mo_swings_9 rfl ⟨rfl, rfl⟩
theorem de_Mo_seed_0 : decode prog_14_method_111_code 0 = .ok (.iload_n 1, 1) := by decide +kernel
theorem de_Mo_seed_1 : decode prog_14_method_111_code 1 = .ok (.ifCond .ge 5, 3) := by decide +kernel
theorem de_Mo_seed_4 : decode prog_14_method_111_code 4 = .ok (.iconst (-1), 1) := by decide +kernel
theorem de_Mo_seed_5 : decode prog_14_method_111_code 5 = .ok (.ireturn, 1) := by decide +kernel
theorem de_Mo_seed_6 : decode prog_14_method_111_code 6 = .ok (.aload_n 0, 1) := by decide +kernel
theorem de_Mo_seed_7 : decode prog_14_method_111_code 7 = .ok (.getfield 465, 3) := by decide +kernel
theorem de_Mo_seed_10 : decode prog_14_method_111_code 10 = .ok (.istore_n 2, 1) := by decide +kernel
theorem de_Mo_seed_11 : decode prog_14_method_111_code 11 = .ok (.aload_n 0, 1) := by decide +kernel
theorem de_Mo_seed_12 : decode prog_14_method_111_code 12 = .ok (.iload_n 1, 1) := by decide +kernel
theorem de_Mo_seed_13 : decode prog_14_method_111_code 13 = .ok (.putfield 465, 3) := by decide +kernel
theorem de_Mo_seed_16 : decode prog_14_method_111_code 16 = .ok (.iload_n 2, 1) := by decide +kernel
theorem de_Mo_seed_17 : decode prog_14_method_111_code 17 = .ok (.ireturn, 1) := by decide +kernel
set_option maxRecDepth 10000 in
theorem co_Mo_seed (n : Int) (hn : ab_in n) : ab_Mt g_G g_rs mt_Mo_seed 0 0 0 [ab_R 0, ab_I n] (mo_W tape taped rules sign leng clause clauses read next wrong number text made deep lines opn opened stack top word said xx was undone kept sumOf faced slotAt dayAt row bestRow tMany tMost drawX images imageX isMade) (ab_is (some (ab_I (if n < 0 then -1 else xx))) (mo_W tape taped rules sign leng clause clauses read next wrong number text made deep lines opn opened stack top word said (if n < 0 then xx else n) was undone kept sumOf faced slotAt dayAt row bestRow tMany tMost drawX images imageX isMade)) := by
  refine ab_Mt.of rfl (Nat.le_of_ble_eq_true rfl) ?_
  show ab_Ev g_G g_rs mt_Mo_seed _ _ _ 0 [some (ab_R 0), some (ab_I n), none] [] _ _
  refine ev_iload_n de_Mo_seed_0 rfl rfl ?_
  refine ev_if_ge (tgt := 6) de_Mo_seed_1 (by decide) (by omega) (fun h1 => ?_) (fun h1 => ?_)
  · skip
    rw [if_neg (by omega), if_neg (by omega)]
    refine ev_aload_n de_Mo_seed_6 rfl rfl ?_
    refine ev_getfield de_Mo_seed_7 rfl fl_Mo_465 rfl ?_
    refine ev_istore_n (l' := [_, _, _]) de_Mo_seed_10 rfl (Nat.le_of_ble_eq_true rfl) rfl ?_
    refine ev_aload_n de_Mo_seed_11 rfl rfl ?_
    refine ev_iload_n de_Mo_seed_12 rfl rfl ?_
    refine ev_putfield de_Mo_seed_13 rfl (fp_Mo_465 _) (Nat.le_of_ble_eq_true rfl) trivial ?_
    refine ev_world (w' := mo_W _ _ _ _ _ _ _ _ _ _ _ _ _ _ _ _ _ _ _ _ _ _ _ _ _ _ _ _ _ _ _ _ _ _ _ _ _) rfl ?_
    refine ev_iload_n de_Mo_seed_16 rfl rfl ?_
    exact ev_ireturn de_Mo_seed_17 rfl ⟨rfl, rfl⟩
  · skip
    rw [if_pos (by omega), if_pos (by omega)]
    refine ev_iconst de_Mo_seed_4 ?_
    exact ev_ireturn de_Mo_seed_5 rfl ⟨rfl, rfl⟩
theorem de_Mo_count_0 : decode prog_14_method_114_code 0 = .ok (.iload_n 1, 1) := by decide +kernel
theorem de_Mo_count_1 : decode prog_14_method_114_code 1 = .ok (.tableswitch 143 0 14 #[75, 75, 75, 84, 89, 89, 89, 96, 101, 101, 110, 119, 124, 129, 134], 75) := by decide +kernel
theorem de_Mo_count_76 : decode prog_14_method_114_code 76 = .ok (.aload_n 0, 1) := by decide +kernel
theorem de_Mo_count_77 : decode prog_14_method_114_code 77 = .ok (.getfield 39, 3) := by decide +kernel
theorem de_Mo_count_80 : decode prog_14_method_114_code 80 = .ok (.iload_n 1, 1) := by decide +kernel
theorem de_Mo_count_81 : decode prog_14_method_114_code 81 = .ok (.iconst 1, 1) := by decide +kernel
theorem de_Mo_count_82 : decode prog_14_method_114_code 82 = .ok (.iadd, 1) := by decide +kernel
theorem de_Mo_count_83 : decode prog_14_method_114_code 83 = .ok (.iaload, 1) := by decide +kernel
theorem de_Mo_count_84 : decode prog_14_method_114_code 84 = .ok (.ireturn, 1) := by decide +kernel
theorem de_Mo_count_85 : decode prog_14_method_114_code 85 = .ok (.aload_n 0, 1) := by decide +kernel
theorem de_Mo_count_86 : decode prog_14_method_114_code 86 = .ok (.getfield 266, 3) := by decide +kernel
theorem de_Mo_count_89 : decode prog_14_method_114_code 89 = .ok (.ireturn, 1) := by decide +kernel
theorem de_Mo_count_90 : decode prog_14_method_114_code 90 = .ok (.aload_n 0, 1) := by decide +kernel
theorem de_Mo_count_91 : decode prog_14_method_114_code 91 = .ok (.getfield 39, 3) := by decide +kernel
theorem de_Mo_count_94 : decode prog_14_method_114_code 94 = .ok (.iload_n 1, 1) := by decide +kernel
theorem de_Mo_count_95 : decode prog_14_method_114_code 95 = .ok (.iaload, 1) := by decide +kernel
theorem de_Mo_count_96 : decode prog_14_method_114_code 96 = .ok (.ireturn, 1) := by decide +kernel
theorem de_Mo_count_97 : decode prog_14_method_114_code 97 = .ok (.aload_n 0, 1) := by decide +kernel
theorem de_Mo_count_98 : decode prog_14_method_114_code 98 = .ok (.invokevirtual 354, 3) := by decide +kernel
theorem de_Mo_count_101 : decode prog_14_method_114_code 101 = .ok (.ireturn, 1) := by decide +kernel
theorem de_Mo_count_102 : decode prog_14_method_114_code 102 = .ok (.aload_n 0, 1) := by decide +kernel
theorem de_Mo_count_103 : decode prog_14_method_114_code 103 = .ok (.getfield 39, 3) := by decide +kernel
theorem de_Mo_count_106 : decode prog_14_method_114_code 106 = .ok (.iload_n 1, 1) := by decide +kernel
theorem de_Mo_count_107 : decode prog_14_method_114_code 107 = .ok (.iconst 1, 1) := by decide +kernel
theorem de_Mo_count_108 : decode prog_14_method_114_code 108 = .ok (.isub, 1) := by decide +kernel
theorem de_Mo_count_109 : decode prog_14_method_114_code 109 = .ok (.iaload, 1) := by decide +kernel
theorem de_Mo_count_110 : decode prog_14_method_114_code 110 = .ok (.ireturn, 1) := by decide +kernel
theorem de_Mo_count_111 : decode prog_14_method_114_code 111 = .ok (.aload_n 0, 1) := by decide +kernel
theorem de_Mo_count_112 : decode prog_14_method_114_code 112 = .ok (.getfield 39, 3) := by decide +kernel
theorem de_Mo_count_115 : decode prog_14_method_114_code 115 = .ok (.sipush 190, 3) := by decide +kernel
theorem de_Mo_count_118 : decode prog_14_method_114_code 118 = .ok (.iaload, 1) := by decide +kernel
theorem de_Mo_count_119 : decode prog_14_method_114_code 119 = .ok (.ireturn, 1) := by decide +kernel
theorem de_Mo_count_120 : decode prog_14_method_114_code 120 = .ok (.aload_n 0, 1) := by decide +kernel
theorem de_Mo_count_121 : decode prog_14_method_114_code 121 = .ok (.getfield 272, 3) := by decide +kernel
theorem de_Mo_count_124 : decode prog_14_method_114_code 124 = .ok (.ireturn, 1) := by decide +kernel
theorem de_Mo_count_125 : decode prog_14_method_114_code 125 = .ok (.aload_n 0, 1) := by decide +kernel
theorem de_Mo_count_126 : decode prog_14_method_114_code 126 = .ok (.getfield 465, 3) := by decide +kernel
theorem de_Mo_count_129 : decode prog_14_method_114_code 129 = .ok (.ireturn, 1) := by decide +kernel
theorem de_Mo_count_130 : decode prog_14_method_114_code 130 = .ok (.aload_n 0, 1) := by decide +kernel
theorem de_Mo_count_131 : decode prog_14_method_114_code 131 = .ok (.getfield 76, 3) := by decide +kernel
theorem de_Mo_count_134 : decode prog_14_method_114_code 134 = .ok (.ireturn, 1) := by decide +kernel
theorem de_Mo_count_135 : decode prog_14_method_114_code 135 = .ok (.aload_n 0, 1) := by decide +kernel
theorem de_Mo_count_136 : decode prog_14_method_114_code 136 = .ok (.aload_n 0, 1) := by decide +kernel
theorem de_Mo_count_137 : decode prog_14_method_114_code 137 = .ok (.invokevirtual 363, 3) := by decide +kernel
theorem de_Mo_count_140 : decode prog_14_method_114_code 140 = .ok (.invokevirtual 360, 3) := by decide +kernel
theorem de_Mo_count_143 : decode prog_14_method_114_code 143 = .ok (.ireturn, 1) := by decide +kernel
theorem de_Mo_count_144 : decode prog_14_method_114_code 144 = .ok (.ldc_w 399, 3) := by decide +kernel
theorem de_Mo_count_147 : decode prog_14_method_114_code 147 = .ok (.ireturn, 1) := by decide +kernel
set_option maxRecDepth 10000 in
theorem co_Mo_count {B : Int} (hI : sg_ok B said) (ww : Int) (hw : ab_in ww) : ab_Mt g_G g_rs mt_Mo_count 4 0 0 [ab_R 0, ab_I ww] (mo_W tape taped rules sign leng clause clauses read next wrong number text made deep lines opn opened stack top word said xx was undone kept sumOf faced slotAt dayAt row bestRow tMany tMost drawX images imageX isMade) (ab_is (some (ab_I (sp_count said rules undone xx taped ww))) (mo_W tape taped rules sign leng clause clauses read next wrong number text made deep lines opn opened stack top word said xx was undone kept sumOf faced slotAt dayAt row bestRow tMany tMost drawX images imageX isMade)) := by
  refine ab_Mt.of rfl (Nat.le_of_ble_eq_true rfl) ?_
  show ab_Ev g_G g_rs mt_Mo_count _ _ _ 0 [some (ab_R 0), some (ab_I ww)] [] _ _
  have hJ := hI; obtain ⟨i0, i1, i2, i3, i4, i5, i6, i7, i8, i9, i10, i11, i12, i13, i14, i15, i16, i17⟩ := sg_all hJ
  have qe := sp_every_b hI
  refine ev_iload_n de_Mo_count_0 rfl rfl ?_
  rcases (by omega : ww < 0 ∨ 14 < ww ∨ ww = 0 ∨ ww = 1 ∨ ww = 2 ∨ ww = 3 ∨ ww = 4 ∨ ww = 5 ∨ ww = 6 ∨ ww = 7 ∨ ww = 8 ∨ ww = 9 ∨ ww = 10 ∨ ww = 11 ∨ ww = 12 ∨ ww = 13 ∨ ww = 14) with c | c | c | c | c | c | c | c | c | c | c | c | c | c | c | c | c
  · refine ev_tableOut (tgt := 144) de_Mo_count_1 (by omega) (by omega) (by decide) ?_
    refine ev_ldcw (n := -100000) de_Mo_count_144 cn_Mo_399 rfl ?_
    exact ev_ireturn de_Mo_count_147 rfl ⟨by unfold sp_count; rw [if_neg (by omega), if_neg (by omega), if_neg (by omega), if_neg (by omega), if_neg (by omega), if_neg (by omega), if_neg (by omega), if_neg (by omega), if_neg (by omega), if_neg (by omega), if_neg (by omega), if_neg (by omega), if_neg (by omega), if_neg (by omega), if_neg (by omega)], rfl⟩
  · refine ev_tableOut (tgt := 144) de_Mo_count_1 (by omega) (by omega) (by decide) ?_
    refine ev_ldcw (n := -100000) de_Mo_count_144 cn_Mo_399 rfl ?_
    exact ev_ireturn de_Mo_count_147 rfl ⟨by unfold sp_count; rw [if_neg (by omega), if_neg (by omega), if_neg (by omega), if_neg (by omega), if_neg (by omega), if_neg (by omega), if_neg (by omega), if_neg (by omega), if_neg (by omega), if_neg (by omega), if_neg (by omega), if_neg (by omega), if_neg (by omega), if_neg (by omega), if_neg (by omega)], rfl⟩
  · subst c
    refine ev_tableIn (off := 75) (tgt := 76) de_Mo_count_1 (by decide) (by decide) (by decide) rfl (by decide) ?_
    refine ev_aload_n de_Mo_count_76 rfl rfl ?_
    refine ev_getfield de_Mo_count_77 rfl fl_Mo_39 rfl ?_
    refine ev_iload_n de_Mo_count_80 rfl rfl ?_
    refine ev_iconst de_Mo_count_81 ?_
    refine ev_iadd de_Mo_count_82 ?_
    refine ev_iaload de_Mo_count_83 rfl (by omega) (by omega) (by omega) ?_
    exact ev_ireturn de_Mo_count_84 rfl ⟨rfl, rfl⟩
  · subst c
    refine ev_tableIn (off := 75) (tgt := 76) de_Mo_count_1 (by decide) (by decide) (by decide) rfl (by decide) ?_
    refine ev_aload_n de_Mo_count_76 rfl rfl ?_
    refine ev_getfield de_Mo_count_77 rfl fl_Mo_39 rfl ?_
    refine ev_iload_n de_Mo_count_80 rfl rfl ?_
    refine ev_iconst de_Mo_count_81 ?_
    refine ev_iadd de_Mo_count_82 ?_
    refine ev_iaload de_Mo_count_83 rfl (by omega) (by omega) (by omega) ?_
    exact ev_ireturn de_Mo_count_84 rfl ⟨rfl, rfl⟩
  · subst c
    refine ev_tableIn (off := 75) (tgt := 76) de_Mo_count_1 (by decide) (by decide) (by decide) rfl (by decide) ?_
    refine ev_aload_n de_Mo_count_76 rfl rfl ?_
    refine ev_getfield de_Mo_count_77 rfl fl_Mo_39 rfl ?_
    refine ev_iload_n de_Mo_count_80 rfl rfl ?_
    refine ev_iconst de_Mo_count_81 ?_
    refine ev_iadd de_Mo_count_82 ?_
    refine ev_iaload de_Mo_count_83 rfl (by omega) (by omega) (by omega) ?_
    exact ev_ireturn de_Mo_count_84 rfl ⟨rfl, rfl⟩
  · subst c
    refine ev_tableIn (off := 84) (tgt := 85) de_Mo_count_1 (by decide) (by decide) (by decide) rfl (by decide) ?_
    refine ev_aload_n de_Mo_count_85 rfl rfl ?_
    refine ev_getfield de_Mo_count_86 rfl fl_Mo_266 rfl ?_
    exact ev_ireturn de_Mo_count_89 rfl ⟨rfl, rfl⟩
  · subst c
    refine ev_tableIn (off := 89) (tgt := 90) de_Mo_count_1 (by decide) (by decide) (by decide) rfl (by decide) ?_
    refine ev_aload_n de_Mo_count_90 rfl rfl ?_
    refine ev_getfield de_Mo_count_91 rfl fl_Mo_39 rfl ?_
    refine ev_iload_n de_Mo_count_94 rfl rfl ?_
    refine ev_iaload de_Mo_count_95 rfl (by omega) (by omega) (by omega) ?_
    exact ev_ireturn de_Mo_count_96 rfl ⟨rfl, rfl⟩
  · subst c
    refine ev_tableIn (off := 89) (tgt := 90) de_Mo_count_1 (by decide) (by decide) (by decide) rfl (by decide) ?_
    refine ev_aload_n de_Mo_count_90 rfl rfl ?_
    refine ev_getfield de_Mo_count_91 rfl fl_Mo_39 rfl ?_
    refine ev_iload_n de_Mo_count_94 rfl rfl ?_
    refine ev_iaload de_Mo_count_95 rfl (by omega) (by omega) (by omega) ?_
    exact ev_ireturn de_Mo_count_96 rfl ⟨rfl, rfl⟩
  · subst c
    refine ev_tableIn (off := 89) (tgt := 90) de_Mo_count_1 (by decide) (by decide) (by decide) rfl (by decide) ?_
    refine ev_aload_n de_Mo_count_90 rfl rfl ?_
    refine ev_getfield de_Mo_count_91 rfl fl_Mo_39 rfl ?_
    refine ev_iload_n de_Mo_count_94 rfl rfl ?_
    refine ev_iaload de_Mo_count_95 rfl (by omega) (by omega) (by omega) ?_
    exact ev_ireturn de_Mo_count_96 rfl ⟨rfl, rfl⟩
  · subst c
    refine ev_tableIn (off := 96) (tgt := 97) de_Mo_count_1 (by decide) (by decide) (by decide) rfl (by decide) ?_
    refine ev_aload_n de_Mo_count_97 rfl rfl ?_
    refine ev_vv (ci := 11) de_Mo_count_98 (co_Mo_allLike hI) kb_Mo_354 ⟨im_Mo_allLike, se_Mo_allLike⟩ rfl rfl rfl (Nat.le_of_ble_eq_true rfl) (by decide) rfl ?_
    exact ev_ireturn de_Mo_count_101 rfl ⟨rfl, rfl⟩
  · subst c
    refine ev_tableIn (off := 101) (tgt := 102) de_Mo_count_1 (by decide) (by decide) (by decide) rfl (by decide) ?_
    refine ev_aload_n de_Mo_count_102 rfl rfl ?_
    refine ev_getfield de_Mo_count_103 rfl fl_Mo_39 rfl ?_
    refine ev_iload_n de_Mo_count_106 rfl rfl ?_
    refine ev_iconst de_Mo_count_107 ?_
    refine ev_isub de_Mo_count_108 ?_
    refine ev_iaload de_Mo_count_109 rfl (by omega) (by omega) (by omega) ?_
    exact ev_ireturn de_Mo_count_110 rfl ⟨rfl, rfl⟩
  · subst c
    refine ev_tableIn (off := 101) (tgt := 102) de_Mo_count_1 (by decide) (by decide) (by decide) rfl (by decide) ?_
    refine ev_aload_n de_Mo_count_102 rfl rfl ?_
    refine ev_getfield de_Mo_count_103 rfl fl_Mo_39 rfl ?_
    refine ev_iload_n de_Mo_count_106 rfl rfl ?_
    refine ev_iconst de_Mo_count_107 ?_
    refine ev_isub de_Mo_count_108 ?_
    refine ev_iaload de_Mo_count_109 rfl (by omega) (by omega) (by omega) ?_
    exact ev_ireturn de_Mo_count_110 rfl ⟨rfl, rfl⟩
  · subst c
    refine ev_tableIn (off := 110) (tgt := 111) de_Mo_count_1 (by decide) (by decide) (by decide) rfl (by decide) ?_
    refine ev_aload_n de_Mo_count_111 rfl rfl ?_
    refine ev_getfield de_Mo_count_112 rfl fl_Mo_39 rfl ?_
    refine ev_sipush de_Mo_count_115 rfl ?_
    refine ev_iaload de_Mo_count_118 rfl (by omega) (by omega) (by omega) ?_
    exact ev_ireturn de_Mo_count_119 rfl ⟨rfl, rfl⟩
  · subst c
    refine ev_tableIn (off := 119) (tgt := 120) de_Mo_count_1 (by decide) (by decide) (by decide) rfl (by decide) ?_
    refine ev_aload_n de_Mo_count_120 rfl rfl ?_
    refine ev_getfield de_Mo_count_121 rfl fl_Mo_272 rfl ?_
    exact ev_ireturn de_Mo_count_124 rfl ⟨rfl, rfl⟩
  · subst c
    refine ev_tableIn (off := 124) (tgt := 125) de_Mo_count_1 (by decide) (by decide) (by decide) rfl (by decide) ?_
    refine ev_aload_n de_Mo_count_125 rfl rfl ?_
    refine ev_getfield de_Mo_count_126 rfl fl_Mo_465 rfl ?_
    exact ev_ireturn de_Mo_count_129 rfl ⟨rfl, rfl⟩
  · subst c
    refine ev_tableIn (off := 129) (tgt := 130) de_Mo_count_1 (by decide) (by decide) (by decide) rfl (by decide) ?_
    refine ev_aload_n de_Mo_count_130 rfl rfl ?_
    refine ev_getfield de_Mo_count_131 rfl fl_Mo_76 rfl ?_
    exact ev_ireturn de_Mo_count_134 rfl ⟨rfl, rfl⟩
  · subst c
    refine ev_tableIn (off := 134) (tgt := 135) de_Mo_count_1 (by decide) (by decide) (by decide) rfl (by decide) ?_
    refine ev_aload_n de_Mo_count_135 rfl rfl ?_
    refine ev_aload_n de_Mo_count_136 rfl rfl ?_
    refine ev_vv (ci := 11) de_Mo_count_137 (co_Mo_everyHouse hI) kb_Mo_363 ⟨im_Mo_everyHouse, se_Mo_everyHouse⟩ rfl rfl rfl (Nat.le_of_ble_eq_true rfl) (by decide) rfl ?_
    refine ev_vv (ci := 11) de_Mo_count_140 (co_Mo_votesOf hI _ (by omega) (by omega)) kb_Mo_360 ⟨im_Mo_votesOf, se_Mo_votesOf⟩ rfl rfl rfl (Nat.le_of_ble_eq_true rfl) (by decide) rfl ?_
    exact ev_ireturn de_Mo_count_143 rfl ⟨rfl, rfl⟩
theorem de_Mo_image_0 : decode prog_14_method_115_code 0 = .ok (.iload_n 1, 1) := by decide +kernel
theorem de_Mo_image_1 : decode prog_14_method_115_code 1 = .ok (.i2l, 1) := by decide +kernel
theorem de_Mo_image_2 : decode prog_14_method_115_code 2 = .ok (.lconst 0, 1) := by decide +kernel
theorem de_Mo_image_3 : decode prog_14_method_115_code 3 = .ok (.ldc2_w 352, 3) := by decide +kernel
theorem de_Mo_image_6 : decode prog_14_method_115_code 6 = .ok (.invokestatic 115, 3) := by decide +kernel
theorem de_Mo_image_9 : decode prog_14_method_115_code 9 = .ok (.ifCond .ne 5, 3) := by decide +kernel
theorem de_Mo_image_12 : decode prog_14_method_115_code 12 = .ok (.iconst (-1), 1) := by decide +kernel
theorem de_Mo_image_13 : decode prog_14_method_115_code 13 = .ok (.ireturn, 1) := by decide +kernel
theorem de_Mo_image_14 : decode prog_14_method_115_code 14 = .ok (.aload_n 0, 1) := by decide +kernel
theorem de_Mo_image_15 : decode prog_14_method_115_code 15 = .ok (.getfield 72, 3) := by decide +kernel
theorem de_Mo_image_18 : decode prog_14_method_115_code 18 = .ok (.iload_n 1, 1) := by decide +kernel
theorem de_Mo_image_19 : decode prog_14_method_115_code 19 = .ok (.iconst 1, 1) := by decide +kernel
theorem de_Mo_image_20 : decode prog_14_method_115_code 20 = .ok (.bastore, 1) := by decide +kernel
theorem de_Mo_image_21 : decode prog_14_method_115_code 21 = .ok (.aload_n 0, 1) := by decide +kernel
theorem de_Mo_image_22 : decode prog_14_method_115_code 22 = .ok (.getfield 69, 3) := by decide +kernel
theorem de_Mo_image_25 : decode prog_14_method_115_code 25 = .ok (.iload_n 1, 1) := by decide +kernel
theorem de_Mo_image_26 : decode prog_14_method_115_code 26 = .ok (.aload_n 0, 1) := by decide +kernel
theorem de_Mo_image_27 : decode prog_14_method_115_code 27 = .ok (.getfield 465, 3) := by decide +kernel
theorem de_Mo_image_30 : decode prog_14_method_115_code 30 = .ok (.iastore, 1) := by decide +kernel
theorem de_Mo_image_31 : decode prog_14_method_115_code 31 = .ok (.iconst 0, 1) := by decide +kernel
theorem de_Mo_image_32 : decode prog_14_method_115_code 32 = .ok (.istore_n 2, 1) := by decide +kernel
theorem de_Mo_image_33 : decode prog_14_method_115_code 33 = .ok (.iload_n 2, 1) := by decide +kernel
theorem de_Mo_image_34 : decode prog_14_method_115_code 34 = .ok (.sipush 191, 3) := by decide +kernel
theorem de_Mo_image_37 : decode prog_14_method_115_code 37 = .ok (.if_icmp .ge 27, 3) := by decide +kernel
theorem de_Mo_image_40 : decode prog_14_method_115_code 40 = .ok (.aload_n 0, 1) := by decide +kernel
theorem de_Mo_image_41 : decode prog_14_method_115_code 41 = .ok (.getfield 66, 3) := by decide +kernel
theorem de_Mo_image_44 : decode prog_14_method_115_code 44 = .ok (.sipush 191, 3) := by decide +kernel
theorem de_Mo_image_47 : decode prog_14_method_115_code 47 = .ok (.iload_n 1, 1) := by decide +kernel
theorem de_Mo_image_48 : decode prog_14_method_115_code 48 = .ok (.imul, 1) := by decide +kernel
theorem de_Mo_image_49 : decode prog_14_method_115_code 49 = .ok (.iload_n 2, 1) := by decide +kernel
theorem de_Mo_image_50 : decode prog_14_method_115_code 50 = .ok (.iadd, 1) := by decide +kernel
theorem de_Mo_image_51 : decode prog_14_method_115_code 51 = .ok (.aload_n 0, 1) := by decide +kernel
theorem de_Mo_image_52 : decode prog_14_method_115_code 52 = .ok (.getfield 39, 3) := by decide +kernel
theorem de_Mo_image_55 : decode prog_14_method_115_code 55 = .ok (.iload_n 2, 1) := by decide +kernel
theorem de_Mo_image_56 : decode prog_14_method_115_code 56 = .ok (.iaload, 1) := by decide +kernel
theorem de_Mo_image_57 : decode prog_14_method_115_code 57 = .ok (.iastore, 1) := by decide +kernel
theorem de_Mo_image_58 : decode prog_14_method_115_code 58 = .ok (.iinc 2 1, 3) := by decide +kernel
theorem de_Mo_image_61 : decode prog_14_method_115_code 61 = .ok (.goto (-28), 3) := by decide +kernel
theorem de_Mo_image_64 : decode prog_14_method_115_code 64 = .ok (.aload_n 0, 1) := by decide +kernel
theorem de_Mo_image_65 : decode prog_14_method_115_code 65 = .ok (.getfield 39, 3) := by decide +kernel
theorem de_Mo_image_68 : decode prog_14_method_115_code 68 = .ok (.bipush 6, 2) := by decide +kernel
theorem de_Mo_image_70 : decode prog_14_method_115_code 70 = .ok (.iaload, 1) := by decide +kernel
theorem de_Mo_image_71 : decode prog_14_method_115_code 71 = .ok (.ireturn, 1) := by decide +kernel
set_option maxRecDepth 10000 in
theorem lo_Mo_image {B : Int} (hI : sg_ok B said) (kk : Int) (hk0 : 0 ≤ kk) (hk1 : kk ≤ 3) : ∀ (n : Nat) (k : Nat), k ≤ 191 → 191 < k + n → ab_Ev g_G g_rs mt_Mo_image 1 0 0 33 [some (ab_R 0), some (ab_I kk), some (ab_I (k : Int))] [] (mo_W tape taped rules sign leng clause clauses read next wrong number text made deep lines opn opened stack top word said xx was undone kept sumOf faced slotAt dayAt row bestRow tMany tMost drawX (sp_im said images kk k) imageX isMade) (ab_is (some (ab_I (said 6))) (mo_W tape taped rules sign leng clause clauses read next wrong number text made deep lines opn opened stack top word said xx was undone kept sumOf faced slotAt dayAt row bestRow tMany tMost drawX (sp_im said images kk 191) imageX isMade)) := by
  intro n
  induction n with
  | zero =>
    intro k
    intro g1 g2; omega
  | succ n ih =>
    intro k
    intro g1 g2
    refine ev_iload_n de_Mo_image_33 rfl rfl ?_
    refine ev_sipush de_Mo_image_34 rfl ?_
    refine ev_icmp_ge (tgt := 64) de_Mo_image_37 (by decide) (by omega) (by omega) (fun h37 => ?_) (fun h37 => ?_)
    · skip
      have e : k = 191 := by omega
      subst e
      refine ev_aload_n de_Mo_image_64 rfl rfl ?_
      refine ev_getfield de_Mo_image_65 rfl fl_Mo_39 rfl ?_
      refine ev_bipush de_Mo_image_68 rfl ?_
      refine ev_iaload de_Mo_image_70 rfl (by omega) (by omega) (by omega) ?_
      exact ev_ireturn de_Mo_image_71 rfl ⟨rfl, rfl⟩
    · skip
      refine ev_aload_n de_Mo_image_40 rfl rfl ?_
      refine ev_getfield de_Mo_image_41 rfl fl_Mo_66 rfl ?_
      refine ev_sipush de_Mo_image_44 rfl ?_
      refine ev_iload_n de_Mo_image_47 rfl rfl ?_
      refine ev_imul de_Mo_image_48 ?_
      refine ev_iload_n de_Mo_image_49 rfl rfl ?_
      refine ev_iadd de_Mo_image_50 ?_
      refine ev_aload_n de_Mo_image_51 rfl rfl ?_
      refine ev_getfield de_Mo_image_52 rfl fl_Mo_39 rfl ?_
      refine ev_iload_n de_Mo_image_55 rfl rfl ?_
      refine ev_iaload de_Mo_image_56 rfl (by omega) (by omega) (by omega) ?_
      refine ev_iastore de_Mo_image_57 rfl (by omega) (by omega) (by omega) ?_
      refine ev_world (w' := mo_W _ _ _ _ _ _ _ _ _ _ _ _ _ _ _ _ _ _ _ _ _ _ _ _ _ _ _ _ _ _ _ _ _ _ _ _ _) rfl ?_
      refine ev_world (w' := (mo_W tape taped rules sign leng clause clauses read next wrong number text made deep lines opn opened stack top word said xx was undone kept sumOf faced slotAt dayAt row bestRow tMany tMost drawX (sp_im said images kk (k + 1)) imageX isMade)) (by rw [sp_im_s]) ?_
      refine ev_iinc (l' := [_, _, _]) de_Mo_image_58 rfl rfl ?_
      refine ev_goto (tgt := 33) de_Mo_image_61 (by decide) ?_
      exact ih (k + 1) (by omega) (by omega)
set_option maxRecDepth 10000 in
theorem co_Mo_image {B : Int} (hI : sg_ok B said) (kk : Int) (hk : ab_in kk) : ab_Mt g_G g_rs mt_Mo_image 1 0 0 [ab_R 0, ab_I kk] (mo_W tape taped rules sign leng clause clauses read next wrong number text made deep lines opn opened stack top word said xx was undone kept sumOf faced slotAt dayAt row bestRow tMany tMost drawX images imageX isMade) (ab_is (some (ab_I (if 0 ≤ kk ∧ kk ≤ 3 then said 6 else -1))) (mo_W tape taped rules sign leng clause clauses read next wrong number text made deep lines opn opened stack top word said xx was undone kept sumOf faced slotAt dayAt row bestRow tMany tMost drawX (if 0 ≤ kk ∧ kk ≤ 3 then sp_im said images kk 191 else images) (if 0 ≤ kk ∧ kk ≤ 3 then ab_up imageX kk xx else imageX) (if 0 ≤ kk ∧ kk ≤ 3 then ab_up isMade kk 1 else isMade))) := by
  refine ab_Mt.of rfl (Nat.le_of_ble_eq_true rfl) ?_
  show ab_Ev g_G g_rs mt_Mo_image _ _ _ 0 [some (ab_R 0), some (ab_I kk), none] [] _ _
  refine ev_iload_n de_Mo_image_0 rfl rfl ?_
  refine ev_i2l de_Mo_image_1 (by omega) ?_
  refine ev_lconsti (n := 0) de_Mo_image_2 (by decide) ?_
  refine ev_ldc2i (n := 3) de_Mo_image_3 cn_Mo_352 (by decide) ?_
  refine ev_sv de_Mo_image_6 (co_Mo_in _ kk (0) (3) (by omega) (by decide) (by decide)) kb_Mo_115 sc_Mo_in rfl (Nat.le_of_ble_eq_true rfl) (by decide) rfl ?_
  refine ev_if_ne (tgt := 14) de_Mo_image_9 (by decide) (by split <;> decide) (fun h9 => ?_) (fun h9 => ?_)
  · skip
    have n9 : 0 ≤ kk ∧ kk ≤ 3 := Decidable.byContradiction (fun z => by rw [if_neg z] at h9; omega)
    rw [if_pos n9, if_pos n9, if_pos n9, if_pos n9]
    refine ev_aload_n de_Mo_image_14 rfl rfl ?_
    refine ev_getfield de_Mo_image_15 rfl fl_Mo_72 rfl ?_
    refine ev_iload_n de_Mo_image_18 rfl rfl ?_
    refine ev_iconst de_Mo_image_19 ?_
    refine ev_zastore de_Mo_image_20 rfl (by omega) (by omega) (by omega) (by decide) ?_
    refine ev_world (w' := mo_W _ _ _ _ _ _ _ _ _ _ _ _ _ _ _ _ _ _ _ _ _ _ _ _ _ _ _ _ _ _ _ _ _ _ _ _ _) rfl ?_
    refine ev_aload_n de_Mo_image_21 rfl rfl ?_
    refine ev_getfield de_Mo_image_22 rfl fl_Mo_69 rfl ?_
    refine ev_iload_n de_Mo_image_25 rfl rfl ?_
    refine ev_aload_n de_Mo_image_26 rfl rfl ?_
    refine ev_getfield de_Mo_image_27 rfl fl_Mo_465 rfl ?_
    refine ev_iastore de_Mo_image_30 rfl (by omega) (by omega) (by omega) ?_
    refine ev_world (w' := mo_W _ _ _ _ _ _ _ _ _ _ _ _ _ _ _ _ _ _ _ _ _ _ _ _ _ _ _ _ _ _ _ _ _ _ _ _ _) rfl ?_
    refine ev_iconst de_Mo_image_31 ?_
    refine ev_istore_n (l' := [_, _, _]) de_Mo_image_32 rfl (Nat.le_of_ble_eq_true rfl) rfl ?_
    refine ev_world (w' := (mo_W tape taped rules sign leng clause clauses read next wrong number text made deep lines opn opened stack top word said xx was undone kept sumOf faced slotAt dayAt row bestRow tMany tMost drawX (sp_im said images kk 0) (ab_up imageX kk xx) (ab_up isMade kk 1))) (by rw [sp_im_0]) ?_
    exact lo_Mo_image hI kk (by omega) (by omega) 192 0 (by omega) (by omega)
  · skip
    have n9 : ¬ (0 ≤ kk ∧ kk ≤ 3) := fun z => by rw [if_pos z] at h9; omega
    rw [if_neg n9, if_neg n9, if_neg n9, if_neg n9]
    refine ev_iconst de_Mo_image_12 ?_
    exact ev_ireturn de_Mo_image_13 rfl ⟨rfl, rfl⟩
theorem de_Mo_back_0 : decode prog_14_method_116_code 0 = .ok (.iload_n 1, 1) := by decide +kernel
theorem de_Mo_back_1 : decode prog_14_method_116_code 1 = .ok (.i2l, 1) := by decide +kernel
theorem de_Mo_back_2 : decode prog_14_method_116_code 2 = .ok (.lconst 0, 1) := by decide +kernel
theorem de_Mo_back_3 : decode prog_14_method_116_code 3 = .ok (.ldc2_w 352, 3) := by decide +kernel
theorem de_Mo_back_6 : decode prog_14_method_116_code 6 = .ok (.invokestatic 115, 3) := by decide +kernel
theorem de_Mo_back_9 : decode prog_14_method_116_code 9 = .ok (.ifCond .eq 12, 3) := by decide +kernel
theorem de_Mo_back_12 : decode prog_14_method_116_code 12 = .ok (.aload_n 0, 1) := by decide +kernel
theorem de_Mo_back_13 : decode prog_14_method_116_code 13 = .ok (.getfield 72, 3) := by decide +kernel
theorem de_Mo_back_16 : decode prog_14_method_116_code 16 = .ok (.iload_n 1, 1) := by decide +kernel
theorem de_Mo_back_17 : decode prog_14_method_116_code 17 = .ok (.baload, 1) := by decide +kernel
theorem de_Mo_back_18 : decode prog_14_method_116_code 18 = .ok (.ifCond .ne 5, 3) := by decide +kernel
theorem de_Mo_back_21 : decode prog_14_method_116_code 21 = .ok (.iconst (-1), 1) := by decide +kernel
theorem de_Mo_back_22 : decode prog_14_method_116_code 22 = .ok (.ireturn, 1) := by decide +kernel
theorem de_Mo_back_23 : decode prog_14_method_116_code 23 = .ok (.aload_n 0, 1) := by decide +kernel
theorem de_Mo_back_24 : decode prog_14_method_116_code 24 = .ok (.aload_n 0, 1) := by decide +kernel
theorem de_Mo_back_25 : decode prog_14_method_116_code 25 = .ok (.getfield 69, 3) := by decide +kernel
theorem de_Mo_back_28 : decode prog_14_method_116_code 28 = .ok (.iload_n 1, 1) := by decide +kernel
theorem de_Mo_back_29 : decode prog_14_method_116_code 29 = .ok (.iaload, 1) := by decide +kernel
theorem de_Mo_back_30 : decode prog_14_method_116_code 30 = .ok (.putfield 465, 3) := by decide +kernel
theorem de_Mo_back_33 : decode prog_14_method_116_code 33 = .ok (.aload_n 0, 1) := by decide +kernel
theorem de_Mo_back_34 : decode prog_14_method_116_code 34 = .ok (.iconst 0, 1) := by decide +kernel
theorem de_Mo_back_35 : decode prog_14_method_116_code 35 = .ok (.putfield 272, 3) := by decide +kernel
theorem de_Mo_back_38 : decode prog_14_method_116_code 38 = .ok (.iconst 0, 1) := by decide +kernel
theorem de_Mo_back_39 : decode prog_14_method_116_code 39 = .ok (.istore_n 2, 1) := by decide +kernel
theorem de_Mo_back_40 : decode prog_14_method_116_code 40 = .ok (.iload_n 2, 1) := by decide +kernel
theorem de_Mo_back_41 : decode prog_14_method_116_code 41 = .ok (.sipush 191, 3) := by decide +kernel
theorem de_Mo_back_44 : decode prog_14_method_116_code 44 = .ok (.if_icmp .ge 27, 3) := by decide +kernel
theorem de_Mo_back_47 : decode prog_14_method_116_code 47 = .ok (.aload_n 0, 1) := by decide +kernel
theorem de_Mo_back_48 : decode prog_14_method_116_code 48 = .ok (.getfield 39, 3) := by decide +kernel
theorem de_Mo_back_51 : decode prog_14_method_116_code 51 = .ok (.iload_n 2, 1) := by decide +kernel
theorem de_Mo_back_52 : decode prog_14_method_116_code 52 = .ok (.aload_n 0, 1) := by decide +kernel
theorem de_Mo_back_53 : decode prog_14_method_116_code 53 = .ok (.getfield 66, 3) := by decide +kernel
theorem de_Mo_back_56 : decode prog_14_method_116_code 56 = .ok (.sipush 191, 3) := by decide +kernel
theorem de_Mo_back_59 : decode prog_14_method_116_code 59 = .ok (.iload_n 1, 1) := by decide +kernel
theorem de_Mo_back_60 : decode prog_14_method_116_code 60 = .ok (.imul, 1) := by decide +kernel
theorem de_Mo_back_61 : decode prog_14_method_116_code 61 = .ok (.iload_n 2, 1) := by decide +kernel
theorem de_Mo_back_62 : decode prog_14_method_116_code 62 = .ok (.iadd, 1) := by decide +kernel
theorem de_Mo_back_63 : decode prog_14_method_116_code 63 = .ok (.iaload, 1) := by decide +kernel
theorem de_Mo_back_64 : decode prog_14_method_116_code 64 = .ok (.iastore, 1) := by decide +kernel
theorem de_Mo_back_65 : decode prog_14_method_116_code 65 = .ok (.iinc 2 1, 3) := by decide +kernel
theorem de_Mo_back_68 : decode prog_14_method_116_code 68 = .ok (.goto (-28), 3) := by decide +kernel
theorem de_Mo_back_71 : decode prog_14_method_116_code 71 = .ok (.aload_n 0, 1) := by decide +kernel
theorem de_Mo_back_72 : decode prog_14_method_116_code 72 = .ok (.getfield 39, 3) := by decide +kernel
theorem de_Mo_back_75 : decode prog_14_method_116_code 75 = .ok (.bipush 6, 2) := by decide +kernel
theorem de_Mo_back_77 : decode prog_14_method_116_code 77 = .ok (.iaload, 1) := by decide +kernel
theorem de_Mo_back_78 : decode prog_14_method_116_code 78 = .ok (.ireturn, 1) := by decide +kernel
set_option maxRecDepth 10000 in
theorem lo_Mo_back (kk : Int) (hk0 : 0 ≤ kk) (hk1 : kk ≤ 3) : ∀ (n : Nat) (k : Nat), k ≤ 191 → 191 < k + n → ab_Ev g_G g_rs mt_Mo_back 1 0 0 40 [some (ab_R 0), some (ab_I kk), some (ab_I (k : Int))] [] (mo_W tape taped rules sign leng clause clauses read next wrong number text made deep lines opn opened stack top word (sp_cp (sp_img images kk) said k) xx was undone kept sumOf faced slotAt dayAt row bestRow tMany tMost drawX images imageX isMade) (ab_is (some (ab_I (sp_img images kk 6))) (mo_W tape taped rules sign leng clause clauses read next wrong number text made deep lines opn opened stack top word (sp_cp (sp_img images kk) said 191) xx was undone kept sumOf faced slotAt dayAt row bestRow tMany tMost drawX images imageX isMade)) := by
  intro n
  induction n with
  | zero =>
    intro k
    intro g1 g2; omega
  | succ n ih =>
    intro k
    intro g1 g2
    refine ev_iload_n de_Mo_back_40 rfl rfl ?_
    refine ev_sipush de_Mo_back_41 rfl ?_
    refine ev_icmp_ge (tgt := 71) de_Mo_back_44 (by decide) (by omega) (by omega) (fun h44 => ?_) (fun h44 => ?_)
    · skip
      have e : k = 191 := by omega
      subst e
      refine ev_aload_n de_Mo_back_71 rfl rfl ?_
      refine ev_getfield de_Mo_back_72 rfl fl_Mo_39 rfl ?_
      refine ev_bipush de_Mo_back_75 rfl ?_
      refine ev_iaload de_Mo_back_77 rfl (by omega) (by omega) (by omega) ?_
      exact ev_ireturn de_Mo_back_78 rfl ⟨rfl, rfl⟩
    · skip
      refine ev_aload_n de_Mo_back_47 rfl rfl ?_
      refine ev_getfield de_Mo_back_48 rfl fl_Mo_39 rfl ?_
      refine ev_iload_n de_Mo_back_51 rfl rfl ?_
      refine ev_aload_n de_Mo_back_52 rfl rfl ?_
      refine ev_getfield de_Mo_back_53 rfl fl_Mo_66 rfl ?_
      refine ev_sipush de_Mo_back_56 rfl ?_
      refine ev_iload_n de_Mo_back_59 rfl rfl ?_
      refine ev_imul de_Mo_back_60 ?_
      refine ev_iload_n de_Mo_back_61 rfl rfl ?_
      refine ev_iadd de_Mo_back_62 ?_
      refine ev_iaload de_Mo_back_63 rfl (by omega) (by omega) (by omega) ?_
      refine ev_iastore de_Mo_back_64 rfl (by omega) (by omega) (by omega) ?_
      refine ev_world (w' := mo_W _ _ _ _ _ _ _ _ _ _ _ _ _ _ _ _ _ _ _ _ _ _ _ _ _ _ _ _ _ _ _ _ _ _ _ _ _) rfl ?_
      refine ev_world (w' := (mo_W tape taped rules sign leng clause clauses read next wrong number text made deep lines opn opened stack top word (sp_cp (sp_img images kk) said (k + 1)) xx was undone kept sumOf faced slotAt dayAt row bestRow tMany tMost drawX images imageX isMade)) (by rw [← sp_cp_s]; rfl) ?_
      refine ev_iinc (l' := [_, _, _]) de_Mo_back_65 rfl rfl ?_
      refine ev_goto (tgt := 40) de_Mo_back_68 (by decide) ?_
      exact ih (k + 1) (by omega) (by omega)
set_option maxRecDepth 10000 in
theorem co_Mo_back (hm : ∀ j, 0 ≤ j → j ≤ 3 → isMade j = 0 ∨ isMade j = 1) (kk : Int) (hk : ab_in kk) : ab_Mt g_G g_rs mt_Mo_back 1 0 0 [ab_R 0, ab_I kk] (mo_W tape taped rules sign leng clause clauses read next wrong number text made deep lines opn opened stack top word said xx was undone kept sumOf faced slotAt dayAt row bestRow tMany tMost drawX images imageX isMade) (ab_is (some (ab_I (if (0 ≤ kk ∧ kk ≤ 3) ∧ isMade kk = 1 then sp_img images kk 6 else -1))) (mo_W tape taped rules sign leng clause clauses read next wrong number text made deep lines opn opened stack top word (if (0 ≤ kk ∧ kk ≤ 3) ∧ isMade kk = 1 then sp_cp (sp_img images kk) said 191 else said) (if (0 ≤ kk ∧ kk ≤ 3) ∧ isMade kk = 1 then imageX kk else xx) was (if (0 ≤ kk ∧ kk ≤ 3) ∧ isMade kk = 1 then 0 else undone) kept sumOf faced slotAt dayAt row bestRow tMany tMost drawX images imageX isMade)) := by
  refine ab_Mt.of rfl (Nat.le_of_ble_eq_true rfl) ?_
  show ab_Ev g_G g_rs mt_Mo_back _ _ _ 0 [some (ab_R 0), some (ab_I kk), none] [] _ _
  refine ev_iload_n de_Mo_back_0 rfl rfl ?_
  refine ev_i2l de_Mo_back_1 (by omega) ?_
  refine ev_lconsti (n := 0) de_Mo_back_2 (by decide) ?_
  refine ev_ldc2i (n := 3) de_Mo_back_3 cn_Mo_352 (by decide) ?_
  refine ev_sv de_Mo_back_6 (co_Mo_in _ kk (0) (3) (by omega) (by decide) (by decide)) kb_Mo_115 sc_Mo_in rfl (Nat.le_of_ble_eq_true rfl) (by decide) rfl ?_
  refine ev_if_eq (tgt := 21) de_Mo_back_9 (by decide) (by split <;> decide) (fun h9 => ?_) (fun h9 => ?_)
  · skip
    have n9 : ¬ (0 ≤ kk ∧ kk ≤ 3) := fun z => by rw [if_pos z] at h9; omega
    rw [if_neg (by omega), if_neg (by omega), if_neg (by omega), if_neg (by omega)]
    refine ev_iconst de_Mo_back_21 ?_
    exact ev_ireturn de_Mo_back_22 rfl ⟨rfl, rfl⟩
  · skip
    have n9 : 0 ≤ kk ∧ kk ≤ 3 := Decidable.byContradiction (fun z => by rw [if_neg z] at h9; omega)
    have qm := hm kk (by omega) (by omega)
    refine ev_aload_n de_Mo_back_12 rfl rfl ?_
    refine ev_getfield de_Mo_back_13 rfl fl_Mo_72 rfl ?_
    refine ev_iload_n de_Mo_back_16 rfl rfl ?_
    refine ev_zaload de_Mo_back_17 rfl (by omega) (by omega) (by omega) ?_
    refine ev_if_ne (tgt := 23) de_Mo_back_18 (by decide) (by omega) (fun h18 => ?_) (fun h18 => ?_)
    · skip
      rw [if_pos (by omega), if_pos (by omega), if_pos (by omega), if_pos (by omega)]
      refine ev_aload_n de_Mo_back_23 rfl rfl ?_
      refine ev_aload_n de_Mo_back_24 rfl rfl ?_
      refine ev_getfield de_Mo_back_25 rfl fl_Mo_69 rfl ?_
      refine ev_iload_n de_Mo_back_28 rfl rfl ?_
      refine ev_iaload de_Mo_back_29 rfl (by omega) (by omega) (by omega) ?_
      refine ev_putfield de_Mo_back_30 rfl (fp_Mo_465 _) (Nat.le_of_ble_eq_true rfl) trivial ?_
      refine ev_world (w' := mo_W _ _ _ _ _ _ _ _ _ _ _ _ _ _ _ _ _ _ _ _ _ _ _ _ _ _ _ _ _ _ _ _ _ _ _ _ _) rfl ?_
      refine ev_aload_n de_Mo_back_33 rfl rfl ?_
      refine ev_iconst de_Mo_back_34 ?_
      refine ev_putfield de_Mo_back_35 rfl (fp_Mo_272 _) (Nat.le_of_ble_eq_true rfl) trivial ?_
      refine ev_world (w' := mo_W _ _ _ _ _ _ _ _ _ _ _ _ _ _ _ _ _ _ _ _ _ _ _ _ _ _ _ _ _ _ _ _ _ _ _ _ _) rfl ?_
      refine ev_iconst de_Mo_back_38 ?_
      refine ev_istore_n (l' := [_, _, _]) de_Mo_back_39 rfl (Nat.le_of_ble_eq_true rfl) rfl ?_
      refine ev_world (w' := (mo_W tape taped rules sign leng clause clauses read next wrong number text made deep lines opn opened stack top word (sp_cp (sp_img images kk) said 0) (imageX kk) was (0) kept sumOf faced slotAt dayAt row bestRow tMany tMost drawX images imageX isMade)) (by rw [sp_cp_0]) ?_
      exact lo_Mo_back kk (by omega) (by omega) 192 0 (by omega) (by omega)
    · skip
      rw [if_neg (by omega), if_neg (by omega), if_neg (by omega), if_neg (by omega)]
      refine ev_iconst de_Mo_back_21 ?_
      exact ev_ireturn de_Mo_back_22 rfl ⟨rfl, rfl⟩
theorem de_Mo_diary_0 : decode prog_14_method_106_code 0 = .ok (.iload_n 1, 1) := by decide +kernel
theorem de_Mo_diary_1 : decode prog_14_method_106_code 1 = .ok (.iconst (-1), 1) := by decide +kernel
theorem de_Mo_diary_2 : decode prog_14_method_106_code 2 = .ok (.if_icmp .ne 14, 3) := by decide +kernel
theorem de_Mo_diary_5 : decode prog_14_method_106_code 5 = .ok (.aload_n 0, 1) := by decide +kernel
theorem de_Mo_diary_6 : decode prog_14_method_106_code 6 = .ok (.getfield 39, 3) := by decide +kernel
theorem de_Mo_diary_9 : decode prog_14_method_106_code 9 = .ok (.sipush 190, 3) := by decide +kernel
theorem de_Mo_diary_12 : decode prog_14_method_106_code 12 = .ok (.iconst 0, 1) := by decide +kernel
theorem de_Mo_diary_13 : decode prog_14_method_106_code 13 = .ok (.iastore, 1) := by decide +kernel
theorem de_Mo_diary_14 : decode prog_14_method_106_code 14 = .ok (.iconst 0, 1) := by decide +kernel
theorem de_Mo_diary_15 : decode prog_14_method_106_code 15 = .ok (.ireturn, 1) := by decide +kernel
theorem de_Mo_diary_16 : decode prog_14_method_106_code 16 = .ok (.aload_n 0, 1) := by decide +kernel
theorem de_Mo_diary_17 : decode prog_14_method_106_code 17 = .ok (.iload_n 1, 1) := by decide +kernel
theorem de_Mo_diary_18 : decode prog_14_method_106_code 18 = .ok (.invokevirtual 316, 3) := by decide +kernel
theorem de_Mo_diary_21 : decode prog_14_method_106_code 21 = .ok (.ifCond .eq 40, 3) := by decide +kernel
theorem de_Mo_diary_24 : decode prog_14_method_106_code 24 = .ok (.iload_n 2, 1) := by decide +kernel
theorem de_Mo_diary_25 : decode prog_14_method_106_code 25 = .ok (.i2l, 1) := by decide +kernel
theorem de_Mo_diary_26 : decode prog_14_method_106_code 26 = .ok (.lconst 0, 1) := by decide +kernel
theorem de_Mo_diary_27 : decode prog_14_method_106_code 27 = .ok (.ldc2_w 456, 3) := by decide +kernel
theorem de_Mo_diary_30 : decode prog_14_method_106_code 30 = .ok (.invokestatic 115, 3) := by decide +kernel
theorem de_Mo_diary_33 : decode prog_14_method_106_code 33 = .ok (.ifCond .eq 28, 3) := by decide +kernel
theorem de_Mo_diary_36 : decode prog_14_method_106_code 36 = .ok (.iload_n 3, 1) := by decide +kernel
theorem de_Mo_diary_37 : decode prog_14_method_106_code 37 = .ok (.i2l, 1) := by decide +kernel
theorem de_Mo_diary_38 : decode prog_14_method_106_code 38 = .ok (.lconst 0, 1) := by decide +kernel
theorem de_Mo_diary_39 : decode prog_14_method_106_code 39 = .ok (.ldc2_w 448, 3) := by decide +kernel
theorem de_Mo_diary_42 : decode prog_14_method_106_code 42 = .ok (.invokestatic 115, 3) := by decide +kernel
theorem de_Mo_diary_45 : decode prog_14_method_106_code 45 = .ok (.ifCond .eq 16, 3) := by decide +kernel
theorem de_Mo_diary_48 : decode prog_14_method_106_code 48 = .ok (.aload_n 0, 1) := by decide +kernel
theorem de_Mo_diary_49 : decode prog_14_method_106_code 49 = .ok (.getfield 39, 3) := by decide +kernel
theorem de_Mo_diary_52 : decode prog_14_method_106_code 52 = .ok (.sipush 190, 3) := by decide +kernel
theorem de_Mo_diary_55 : decode prog_14_method_106_code 55 = .ok (.iaload, 1) := by decide +kernel
theorem de_Mo_diary_56 : decode prog_14_method_106_code 56 = .ok (.bipush 10, 2) := by decide +kernel
theorem de_Mo_diary_58 : decode prog_14_method_106_code 58 = .ok (.if_icmp .ne 6, 3) := by decide +kernel
theorem de_Mo_diary_61 : decode prog_14_method_106_code 61 = .ok (.bipush (-2), 2) := by decide +kernel
theorem de_Mo_diary_63 : decode prog_14_method_106_code 63 = .ok (.ireturn, 1) := by decide +kernel
theorem de_Mo_diary_64 : decode prog_14_method_106_code 64 = .ok (.sipush 150, 3) := by decide +kernel
theorem de_Mo_diary_67 : decode prog_14_method_106_code 67 = .ok (.iconst 4, 1) := by decide +kernel
theorem de_Mo_diary_68 : decode prog_14_method_106_code 68 = .ok (.aload_n 0, 1) := by decide +kernel
theorem de_Mo_diary_69 : decode prog_14_method_106_code 69 = .ok (.getfield 39, 3) := by decide +kernel
theorem de_Mo_diary_72 : decode prog_14_method_106_code 72 = .ok (.sipush 190, 3) := by decide +kernel
theorem de_Mo_diary_75 : decode prog_14_method_106_code 75 = .ok (.iaload, 1) := by decide +kernel
theorem de_Mo_diary_76 : decode prog_14_method_106_code 76 = .ok (.imul, 1) := by decide +kernel
theorem de_Mo_diary_77 : decode prog_14_method_106_code 77 = .ok (.iadd, 1) := by decide +kernel
theorem de_Mo_diary_78 : decode prog_14_method_106_code 78 = .ok (.istore 5, 2) := by decide +kernel
theorem de_Mo_diary_80 : decode prog_14_method_106_code 80 = .ok (.aload_n 0, 1) := by decide +kernel
theorem de_Mo_diary_81 : decode prog_14_method_106_code 81 = .ok (.getfield 39, 3) := by decide +kernel
theorem de_Mo_diary_84 : decode prog_14_method_106_code 84 = .ok (.iload 5, 2) := by decide +kernel
theorem de_Mo_diary_86 : decode prog_14_method_106_code 86 = .ok (.iload_n 1, 1) := by decide +kernel
theorem de_Mo_diary_87 : decode prog_14_method_106_code 87 = .ok (.iastore, 1) := by decide +kernel
theorem de_Mo_diary_88 : decode prog_14_method_106_code 88 = .ok (.aload_n 0, 1) := by decide +kernel
theorem de_Mo_diary_89 : decode prog_14_method_106_code 89 = .ok (.getfield 39, 3) := by decide +kernel
theorem de_Mo_diary_92 : decode prog_14_method_106_code 92 = .ok (.iload 5, 2) := by decide +kernel
theorem de_Mo_diary_94 : decode prog_14_method_106_code 94 = .ok (.iconst 1, 1) := by decide +kernel
theorem de_Mo_diary_95 : decode prog_14_method_106_code 95 = .ok (.iadd, 1) := by decide +kernel
theorem de_Mo_diary_96 : decode prog_14_method_106_code 96 = .ok (.iload_n 2, 1) := by decide +kernel
theorem de_Mo_diary_97 : decode prog_14_method_106_code 97 = .ok (.iastore, 1) := by decide +kernel
theorem de_Mo_diary_98 : decode prog_14_method_106_code 98 = .ok (.aload_n 0, 1) := by decide +kernel
theorem de_Mo_diary_99 : decode prog_14_method_106_code 99 = .ok (.getfield 39, 3) := by decide +kernel
theorem de_Mo_diary_102 : decode prog_14_method_106_code 102 = .ok (.iload 5, 2) := by decide +kernel
theorem de_Mo_diary_104 : decode prog_14_method_106_code 104 = .ok (.iconst 2, 1) := by decide +kernel
theorem de_Mo_diary_105 : decode prog_14_method_106_code 105 = .ok (.iadd, 1) := by decide +kernel
theorem de_Mo_diary_106 : decode prog_14_method_106_code 106 = .ok (.iload_n 3, 1) := by decide +kernel
theorem de_Mo_diary_107 : decode prog_14_method_106_code 107 = .ok (.iastore, 1) := by decide +kernel
theorem de_Mo_diary_108 : decode prog_14_method_106_code 108 = .ok (.aload_n 0, 1) := by decide +kernel
theorem de_Mo_diary_109 : decode prog_14_method_106_code 109 = .ok (.getfield 39, 3) := by decide +kernel
theorem de_Mo_diary_112 : decode prog_14_method_106_code 112 = .ok (.iload 5, 2) := by decide +kernel
theorem de_Mo_diary_114 : decode prog_14_method_106_code 114 = .ok (.iconst 3, 1) := by decide +kernel
theorem de_Mo_diary_115 : decode prog_14_method_106_code 115 = .ok (.iadd, 1) := by decide +kernel
theorem de_Mo_diary_116 : decode prog_14_method_106_code 116 = .ok (.iload 4, 2) := by decide +kernel
theorem de_Mo_diary_118 : decode prog_14_method_106_code 118 = .ok (.ifCond .eq 7, 3) := by decide +kernel
theorem de_Mo_diary_121 : decode prog_14_method_106_code 121 = .ok (.iconst 1, 1) := by decide +kernel
theorem de_Mo_diary_122 : decode prog_14_method_106_code 122 = .ok (.goto 4, 3) := by decide +kernel
theorem de_Mo_diary_125 : decode prog_14_method_106_code 125 = .ok (.iconst 0, 1) := by decide +kernel
theorem de_Mo_diary_126 : decode prog_14_method_106_code 126 = .ok (.iastore, 1) := by decide +kernel
theorem de_Mo_diary_127 : decode prog_14_method_106_code 127 = .ok (.aload_n 0, 1) := by decide +kernel
theorem de_Mo_diary_128 : decode prog_14_method_106_code 128 = .ok (.getfield 39, 3) := by decide +kernel
theorem de_Mo_diary_131 : decode prog_14_method_106_code 131 = .ok (.sipush 190, 3) := by decide +kernel
theorem de_Mo_diary_134 : decode prog_14_method_106_code 134 = .ok (.dup2, 1) := by decide +kernel
theorem de_Mo_diary_135 : decode prog_14_method_106_code 135 = .ok (.iaload, 1) := by decide +kernel
theorem de_Mo_diary_136 : decode prog_14_method_106_code 136 = .ok (.iconst 1, 1) := by decide +kernel
theorem de_Mo_diary_137 : decode prog_14_method_106_code 137 = .ok (.iadd, 1) := by decide +kernel
theorem de_Mo_diary_138 : decode prog_14_method_106_code 138 = .ok (.iastore, 1) := by decide +kernel
theorem de_Mo_diary_139 : decode prog_14_method_106_code 139 = .ok (.aload_n 0, 1) := by decide +kernel
theorem de_Mo_diary_140 : decode prog_14_method_106_code 140 = .ok (.getfield 39, 3) := by decide +kernel
theorem de_Mo_diary_143 : decode prog_14_method_106_code 143 = .ok (.sipush 190, 3) := by decide +kernel
theorem de_Mo_diary_146 : decode prog_14_method_106_code 146 = .ok (.iaload, 1) := by decide +kernel
theorem de_Mo_diary_147 : decode prog_14_method_106_code 147 = .ok (.ireturn, 1) := by decide +kernel
set_option maxRecDepth 10000 in
theorem co_Mo_diary {B : Int} (hI : sg_ok B said) (h0 nn ss z : Int) (hh : ab_in h0) (hn : ab_in nn) (hs : ab_in ss) (hz : z = 0 ∨ z = 1) : ab_Mt g_G g_rs mt_Mo_diary 1 0 0 [ab_R 0, ab_I h0, ab_I nn, ab_I ss, ab_I z] (mo_W tape taped rules sign leng clause clauses read next wrong number text made deep lines opn opened stack top word said xx was undone kept sumOf faced slotAt dayAt row bestRow tMany tMost drawX images imageX isMade) (ab_is (some (ab_I (if h0 = -1 then 0 else if (0 ≤ h0 ∧ h0 < said 1) ∧ (0 ≤ nn ∧ nn ≤ 99) ∧ (0 ≤ ss ∧ ss ≤ 4) ∧ ¬ said 190 = 10 then said 190 + 1 else -2))) (mo_W tape taped rules sign leng clause clauses read next wrong number text made deep lines opn opened stack top word (if h0 = -1 then ab_up said 190 0 else if (0 ≤ h0 ∧ h0 < said 1) ∧ (0 ≤ nn ∧ nn ≤ 99) ∧ (0 ≤ ss ∧ ss ≤ 4) ∧ ¬ said 190 = 10 then sp_dia said h0 nn ss z else said) xx was undone kept sumOf faced slotAt dayAt row bestRow tMany tMost drawX images imageX isMade)) := by
  refine ab_Mt.of rfl (Nat.le_of_ble_eq_true rfl) ?_
  show ab_Ev g_G g_rs mt_Mo_diary _ _ _ 0 [some (ab_R 0), some (ab_I h0), some (ab_I nn), some (ab_I ss), some (ab_I z), none] [] _ _
  have hJ := hI; obtain ⟨i0, i1, i2, i3, i4, i5, i6, i7, i8, i9, i10, i11, i12, i13, i14, i15, i16, i17⟩ := sg_all hJ
  refine ev_iload_n de_Mo_diary_0 rfl rfl ?_
  refine ev_iconst de_Mo_diary_1 ?_
  refine ev_icmp_ne (tgt := 16) de_Mo_diary_2 (by decide) (by omega) (by omega) (fun h2 => ?_) (fun h2 => ?_)
  · skip
    rw [if_neg h2, if_neg h2]
    refine ev_aload_n de_Mo_diary_16 rfl rfl ?_
    refine ev_iload_n de_Mo_diary_17 rfl rfl ?_
    refine ev_vv (ci := 11) de_Mo_diary_18 (co_Mo_isHouse hI h0 hh) kb_Mo_316 ⟨im_Mo_isHouse, se_Mo_isHouse⟩ rfl rfl rfl (Nat.le_of_ble_eq_true rfl) (by decide) rfl ?_
    refine ev_if_eq (tgt := 61) de_Mo_diary_21 (by decide) (by split <;> decide) (fun h21 => ?_) (fun h21 => ?_)
    · skip
      have n21 : ¬ (0 ≤ h0 ∧ h0 < said 1) := fun z => by rw [if_pos z] at h21; omega
      rw [if_neg (by omega), if_neg (by omega)]
      refine ev_bipush de_Mo_diary_61 rfl ?_
      exact ev_ireturn de_Mo_diary_63 rfl ⟨rfl, rfl⟩
    · skip
      have n21 : 0 ≤ h0 ∧ h0 < said 1 := Decidable.byContradiction (fun z => by rw [if_neg z] at h21; omega)
      refine ev_iload_n de_Mo_diary_24 rfl rfl ?_
      refine ev_i2l de_Mo_diary_25 (by omega) ?_
      refine ev_lconsti (n := 0) de_Mo_diary_26 (by decide) ?_
      refine ev_ldc2i (n := 99) de_Mo_diary_27 cn_Mo_456 (by decide) ?_
      refine ev_sv de_Mo_diary_30 (co_Mo_in _ nn (0) (99) (by omega) (by decide) (by decide)) kb_Mo_115 sc_Mo_in rfl (Nat.le_of_ble_eq_true rfl) (by decide) rfl ?_
      refine ev_if_eq (tgt := 61) de_Mo_diary_33 (by decide) (by split <;> decide) (fun h33 => ?_) (fun h33 => ?_)
      · skip
        have n33 : ¬ (0 ≤ nn ∧ nn ≤ 99) := fun z => by rw [if_pos z] at h33; omega
        rw [if_neg (by omega), if_neg (by omega)]
        refine ev_bipush de_Mo_diary_61 rfl ?_
        exact ev_ireturn de_Mo_diary_63 rfl ⟨rfl, rfl⟩
      · skip
        have n33 : 0 ≤ nn ∧ nn ≤ 99 := Decidable.byContradiction (fun z => by rw [if_neg z] at h33; omega)
        refine ev_iload_n de_Mo_diary_36 rfl rfl ?_
        refine ev_i2l de_Mo_diary_37 (by omega) ?_
        refine ev_lconsti (n := 0) de_Mo_diary_38 (by decide) ?_
        refine ev_ldc2i (n := 4) de_Mo_diary_39 cn_Mo_448 (by decide) ?_
        refine ev_sv de_Mo_diary_42 (co_Mo_in _ ss (0) (4) (by omega) (by decide) (by decide)) kb_Mo_115 sc_Mo_in rfl (Nat.le_of_ble_eq_true rfl) (by decide) rfl ?_
        refine ev_if_eq (tgt := 61) de_Mo_diary_45 (by decide) (by split <;> decide) (fun h45 => ?_) (fun h45 => ?_)
        · skip
          have n45 : ¬ (0 ≤ ss ∧ ss ≤ 4) := fun z => by rw [if_pos z] at h45; omega
          rw [if_neg (by omega), if_neg (by omega)]
          refine ev_bipush de_Mo_diary_61 rfl ?_
          exact ev_ireturn de_Mo_diary_63 rfl ⟨rfl, rfl⟩
        · skip
          have n45 : 0 ≤ ss ∧ ss ≤ 4 := Decidable.byContradiction (fun z => by rw [if_neg z] at h45; omega)
          refine ev_aload_n de_Mo_diary_48 rfl rfl ?_
          refine ev_getfield de_Mo_diary_49 rfl fl_Mo_39 rfl ?_
          refine ev_sipush de_Mo_diary_52 rfl ?_
          refine ev_iaload de_Mo_diary_55 rfl (by omega) (by omega) (by omega) ?_
          refine ev_bipush de_Mo_diary_56 rfl ?_
          refine ev_icmp_ne (tgt := 64) de_Mo_diary_58 (by decide) (by omega) (by omega) (fun h58 => ?_) (fun h58 => ?_)
          · skip
            rw [if_pos (by omega), if_pos (by omega)]
            refine ev_sipush de_Mo_diary_64 rfl ?_
            refine ev_iconst de_Mo_diary_67 ?_
            refine ev_aload_n de_Mo_diary_68 rfl rfl ?_
            refine ev_getfield de_Mo_diary_69 rfl fl_Mo_39 rfl ?_
            refine ev_sipush de_Mo_diary_72 rfl ?_
            refine ev_iaload de_Mo_diary_75 rfl (by omega) (by omega) (by omega) ?_
            refine ev_imul de_Mo_diary_76 ?_
            refine ev_iadd de_Mo_diary_77 ?_
            refine ev_istore (l' := [_, _, _, _, _, _]) de_Mo_diary_78 (Nat.le_of_ble_eq_true rfl) rfl ?_
            refine ev_aload_n de_Mo_diary_80 rfl rfl ?_
            refine ev_getfield de_Mo_diary_81 rfl fl_Mo_39 rfl ?_
            refine ev_iload de_Mo_diary_84 rfl ?_
            refine ev_iload_n de_Mo_diary_86 rfl rfl ?_
            refine ev_iastore de_Mo_diary_87 rfl (by omega) (by omega) (by omega) ?_
            refine ev_world (w' := mo_W _ _ _ _ _ _ _ _ _ _ _ _ _ _ _ _ _ _ _ _ _ _ _ _ _ _ _ _ _ _ _ _ _ _ _ _ _) rfl ?_
            refine ev_aload_n de_Mo_diary_88 rfl rfl ?_
            refine ev_getfield de_Mo_diary_89 rfl fl_Mo_39 rfl ?_
            refine ev_iload de_Mo_diary_92 rfl ?_
            refine ev_iconst de_Mo_diary_94 ?_
            refine ev_iadd de_Mo_diary_95 ?_
            refine ev_iload_n de_Mo_diary_96 rfl rfl ?_
            refine ev_iastore de_Mo_diary_97 rfl (by omega) (by omega) (by omega) ?_
            refine ev_world (w' := mo_W _ _ _ _ _ _ _ _ _ _ _ _ _ _ _ _ _ _ _ _ _ _ _ _ _ _ _ _ _ _ _ _ _ _ _ _ _) rfl ?_
            refine ev_aload_n de_Mo_diary_98 rfl rfl ?_
            refine ev_getfield de_Mo_diary_99 rfl fl_Mo_39 rfl ?_
            refine ev_iload de_Mo_diary_102 rfl ?_
            refine ev_iconst de_Mo_diary_104 ?_
            refine ev_iadd de_Mo_diary_105 ?_
            refine ev_iload_n de_Mo_diary_106 rfl rfl ?_
            refine ev_iastore de_Mo_diary_107 rfl (by omega) (by omega) (by omega) ?_
            refine ev_world (w' := mo_W _ _ _ _ _ _ _ _ _ _ _ _ _ _ _ _ _ _ _ _ _ _ _ _ _ _ _ _ _ _ _ _ _ _ _ _ _) rfl ?_
            refine ev_aload_n de_Mo_diary_108 rfl rfl ?_
            refine ev_getfield de_Mo_diary_109 rfl fl_Mo_39 rfl ?_
            refine ev_iload de_Mo_diary_112 rfl ?_
            refine ev_iconst de_Mo_diary_114 ?_
            refine ev_iadd de_Mo_diary_115 ?_
            refine ev_iload de_Mo_diary_116 rfl ?_
            refine ev_if_eq (tgt := 125) de_Mo_diary_118 (by decide) (by omega) (fun h118 => ?_) (fun h118 => ?_)
            · skip
              have ez : (0 : Int) = z := by omega
              refine ev_iconst de_Mo_diary_125 ?_
              refine ev_top (congrArg Sum.inl ez) ?_
              refine ev_iastore de_Mo_diary_126 rfl (by omega) (by omega) (by omega) ?_
              refine ev_world (w' := mo_W _ _ _ _ _ _ _ _ _ _ _ _ _ _ _ _ _ _ _ _ _ _ _ _ _ _ _ _ _ _ _ _ _ _ _ _ _) rfl ?_
              refine ev_aload_n de_Mo_diary_127 rfl rfl ?_
              refine ev_getfield de_Mo_diary_128 rfl fl_Mo_39 rfl ?_
              refine ev_sipush de_Mo_diary_131 rfl ?_
              refine ev_dup2 de_Mo_diary_134 rfl rfl ?_
              refine ev_iaload de_Mo_diary_135 rfl (by first | omega | (rw [ab_upn _ _ (by omega), ab_upn _ _ (by omega), ab_upn _ _ (by omega), ab_upn _ _ (by omega)]; omega)) (by first | omega | (rw [ab_upn _ _ (by omega), ab_upn _ _ (by omega), ab_upn _ _ (by omega), ab_upn _ _ (by omega)]; omega)) (by first | omega | (rw [ab_upn _ _ (by omega), ab_upn _ _ (by omega), ab_upn _ _ (by omega), ab_upn _ _ (by omega)]; omega)) ?_
              refine ev_top (congrArg Sum.inl (show _ = said 190 from by rw [ab_upn _ _ (by omega), ab_upn _ _ (by omega), ab_upn _ _ (by omega), ab_upn _ _ (by omega)])) ?_
              refine ev_iconst de_Mo_diary_136 ?_
              refine ev_iadd de_Mo_diary_137 ?_
              refine ev_iastore de_Mo_diary_138 rfl (by omega) (by omega) (by omega) ?_
              refine ev_world (w' := mo_W _ _ _ _ _ _ _ _ _ _ _ _ _ _ _ _ _ _ _ _ _ _ _ _ _ _ _ _ _ _ _ _ _ _ _ _ _) rfl ?_
              refine ev_aload_n de_Mo_diary_139 rfl rfl ?_
              refine ev_getfield de_Mo_diary_140 rfl fl_Mo_39 rfl ?_
              refine ev_sipush de_Mo_diary_143 rfl ?_
              refine ev_iaload de_Mo_diary_146 rfl (by omega) (by omega) (by omega) ?_
              exact ev_ireturn de_Mo_diary_147 rfl ⟨rfl, rfl⟩
            · skip
              have ez : (1 : Int) = z := by omega
              refine ev_iconst de_Mo_diary_121 ?_
              refine ev_goto (tgt := 126) de_Mo_diary_122 (by decide) ?_
              refine ev_top (congrArg Sum.inl ez) ?_
              refine ev_iastore de_Mo_diary_126 rfl (by omega) (by omega) (by omega) ?_
              refine ev_world (w' := mo_W _ _ _ _ _ _ _ _ _ _ _ _ _ _ _ _ _ _ _ _ _ _ _ _ _ _ _ _ _ _ _ _ _ _ _ _ _) rfl ?_
              refine ev_aload_n de_Mo_diary_127 rfl rfl ?_
              refine ev_getfield de_Mo_diary_128 rfl fl_Mo_39 rfl ?_
              refine ev_sipush de_Mo_diary_131 rfl ?_
              refine ev_dup2 de_Mo_diary_134 rfl rfl ?_
              refine ev_iaload de_Mo_diary_135 rfl (by first | omega | (rw [ab_upn _ _ (by omega), ab_upn _ _ (by omega), ab_upn _ _ (by omega), ab_upn _ _ (by omega)]; omega)) (by first | omega | (rw [ab_upn _ _ (by omega), ab_upn _ _ (by omega), ab_upn _ _ (by omega), ab_upn _ _ (by omega)]; omega)) (by first | omega | (rw [ab_upn _ _ (by omega), ab_upn _ _ (by omega), ab_upn _ _ (by omega), ab_upn _ _ (by omega)]; omega)) ?_
              refine ev_top (congrArg Sum.inl (show _ = said 190 from by rw [ab_upn _ _ (by omega), ab_upn _ _ (by omega), ab_upn _ _ (by omega), ab_upn _ _ (by omega)])) ?_
              refine ev_iconst de_Mo_diary_136 ?_
              refine ev_iadd de_Mo_diary_137 ?_
              refine ev_iastore de_Mo_diary_138 rfl (by omega) (by omega) (by omega) ?_
              refine ev_world (w' := mo_W _ _ _ _ _ _ _ _ _ _ _ _ _ _ _ _ _ _ _ _ _ _ _ _ _ _ _ _ _ _ _ _ _ _ _ _ _) rfl ?_
              refine ev_aload_n de_Mo_diary_139 rfl rfl ?_
              refine ev_getfield de_Mo_diary_140 rfl fl_Mo_39 rfl ?_
              refine ev_sipush de_Mo_diary_143 rfl ?_
              refine ev_iaload de_Mo_diary_146 rfl (by omega) (by omega) (by omega) ?_
              exact ev_ireturn de_Mo_diary_147 rfl ⟨rfl, rfl⟩
          · skip
            rw [if_neg (by omega), if_neg (by omega)]
            refine ev_bipush de_Mo_diary_61 rfl ?_
            exact ev_ireturn de_Mo_diary_63 rfl ⟨rfl, rfl⟩
  · skip
    rw [if_pos h2, if_pos h2]
    refine ev_aload_n de_Mo_diary_5 rfl rfl ?_
    refine ev_getfield de_Mo_diary_6 rfl fl_Mo_39 rfl ?_
    refine ev_sipush de_Mo_diary_9 rfl ?_
    refine ev_iconst de_Mo_diary_12 ?_
    refine ev_iastore de_Mo_diary_13 rfl (by omega) (by omega) (by omega) ?_
    refine ev_world (w' := mo_W _ _ _ _ _ _ _ _ _ _ _ _ _ _ _ _ _ _ _ _ _ _ _ _ _ _ _ _ _ _ _ _ _ _ _ _ _) rfl ?_
    refine ev_iconst de_Mo_diary_14 ?_
    exact ev_ireturn de_Mo_diary_15 rfl ⟨rfl, rfl⟩
end MO
