/-! who stays, whose VOTES swing, how to spare: exactly -/
theorem de_Tu_stay_0 : decode prog_1_method_25_code 0 = .ok (.aload_n 0, 1) := by decide +kernel
theorem de_Tu_stay_1 : decode prog_1_method_25_code 1 = .ok (.getfield 19, 3) := by decide +kernel
theorem de_Tu_stay_4 : decode prog_1_method_25_code 4 = .ok (.getfield 152, 3) := by decide +kernel
theorem de_Tu_stay_7 : decode prog_1_method_25_code 7 = .ok (.ifCond .eq 12, 3) := by decide +kernel
theorem de_Tu_stay_10 : decode prog_1_method_25_code 10 = .ok (.iload_n 1, 1) := by decide +kernel
theorem de_Tu_stay_11 : decode prog_1_method_25_code 11 = .ok (.ifCond .lt 8, 3) := by decide +kernel
theorem de_Tu_stay_14 : decode prog_1_method_25_code 14 = .ok (.iload_n 1, 1) := by decide +kernel
theorem de_Tu_stay_15 : decode prog_1_method_25_code 15 = .ok (.iconst 1, 1) := by decide +kernel
theorem de_Tu_stay_16 : decode prog_1_method_25_code 16 = .ok (.if_icmp .le 5, 3) := by decide +kernel
theorem de_Tu_stay_19 : decode prog_1_method_25_code 19 = .ok (.iconst (-1), 1) := by decide +kernel
theorem de_Tu_stay_20 : decode prog_1_method_25_code 20 = .ok (.ireturn, 1) := by decide +kernel
theorem de_Tu_stay_21 : decode prog_1_method_25_code 21 = .ok (.iload_n 1, 1) := by decide +kernel
theorem de_Tu_stay_22 : decode prog_1_method_25_code 22 = .ok (.iconst 1, 1) := by decide +kernel
theorem de_Tu_stay_23 : decode prog_1_method_25_code 23 = .ok (.if_icmp .ne 28, 3) := by decide +kernel
theorem de_Tu_stay_26 : decode prog_1_method_25_code 26 = .ok (.iconst 2, 1) := by decide +kernel
theorem de_Tu_stay_27 : decode prog_1_method_25_code 27 = .ok (.aload_n 0, 1) := by decide +kernel
theorem de_Tu_stay_28 : decode prog_1_method_25_code 28 = .ok (.getfield 19, 3) := by decide +kernel
theorem de_Tu_stay_31 : decode prog_1_method_25_code 31 = .ok (.invokevirtual 267, 3) := by decide +kernel
theorem de_Tu_stay_34 : decode prog_1_method_25_code 34 = .ok (.imul, 1) := by decide +kernel
theorem de_Tu_stay_35 : decode prog_1_method_25_code 35 = .ok (.aload_n 0, 1) := by decide +kernel
theorem de_Tu_stay_36 : decode prog_1_method_25_code 36 = .ok (.getfield 19, 3) := by decide +kernel
theorem de_Tu_stay_39 : decode prog_1_method_25_code 39 = .ok (.invokevirtual 204, 3) := by decide +kernel
theorem de_Tu_stay_42 : decode prog_1_method_25_code 42 = .ok (.if_icmp .le 7, 3) := by decide +kernel
theorem de_Tu_stay_45 : decode prog_1_method_25_code 45 = .ok (.iconst 1, 1) := by decide +kernel
theorem de_Tu_stay_46 : decode prog_1_method_25_code 46 = .ok (.goto 4, 3) := by decide +kernel
theorem de_Tu_stay_49 : decode prog_1_method_25_code 49 = .ok (.iconst 0, 1) := by decide +kernel
theorem de_Tu_stay_50 : decode prog_1_method_25_code 50 = .ok (.ireturn, 1) := by decide +kernel
theorem de_Tu_stay_51 : decode prog_1_method_25_code 51 = .ok (.iconst 0, 1) := by decide +kernel
theorem de_Tu_stay_52 : decode prog_1_method_25_code 52 = .ok (.istore_n 2, 1) := by decide +kernel
theorem de_Tu_stay_53 : decode prog_1_method_25_code 53 = .ok (.iconst 0, 1) := by decide +kernel
theorem de_Tu_stay_54 : decode prog_1_method_25_code 54 = .ok (.istore_n 3, 1) := by decide +kernel
theorem de_Tu_stay_55 : decode prog_1_method_25_code 55 = .ok (.iload_n 3, 1) := by decide +kernel
theorem de_Tu_stay_56 : decode prog_1_method_25_code 56 = .ok (.aload_n 0, 1) := by decide +kernel
theorem de_Tu_stay_57 : decode prog_1_method_25_code 57 = .ok (.getfield 19, 3) := by decide +kernel
theorem de_Tu_stay_60 : decode prog_1_method_25_code 60 = .ok (.getfield 102, 3) := by decide +kernel
theorem de_Tu_stay_63 : decode prog_1_method_25_code 63 = .ok (.if_icmp .ge 26, 3) := by decide +kernel
theorem de_Tu_stay_66 : decode prog_1_method_25_code 66 = .ok (.aload_n 0, 1) := by decide +kernel
theorem de_Tu_stay_67 : decode prog_1_method_25_code 67 = .ok (.getfield 19, 3) := by decide +kernel
theorem de_Tu_stay_70 : decode prog_1_method_25_code 70 = .ok (.iload_n 3, 1) := by decide +kernel
theorem de_Tu_stay_71 : decode prog_1_method_25_code 71 = .ok (.invokevirtual 149, 3) := by decide +kernel
theorem de_Tu_stay_74 : decode prog_1_method_25_code 74 = .ok (.ifCond .eq 9, 3) := by decide +kernel
theorem de_Tu_stay_77 : decode prog_1_method_25_code 77 = .ok (.iload_n 2, 1) := by decide +kernel
theorem de_Tu_stay_78 : decode prog_1_method_25_code 78 = .ok (.iconst 1, 1) := by decide +kernel
theorem de_Tu_stay_79 : decode prog_1_method_25_code 79 = .ok (.iload_n 3, 1) := by decide +kernel
theorem de_Tu_stay_80 : decode prog_1_method_25_code 80 = .ok (.ishl, 1) := by decide +kernel
theorem de_Tu_stay_81 : decode prog_1_method_25_code 81 = .ok (.ior, 1) := by decide +kernel
theorem de_Tu_stay_82 : decode prog_1_method_25_code 82 = .ok (.istore_n 2, 1) := by decide +kernel
theorem de_Tu_stay_83 : decode prog_1_method_25_code 83 = .ok (.iinc 3 1, 3) := by decide +kernel
theorem de_Tu_stay_86 : decode prog_1_method_25_code 86 = .ok (.goto (-31), 3) := by decide +kernel
theorem de_Tu_stay_89 : decode prog_1_method_25_code 89 = .ok (.iload_n 2, 1) := by decide +kernel
theorem de_Tu_stay_90 : decode prog_1_method_25_code 90 = .ok (.ireturn, 1) := by decide +kernel
set_option maxHeartbeats 4000000 in
set_option maxRecDepth 10000 in
theorem lo_Tu_stay {a b : Nat} {rc : Int} {f : Int → Int} {x B : Int} {w : ab_W} (hI : sg_ok B f) (t0 : tu_at a b rc w) (hR : ri_at_j a f x w) (y1 : Int) : ∀ (n : Nat) (k : Nat), (k : Int) ≤ f 1 → f 1 < k + n → ab_Ev g_G g_rs mt_Tu_stay 4 0 0 55 [some (ab_R 0), some (ab_I y1), some (ab_I ((sp_set (sp_wantsI f) k : Nat) : Int)), some (ab_I (k : Int))] [] w (ab_is (some (ab_I (((sp_whoStay f : Nat) : Int)))) w) := by
  intro n
  induction n with
  | zero =>
    intro k
    intro g1 g2; omega
  | succ n ih =>
    intro k
    intro g1 g2
    have ht0 := t0
    have hR0 := hR
    have hI0 := hI
    unfold tu_at at t0
    obtain ⟨sl, fs, vo, li, ra, wo, dh, da, hzz⟩ := hR
    obtain ⟨ds, dn, vw, q0, q1, q2, q3, q4, hzz⟩ := hzz
    obtain ⟨q5, q6, q7, q8, q9, q10, q11, q12, hzz⟩ := hzz
    obtain ⟨e1, e2, e3, e4, e5, e6, e7, e8, e9⟩ := hzz
    obtain ⟨i0, i1, i2, i3, i4, i5, i6, i7, hzz⟩ := sg_all hI
    obtain ⟨i8, i9, i10, i11, i12, i13, i14, i15, hzz⟩ := hzz
    obtain ⟨i16, i17⟩ := hzz
    have hlt : sp_set (sp_wantsI f) k < 2 ^ 30 := Nat.lt_of_lt_of_le (sp_set_lt _ k) (Nat.pow_le_pow_right (by decide) (by omega))
    have w01 := sp_wantsI_01 f (k : Int)
    refine ev_iload_n de_Tu_stay_55 rfl rfl ?_
    refine ev_aload_n de_Tu_stay_56 rfl rfl ?_
    refine ev_getfield de_Tu_stay_57 t0 fl_Tu_19 rfl ?_
    refine ev_getfield de_Tu_stay_60 q0 fl_Tu_102 rfl ?_
    refine ev_icmp_ge (tgt := 89) de_Tu_stay_63 (by decide) (by omega) (by omega) (fun h63 => ?_) (fun h63 => ?_)
    · skip
      have ek : k = (f 1).toNat := by omega
      subst ek
      refine ev_iload_n de_Tu_stay_89 rfl rfl ?_
      exact ev_ireturn de_Tu_stay_90 rfl ⟨rfl, rfl⟩
    · skip
      refine ev_aload_n de_Tu_stay_66 rfl rfl ?_
      refine ev_getfield de_Tu_stay_67 t0 fl_Tu_19 rfl ?_
      refine ev_iload_n de_Tu_stay_70 rfl rfl ?_
      refine ev_vv (ci := 5) de_Tu_stay_71 (co_Ri_wantsStay_j hI0 hR0 _ (by omega) (by omega)) kb_Tu_149 ⟨im_Ri_wantsStay, se_Ri_wantsStay⟩ rfl q0 rfl (Nat.le_of_ble_eq_true rfl) (by decide) rfl ?_
      refine ev_if_eq (tgt := 83) de_Tu_stay_74 (by decide) (by omega) (fun h74 => ?_) (fun h74 => ?_)
      · skip
        have eS : ((sp_set (sp_wantsI f) k : Nat) : Int) = ((sp_set (sp_wantsI f) (k + 1) : Nat) : Int) := by simp only [sp_set]; rw [if_pos h74, Nat.or_zero]
        refine ev_iinc (l' := [_, _, _, _]) de_Tu_stay_83 rfl rfl ?_
        refine ev_goto (tgt := 55) de_Tu_stay_86 (by decide) ?_
        refine ev_loc (l2 := [some (ab_R 0), some (ab_I y1), some (ab_I ((sp_set (sp_wantsI f) (k + 1) : Nat) : Int)), some (ab_I ((k + 1 : Nat) : Int))]) (by first | (rw [eS]; rfl) | rfl) ?_
        exact ih (k + 1) (by omega) (by omega)
      · skip
        refine ev_iload_n de_Tu_stay_77 rfl rfl ?_
        refine ev_iconst de_Tu_stay_78 ?_
        refine ev_iload_n de_Tu_stay_79 rfl rfl ?_
        refine ev_ishl de_Tu_stay_80 (by omega) (by omega) ?_
        refine ev_ior de_Tu_stay_81 ?_
        refine ev_top (congrArg Sum.inl (show _ = ((sp_set (sp_wantsI f) (k + 1) : Nat) : Int) from by show ab_ior ((sp_set (sp_wantsI f) k : Nat) : Int) (1 * 2 ^ k) = _; rw [ab_ior_pow hlt (by omega)]; simp only [sp_set]; rw [if_neg h74])) ?_
        refine ev_istore_n (l' := [_, _, _, _]) de_Tu_stay_82 rfl (Nat.le_of_ble_eq_true rfl) rfl ?_
        refine ev_iinc (l' := [_, _, _, _]) de_Tu_stay_83 rfl rfl ?_
        refine ev_goto (tgt := 55) de_Tu_stay_86 (by decide) ?_
        refine ev_loc (l2 := [some (ab_R 0), some (ab_I y1), some (ab_I ((sp_set (sp_wantsI f) (k + 1) : Nat) : Int)), some (ab_I ((k + 1 : Nat) : Int))]) (by first | (rw [eS]; rfl) | rfl) ?_
        exact ih (k + 1) (by omega) (by omega)
set_option maxHeartbeats 4000000 in
set_option maxRecDepth 10000 in
theorem co_Tu_stay {a b : Nat} {rc : Int} {f : Int → Int} {x B : Int} {w : ab_W} (hI : sg_ok B f) (t0 : tu_at a b rc w) (hR : ri_at_j a f x w) (y1 : Int) (hy1 : ab_in y1) : ab_Mt g_G g_rs mt_Tu_stay 4 0 0 [ab_R 0, ab_I y1] w (ab_is (some (ab_I (if f 0 = 1 ∧ 0 ≤ y1 ∧ y1 ≤ 1 then sp_stay f y1 else -1))) w) := by
  have ht0 := t0
  have hR0 := hR
  have hI0 := hI
  unfold tu_at at t0
  obtain ⟨sl, fs, vo, li, ra, wo, dh, da, hzz⟩ := hR
  obtain ⟨ds, dn, vw, q0, q1, q2, q3, q4, hzz⟩ := hzz
  obtain ⟨q5, q6, q7, q8, q9, q10, q11, q12, hzz⟩ := hzz
  obtain ⟨e1, e2, e3, e4, e5, e6, e7, e8, e9⟩ := hzz
  obtain ⟨i0, i1, i2, i3, i4, i5, i6, i7, hzz⟩ := sg_all hI
  obtain ⟨i8, i9, i10, i11, i12, i13, i14, i15, hzz⟩ := hzz
  obtain ⟨i16, i17⟩ := hzz
  refine ab_Mt.of rfl (Nat.le_of_ble_eq_true rfl) ?_
  show ab_Ev g_G g_rs mt_Tu_stay _ _ _ 0 [some (ab_R 0), some (ab_I y1), none, none] [] _ _
  refine ev_aload_n de_Tu_stay_0 rfl rfl ?_
  refine ev_getfield de_Tu_stay_1 t0 fl_Tu_19 rfl ?_
  refine ev_getfield de_Tu_stay_4 q0 fl_Tu_152 rfl ?_
  refine ev_if_eq (tgt := 19) de_Tu_stay_7 (by decide) (by first | omega | assumption) (fun h7 => ?_) (fun h7 => ?_)
  · skip
    refine ev_iconst de_Tu_stay_19 ?_
    exact ev_ireturn de_Tu_stay_20 rfl ⟨congrArg (fun z => some (ab_I z)) (by (repeat' split) <;> omega), rfl⟩
  · skip
    refine ev_iload_n de_Tu_stay_10 rfl rfl ?_
    refine ev_if_lt (tgt := 19) de_Tu_stay_11 (by decide) (by first | omega | assumption) (fun h11 => ?_) (fun h11 => ?_)
    · skip
      refine ev_iconst de_Tu_stay_19 ?_
      exact ev_ireturn de_Tu_stay_20 rfl ⟨congrArg (fun z => some (ab_I z)) (by (repeat' split) <;> omega), rfl⟩
    · skip
      refine ev_iload_n de_Tu_stay_14 rfl rfl ?_
      refine ev_iconst de_Tu_stay_15 ?_
      refine ev_icmp_le (tgt := 21) de_Tu_stay_16 (by decide) (by first | omega | assumption) (by first | omega | assumption) (fun h16 => ?_) (fun h16 => ?_)
      · skip
        have hg : f 0 = 1 ∧ 0 ≤ y1 ∧ y1 ≤ 1 := by omega
        rw [if_pos hg]
        have qv1 := sp_votesOf_b hI0 (sp_whoStay f)
        have qv2 := sp_votesOf_b hI0 (sp_every f)
        have esv := cs_sv_eq f
        rw [← esv] at qv1
        refine ev_iload_n de_Tu_stay_21 rfl rfl ?_
        refine ev_iconst de_Tu_stay_22 ?_
        refine ev_icmp_ne (tgt := 51) de_Tu_stay_23 (by decide) (by first | omega | assumption) (by first | omega | assumption) (fun h23 => ?_) (fun h23 => ?_)
        · skip
          refine ev_iconst de_Tu_stay_51 ?_
          refine ev_istore_n (l' := [_, _, _, _]) de_Tu_stay_52 rfl (Nat.le_of_ble_eq_true rfl) rfl ?_
          refine ev_iconst de_Tu_stay_53 ?_
          refine ev_istore_n (l' := [_, _, _, _]) de_Tu_stay_54 rfl (Nat.le_of_ble_eq_true rfl) rfl ?_
          have ez : sp_stay f y1 = ((sp_whoStay f : Nat) : Int) := if_pos (by omega)
          rw [ez]
          exact lo_Tu_stay hI0 ht0 hR0 y1 9 0 (by omega) (by omega)
        · skip
          refine ev_iconst de_Tu_stay_26 ?_
          refine ev_aload_n de_Tu_stay_27 rfl rfl ?_
          refine ev_getfield de_Tu_stay_28 t0 fl_Tu_19 rfl ?_
          refine ev_vv (ci := 5) de_Tu_stay_31 (co_Ri_stayVotes_j hI0 hR0) kb_Tu_267 ⟨im_Ri_stayVotes, se_Ri_stayVotes⟩ rfl q0 rfl (Nat.le_of_ble_eq_true rfl) (by decide) rfl ?_
          refine ev_imul de_Tu_stay_34 ?_
          refine ev_aload_n de_Tu_stay_35 rfl rfl ?_
          refine ev_getfield de_Tu_stay_36 t0 fl_Tu_19 rfl ?_
          refine ev_vv (ci := 5) de_Tu_stay_39 (co_Ri_allVotes_j hI0 hR0) kb_Tu_204 ⟨im_Ri_allVotes, se_Ri_allVotes⟩ rfl q0 rfl (Nat.le_of_ble_eq_true rfl) (by decide) rfl ?_
          refine ev_icmp_le (tgt := 49) de_Tu_stay_42 (by decide) (by first | (show ab_in (2 * cs_sv f (f 1).toNat); omega) | (show ab_in (sp_votesOf f (sp_every f)); omega) | omega) (by first | (show ab_in (2 * cs_sv f (f 1).toNat); omega) | (show ab_in (sp_votesOf f (sp_every f)); omega) | omega) (fun h42 => ?_) (fun h42 => ?_)
          · skip
            have h42 : 2 * cs_sv f (f 1).toNat ≤ sp_votesOf f (sp_every f) := h42
            refine ev_iconst de_Tu_stay_49 ?_
            exact ev_ireturn de_Tu_stay_50 rfl ⟨congrArg (fun z => some (ab_I z)) (by unfold sp_stay; rw [if_neg (by omega), ← esv]; first | (rw [if_pos (by omega)]; done) | (rw [if_neg (by omega)]; done)), rfl⟩
          · skip
            have h42 : ¬ 2 * cs_sv f (f 1).toNat ≤ sp_votesOf f (sp_every f) := h42
            refine ev_iconst de_Tu_stay_45 ?_
            refine ev_goto (tgt := 50) de_Tu_stay_46 (by decide) ?_
            exact ev_ireturn de_Tu_stay_50 rfl ⟨congrArg (fun z => some (ab_I z)) (by unfold sp_stay; rw [if_neg (by omega), ← esv]; first | (rw [if_pos (by omega)]; done) | (rw [if_neg (by omega)]; done)), rfl⟩
      · skip
        refine ev_iconst de_Tu_stay_19 ?_
        exact ev_ireturn de_Tu_stay_20 rfl ⟨congrArg (fun z => some (ab_I z)) (by (repeat' split) <;> omega), rfl⟩