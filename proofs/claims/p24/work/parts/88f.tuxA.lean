/-! who stays, whose VOTES swing, how to spare: exactly -/
def cs_sd (n t w : Int) : Int := if 0 < (if t - 2 * (n - w) < 2 then t - 2 * (n - w) else 2) then (if t - 2 * (n - w) < 2 then t - 2 * (n - w) else 2) else 0
def cs_spare (f : Int → Int) (n t w : Int) : Int := if 2 * n < t ∨ n < w then -2 else if w = 0 then cs_mw f t 12 else cs_sd n t w
theorem de_Tu_spare_0 : decode prog_1_method_29_code 0 = .ok (.aload_n 0, 1) := by decide +kernel
theorem de_Tu_spare_1 : decode prog_1_method_29_code 1 = .ok (.getfield 19, 3) := by decide +kernel
theorem de_Tu_spare_4 : decode prog_1_method_29_code 4 = .ok (.getfield 152, 3) := by decide +kernel
theorem de_Tu_spare_7 : decode prog_1_method_29_code 7 = .ok (.ifCond .eq 32, 3) := by decide +kernel
theorem de_Tu_spare_10 : decode prog_1_method_29_code 10 = .ok (.iload_n 1, 1) := by decide +kernel
theorem de_Tu_spare_11 : decode prog_1_method_29_code 11 = .ok (.iconst 1, 1) := by decide +kernel
theorem de_Tu_spare_12 : decode prog_1_method_29_code 12 = .ok (.if_icmp .lt 27, 3) := by decide +kernel
theorem de_Tu_spare_15 : decode prog_1_method_29_code 15 = .ok (.iload_n 1, 1) := by decide +kernel
theorem de_Tu_spare_16 : decode prog_1_method_29_code 16 = .ok (.iconst 5, 1) := by decide +kernel
theorem de_Tu_spare_17 : decode prog_1_method_29_code 17 = .ok (.if_icmp .gt 22, 3) := by decide +kernel
theorem de_Tu_spare_20 : decode prog_1_method_29_code 20 = .ok (.iload_n 2, 1) := by decide +kernel
theorem de_Tu_spare_21 : decode prog_1_method_29_code 21 = .ok (.ifCond .lt 18, 3) := by decide +kernel
theorem de_Tu_spare_24 : decode prog_1_method_29_code 24 = .ok (.iload_n 2, 1) := by decide +kernel
theorem de_Tu_spare_25 : decode prog_1_method_29_code 25 = .ok (.bipush 10, 2) := by decide +kernel
theorem de_Tu_spare_27 : decode prog_1_method_29_code 27 = .ok (.if_icmp .gt 12, 3) := by decide +kernel
theorem de_Tu_spare_30 : decode prog_1_method_29_code 30 = .ok (.iload_n 3, 1) := by decide +kernel
theorem de_Tu_spare_31 : decode prog_1_method_29_code 31 = .ok (.ifCond .lt 8, 3) := by decide +kernel
theorem de_Tu_spare_34 : decode prog_1_method_29_code 34 = .ok (.iload_n 3, 1) := by decide +kernel
theorem de_Tu_spare_35 : decode prog_1_method_29_code 35 = .ok (.iconst 5, 1) := by decide +kernel
theorem de_Tu_spare_36 : decode prog_1_method_29_code 36 = .ok (.if_icmp .le 5, 3) := by decide +kernel
theorem de_Tu_spare_39 : decode prog_1_method_29_code 39 = .ok (.iconst (-1), 1) := by decide +kernel
theorem de_Tu_spare_40 : decode prog_1_method_29_code 40 = .ok (.ireturn, 1) := by decide +kernel
theorem de_Tu_spare_41 : decode prog_1_method_29_code 41 = .ok (.iload_n 2, 1) := by decide +kernel
theorem de_Tu_spare_42 : decode prog_1_method_29_code 42 = .ok (.iconst 2, 1) := by decide +kernel
theorem de_Tu_spare_43 : decode prog_1_method_29_code 43 = .ok (.iload_n 1, 1) := by decide +kernel
theorem de_Tu_spare_44 : decode prog_1_method_29_code 44 = .ok (.imul, 1) := by decide +kernel
theorem de_Tu_spare_45 : decode prog_1_method_29_code 45 = .ok (.if_icmp .gt 8, 3) := by decide +kernel
theorem de_Tu_spare_48 : decode prog_1_method_29_code 48 = .ok (.iload_n 3, 1) := by decide +kernel
theorem de_Tu_spare_49 : decode prog_1_method_29_code 49 = .ok (.iload_n 1, 1) := by decide +kernel
theorem de_Tu_spare_50 : decode prog_1_method_29_code 50 = .ok (.if_icmp .le 6, 3) := by decide +kernel
theorem de_Tu_spare_53 : decode prog_1_method_29_code 53 = .ok (.bipush (-2), 2) := by decide +kernel
theorem de_Tu_spare_55 : decode prog_1_method_29_code 55 = .ok (.ireturn, 1) := by decide +kernel
theorem de_Tu_spare_56 : decode prog_1_method_29_code 56 = .ok (.iload_n 3, 1) := by decide +kernel
theorem de_Tu_spare_57 : decode prog_1_method_29_code 57 = .ok (.ifCond .ne 14, 3) := by decide +kernel
theorem de_Tu_spare_60 : decode prog_1_method_29_code 60 = .ok (.aload_n 0, 1) := by decide +kernel
theorem de_Tu_spare_61 : decode prog_1_method_29_code 61 = .ok (.getfield 19, 3) := by decide +kernel
theorem de_Tu_spare_64 : decode prog_1_method_29_code 64 = .ok (.iload_n 2, 1) := by decide +kernel
theorem de_Tu_spare_65 : decode prog_1_method_29_code 65 = .ok (.invokevirtual 296, 3) := by decide +kernel
theorem de_Tu_spare_68 : decode prog_1_method_29_code 68 = .ok (.goto 18, 3) := by decide +kernel
theorem de_Tu_spare_71 : decode prog_1_method_29_code 71 = .ok (.iconst 0, 1) := by decide +kernel
theorem de_Tu_spare_72 : decode prog_1_method_29_code 72 = .ok (.iconst 2, 1) := by decide +kernel
theorem de_Tu_spare_73 : decode prog_1_method_29_code 73 = .ok (.iload_n 2, 1) := by decide +kernel
theorem de_Tu_spare_74 : decode prog_1_method_29_code 74 = .ok (.iconst 2, 1) := by decide +kernel
theorem de_Tu_spare_75 : decode prog_1_method_29_code 75 = .ok (.iload_n 1, 1) := by decide +kernel
theorem de_Tu_spare_76 : decode prog_1_method_29_code 76 = .ok (.iload_n 3, 1) := by decide +kernel
theorem de_Tu_spare_77 : decode prog_1_method_29_code 77 = .ok (.isub, 1) := by decide +kernel
theorem de_Tu_spare_78 : decode prog_1_method_29_code 78 = .ok (.imul, 1) := by decide +kernel
theorem de_Tu_spare_79 : decode prog_1_method_29_code 79 = .ok (.isub, 1) := by decide +kernel
theorem de_Tu_spare_80 : decode prog_1_method_29_code 80 = .ok (.invokestatic 264, 3) := by decide +kernel
theorem de_Tu_spare_83 : decode prog_1_method_29_code 83 = .ok (.invokestatic 299, 3) := by decide +kernel
theorem de_Tu_spare_86 : decode prog_1_method_29_code 86 = .ok (.ireturn, 1) := by decide +kernel
set_option maxHeartbeats 4000000 in
set_option maxRecDepth 10000 in
theorem co_Tu_spare {a b : Nat} {rc : Int} {f : Int → Int} {x B : Int} {w : ab_W} (hI : sg_ok B f) (t0 : tu_at a b rc w) (hR : ri_at_j a f x w) (y1 : Int) (hy1 : ab_in y1) (y2 : Int) (hy2 : ab_in y2) (y3 : Int) (hy3 : ab_in y3) : ab_Mt g_G g_rs mt_Tu_spare 2 0 0 [ab_R 0, ab_I y1, ab_I y2, ab_I y3] w (ab_is (some (ab_I (if f 0 = 1 ∧ (1 ≤ y1 ∧ y1 ≤ 5) ∧ (0 ≤ y2 ∧ y2 ≤ 10) ∧ 0 ≤ y3 ∧ y3 ≤ 5 then cs_spare f y1 y2 y3 else -1))) w) := by
  have ht0 := t0
  have hR0 := hR
  have hI0 := hI
  unfold tu_at at t0
  obtain ⟨sl, fs, vo, li, ra, wo, dh, da, hzz⟩ := hR
  obtain ⟨ds, dn, vw, q0, q1, q2, q3, q4, hzz⟩ := hzz
  obtain ⟨q5, q6, q7, q8, q9, q10, q11, q12, hzz⟩ := hzz
  obtain ⟨e1, e2, e3, e4, e5, e6, e7, e8, e9⟩ := hzz
  obtain ⟨i0, i1, i2, i3, i4, i5, i6, i7, hzz⟩ := sg_all hI
  obtain ⟨i8, i9, i10, i11, i12, i13, i14, i15, hzz⟩ := hzz
  obtain ⟨i16, i17⟩ := hzz
  refine ab_Mt.of rfl (Nat.le_of_ble_eq_true rfl) ?_
  show ab_Ev g_G g_rs mt_Tu_spare _ _ _ 0 [some (ab_R 0), some (ab_I y1), some (ab_I y2), some (ab_I y3)] [] _ _
  refine ev_aload_n de_Tu_spare_0 rfl rfl ?_
  refine ev_getfield de_Tu_spare_1 t0 fl_Tu_19 rfl ?_
  refine ev_getfield de_Tu_spare_4 q0 fl_Tu_152 rfl ?_
  refine ev_if_eq (tgt := 39) de_Tu_spare_7 (by decide) (by first | omega | assumption) (fun h7 => ?_) (fun h7 => ?_)
  · skip
    refine ev_iconst de_Tu_spare_39 ?_
    exact ev_ireturn de_Tu_spare_40 rfl ⟨congrArg (fun z => some (ab_I z)) (by (repeat' split) <;> omega), rfl⟩
  · skip
    refine ev_iload_n de_Tu_spare_10 rfl rfl ?_
    refine ev_iconst de_Tu_spare_11 ?_
    refine ev_icmp_lt (tgt := 39) de_Tu_spare_12 (by decide) (by first | omega | assumption) (by first | omega | assumption) (fun h12 => ?_) (fun h12 => ?_)
    · skip
      refine ev_iconst de_Tu_spare_39 ?_
      exact ev_ireturn de_Tu_spare_40 rfl ⟨congrArg (fun z => some (ab_I z)) (by (repeat' split) <;> omega), rfl⟩
    · skip
      refine ev_iload_n de_Tu_spare_15 rfl rfl ?_
      refine ev_iconst de_Tu_spare_16 ?_
      refine ev_icmp_gt (tgt := 39) de_Tu_spare_17 (by decide) (by first | omega | assumption) (by first | omega | assumption) (fun h17 => ?_) (fun h17 => ?_)
      · skip
        refine ev_iconst de_Tu_spare_39 ?_
        exact ev_ireturn de_Tu_spare_40 rfl ⟨congrArg (fun z => some (ab_I z)) (by (repeat' split) <;> omega), rfl⟩
      · skip
        refine ev_iload_n de_Tu_spare_20 rfl rfl ?_
        refine ev_if_lt (tgt := 39) de_Tu_spare_21 (by decide) (by first | omega | assumption) (fun h21 => ?_) (fun h21 => ?_)
        · skip
          refine ev_iconst de_Tu_spare_39 ?_
          exact ev_ireturn de_Tu_spare_40 rfl ⟨congrArg (fun z => some (ab_I z)) (by (repeat' split) <;> omega), rfl⟩
        · skip
          refine ev_iload_n de_Tu_spare_24 rfl rfl ?_
          refine ev_bipush de_Tu_spare_25 rfl ?_
          refine ev_icmp_gt (tgt := 39) de_Tu_spare_27 (by decide) (by first | omega | assumption) (by first | omega | assumption) (fun h27 => ?_) (fun h27 => ?_)
          · skip
            refine ev_iconst de_Tu_spare_39 ?_
            exact ev_ireturn de_Tu_spare_40 rfl ⟨congrArg (fun z => some (ab_I z)) (by (repeat' split) <;> omega), rfl⟩
          · skip
            refine ev_iload_n de_Tu_spare_30 rfl rfl ?_
            refine ev_if_lt (tgt := 39) de_Tu_spare_31 (by decide) (by first | omega | assumption) (fun h31 => ?_) (fun h31 => ?_)
            · skip
              refine ev_iconst de_Tu_spare_39 ?_
              exact ev_ireturn de_Tu_spare_40 rfl ⟨congrArg (fun z => some (ab_I z)) (by (repeat' split) <;> omega), rfl⟩
            · skip
              refine ev_iload_n de_Tu_spare_34 rfl rfl ?_
              refine ev_iconst de_Tu_spare_35 ?_
              refine ev_icmp_le (tgt := 41) de_Tu_spare_36 (by decide) (by first | omega | assumption) (by first | omega | assumption) (fun h36 => ?_) (fun h36 => ?_)
              · skip
                have hg : f 0 = 1 ∧ (1 ≤ y1 ∧ y1 ≤ 5) ∧ (0 ≤ y2 ∧ y2 ≤ 10) ∧ 0 ≤ y3 ∧ y3 ≤ 5 := by omega
                rw [if_pos hg]
                refine ev_iload_n de_Tu_spare_41 rfl rfl ?_
                refine ev_iconst de_Tu_spare_42 ?_
                refine ev_iload_n de_Tu_spare_43 rfl rfl ?_
                refine ev_imul de_Tu_spare_44 ?_
                refine ev_icmp_gt (tgt := 53) de_Tu_spare_45 (by decide) (by first | omega | assumption) (by first | omega | assumption) (fun h45 => ?_) (fun h45 => ?_)
                · skip
                  refine ev_bipush de_Tu_spare_53 rfl ?_
                  exact ev_ireturn de_Tu_spare_55 rfl ⟨congrArg (fun z => some (ab_I z)) (by unfold cs_spare; rw [if_pos (by omega)]), rfl⟩
                · skip
                  refine ev_iload_n de_Tu_spare_48 rfl rfl ?_
                  refine ev_iload_n de_Tu_spare_49 rfl rfl ?_
                  refine ev_icmp_le (tgt := 56) de_Tu_spare_50 (by decide) (by first | omega | assumption) (by first | omega | assumption) (fun h50 => ?_) (fun h50 => ?_)
                  · skip
                    refine ev_iload_n de_Tu_spare_56 rfl rfl ?_
                    refine ev_if_ne (tgt := 71) de_Tu_spare_57 (by decide) (by first | omega | assumption) (fun h57 => ?_) (fun h57 => ?_)
                    · skip
                      refine ev_iconst de_Tu_spare_71 ?_
                      refine ev_iconst de_Tu_spare_72 ?_
                      refine ev_iload_n de_Tu_spare_73 rfl rfl ?_
                      refine ev_iconst de_Tu_spare_74 ?_
                      refine ev_iload_n de_Tu_spare_75 rfl rfl ?_
                      refine ev_iload_n de_Tu_spare_76 rfl rfl ?_
                      refine ev_isub de_Tu_spare_77 ?_
                      refine ev_imul de_Tu_spare_78 ?_
                      refine ev_isub de_Tu_spare_79 ?_
                      refine ev_mmin (by first | omega | decide) (by first | omega | decide) de_Tu_spare_80 mk_Tu_264 (Nat.le_of_ble_eq_true rfl) (by decide) ?_
                      refine ev_mmax (by first | omega | decide | (split <;> omega)) (by first | omega | decide | (split <;> omega)) de_Tu_spare_83 mk_Tu_299 (Nat.le_of_ble_eq_true rfl) (by decide) ?_
                      exact ev_ireturn de_Tu_spare_86 rfl ⟨congrArg (fun z => some (ab_I z)) (by unfold cs_spare; rw [if_neg (show ¬ (2 * y1 < y2 ∨ y1 < y3) by omega)]; first | (rw [if_pos (show y3 = 0 by omega)]; done) | (rw [if_neg (show ¬ y3 = 0 by omega)]; rfl)), rfl⟩
                    · skip
                      refine ev_aload_n de_Tu_spare_60 rfl rfl ?_
                      refine ev_getfield de_Tu_spare_61 t0 fl_Tu_19 rfl ?_
                      refine ev_iload_n de_Tu_spare_64 rfl rfl ?_
                      refine ev_vv (ci := 5) de_Tu_spare_65 (co_Ri_mostWornBehind_j hI0 hR0 _ (by assumption)) kb_Tu_296 ⟨im_Ri_mostWornBehind, se_Ri_mostWornBehind⟩ rfl q0 rfl (Nat.le_of_ble_eq_true rfl) (by decide) rfl ?_
                      refine ev_goto (tgt := 86) de_Tu_spare_68 (by decide) ?_
                      exact ev_ireturn de_Tu_spare_86 rfl ⟨congrArg (fun z => some (ab_I z)) (by unfold cs_spare; rw [if_neg (show ¬ (2 * y1 < y2 ∨ y1 < y3) by omega)]; first | (rw [if_pos (show y3 = 0 by omega)]; done) | (rw [if_neg (show ¬ y3 = 0 by omega)]; rfl)), rfl⟩
                  · skip
                    refine ev_bipush de_Tu_spare_53 rfl ?_
                    exact ev_ireturn de_Tu_spare_55 rfl ⟨congrArg (fun z => some (ab_I z)) (by unfold cs_spare; rw [if_pos (by omega)]), rfl⟩
              · skip
                refine ev_iconst de_Tu_spare_39 ?_
                exact ev_ireturn de_Tu_spare_40 rfl ⟨congrArg (fun z => some (ab_I z)) (by (repeat' split) <;> omega), rfl⟩
