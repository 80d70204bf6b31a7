section MO
variable {tape : Int → Int} {taped : Int} {rules : Int} {sign : Int → Int} {leng : Int → Int} {clause : Int → Int} {clauses : Int → Int} {read : Int → Int} {next : Int} {wrong : Int} {number : Int} {text : Int} {made : Int} {deep : Int} {lines : Int} {opn : Int → Int} {opened : Int} {stack : Int → Int64} {top : Int} {word : Int → Int64} {said : Int → Int} {xx : Int} {was : Int → Int} {undone : Int} {kept : Int → Int} {sumOf : Int → Int} {faced : Int → Int} {slotAt : Int → Int} {dayAt : Int → Int} {row : Int → Int} {bestRow : Int → Int} {tMany : Int} {tMost : Int} {drawX : Int64} {images : Int → Int} {imageX : Int → Int} {isMade : Int → Int}
theorem de_Mo_apart_0 : decode prog_14_method_105_code 0 = .ok (.aload_n 0, 1) := by decide +kernel
theorem de_Mo_apart_1 : decode prog_14_method_105_code 1 = .ok (.iload_n 1, 1) := by decide +kernel
theorem de_Mo_apart_2 : decode prog_14_method_105_code 2 = .ok (.invokevirtual 380, 3) := by decide +kernel
theorem de_Mo_apart_5 : decode prog_14_method_105_code 5 = .ok (.ifCond .eq 45, 3) := by decide +kernel
theorem de_Mo_apart_8 : decode prog_14_method_105_code 8 = .ok (.aload_n 0, 1) := by decide +kernel
theorem de_Mo_apart_9 : decode prog_14_method_105_code 9 = .ok (.iload_n 2, 1) := by decide +kernel
theorem de_Mo_apart_10 : decode prog_14_method_105_code 10 = .ok (.invokevirtual 380, 3) := by decide +kernel
theorem de_Mo_apart_13 : decode prog_14_method_105_code 13 = .ok (.ifCond .eq 37, 3) := by decide +kernel
theorem de_Mo_apart_16 : decode prog_14_method_105_code 16 = .ok (.aload_n 0, 1) := by decide +kernel
theorem de_Mo_apart_17 : decode prog_14_method_105_code 17 = .ok (.iload_n 3, 1) := by decide +kernel
theorem de_Mo_apart_18 : decode prog_14_method_105_code 18 = .ok (.invokevirtual 316, 3) := by decide +kernel
theorem de_Mo_apart_21 : decode prog_14_method_105_code 21 = .ok (.ifCond .eq 29, 3) := by decide +kernel
theorem de_Mo_apart_24 : decode prog_14_method_105_code 24 = .ok (.iload 4, 2) := by decide +kernel
theorem de_Mo_apart_26 : decode prog_14_method_105_code 26 = .ok (.i2l, 1) := by decide +kernel
theorem de_Mo_apart_27 : decode prog_14_method_105_code 27 = .ok (.lconst 0, 1) := by decide +kernel
theorem de_Mo_apart_28 : decode prog_14_method_105_code 28 = .ok (.ldc2_w 448, 3) := by decide +kernel
theorem de_Mo_apart_31 : decode prog_14_method_105_code 31 = .ok (.invokestatic 115, 3) := by decide +kernel
theorem de_Mo_apart_34 : decode prog_14_method_105_code 34 = .ok (.ifCond .eq 16, 3) := by decide +kernel
theorem de_Mo_apart_37 : decode prog_14_method_105_code 37 = .ok (.iload 5, 2) := by decide +kernel
theorem de_Mo_apart_39 : decode prog_14_method_105_code 39 = .ok (.i2l, 1) := by decide +kernel
theorem de_Mo_apart_40 : decode prog_14_method_105_code 40 = .ok (.lconst 1, 1) := by decide +kernel
theorem de_Mo_apart_41 : decode prog_14_method_105_code 41 = .ok (.ldc2_w 450, 3) := by decide +kernel
theorem de_Mo_apart_44 : decode prog_14_method_105_code 44 = .ok (.invokestatic 115, 3) := by decide +kernel
theorem de_Mo_apart_47 : decode prog_14_method_105_code 47 = .ok (.ifCond .ne 7, 3) := by decide +kernel
theorem de_Mo_apart_50 : decode prog_14_method_105_code 50 = .ok (.ldc_w 399, 3) := by decide +kernel
theorem de_Mo_apart_53 : decode prog_14_method_105_code 53 = .ok (.ireturn, 1) := by decide +kernel
theorem de_Mo_apart_54 : decode prog_14_method_105_code 54 = .ok (.aload_n 0, 1) := by decide +kernel
theorem de_Mo_apart_55 : decode prog_14_method_105_code 55 = .ok (.iload_n 1, 1) := by decide +kernel
theorem de_Mo_apart_56 : decode prog_14_method_105_code 56 = .ok (.iload_n 3, 1) := by decide +kernel
theorem de_Mo_apart_57 : decode prog_14_method_105_code 57 = .ok (.iload 4, 2) := by decide +kernel
theorem de_Mo_apart_59 : decode prog_14_method_105_code 59 = .ok (.iload 5, 2) := by decide +kernel
theorem de_Mo_apart_61 : decode prog_14_method_105_code 61 = .ok (.invokevirtual 452, 3) := by decide +kernel
theorem de_Mo_apart_64 : decode prog_14_method_105_code 64 = .ok (.aload_n 0, 1) := by decide +kernel
theorem de_Mo_apart_65 : decode prog_14_method_105_code 65 = .ok (.iload_n 2, 1) := by decide +kernel
theorem de_Mo_apart_66 : decode prog_14_method_105_code 66 = .ok (.iload_n 3, 1) := by decide +kernel
theorem de_Mo_apart_67 : decode prog_14_method_105_code 67 = .ok (.iload 4, 2) := by decide +kernel
theorem de_Mo_apart_69 : decode prog_14_method_105_code 69 = .ok (.iload 5, 2) := by decide +kernel
theorem de_Mo_apart_71 : decode prog_14_method_105_code 71 = .ok (.invokevirtual 452, 3) := by decide +kernel
theorem de_Mo_apart_74 : decode prog_14_method_105_code 74 = .ok (.isub, 1) := by decide +kernel
theorem de_Mo_apart_75 : decode prog_14_method_105_code 75 = .ok (.ireturn, 1) := by decide +kernel
set_option maxRecDepth 10000 in
theorem co_Mo_apart {B : Int} (hI : sg_ok B said) (hB : B ≤ 29000) (hru : 0 ≤ rules ∧ rules ≤ 6) (hok : ∀ r, 0 ≤ r → r < rules → sp_rok sign clause r (clauses r)) (a b h0 ss nn : Int) (ha : ab_in a) (hb : ab_in b) (hh : ab_in h0) (hs : ab_in ss) (hn : ab_in nn) : ab_Mt g_G g_rs mt_Mo_apart 8 0 0 [ab_R 0, ab_I a, ab_I b, ab_I h0, ab_I ss, ab_I nn] (mo_W tape taped rules sign leng clause clauses read next wrong number text made deep lines opn opened stack top word said xx was undone kept sumOf faced slotAt dayAt row bestRow tMany tMost drawX images imageX isMade) (fun r w2 => r = some (ab_I (if (0 ≤ a ∧ a < rules) ∧ (0 ≤ b ∧ b < rules) ∧ (0 ≤ h0 ∧ h0 < said 1) ∧ (0 ≤ ss ∧ ss ≤ 4) ∧ 1 ≤ nn ∧ nn ≤ 60 then sp_seen (sp_E sign clause a (clauses a)) said h0 ss nn.toNat - sp_seen (sp_E sign clause b (clauses b)) said h0 ss nn.toNat else -100000)) ∧ ∃ K W S T, w2 = (mo_W tape taped rules sign leng clause clauses read next wrong number text made deep lines opn opened (S) (T) (W) said xx was undone (K) sumOf faced slotAt dayAt row bestRow tMany tMost drawX images imageX isMade)) := by
  refine ab_Mt.of rfl (Nat.le_of_ble_eq_true rfl) ?_
  show ab_Ev g_G g_rs mt_Mo_apart _ _ _ 0 [some (ab_R 0), some (ab_I a), some (ab_I b), some (ab_I h0), some (ab_I ss), some (ab_I nn)] [] _ _
  have hJ := hI; obtain ⟨i0, i1, i2, i3, i4, i5, i6, i7, i8, i9, i10, i11, i12, i13, i14, i15, i16, i17⟩ := sg_all hJ
  refine ev_aload_n de_Mo_apart_0 rfl rfl ?_
  refine ev_iload_n de_Mo_apart_1 rfl rfl ?_
  refine ev_vv (ci := 11) de_Mo_apart_2 (co_Mo_isRule hru a ha) kb_Mo_380 ⟨im_Mo_isRule, se_Mo_isRule⟩ rfl rfl rfl (Nat.le_of_ble_eq_true rfl) (by decide) rfl ?_
  refine ev_if_eq (tgt := 50) de_Mo_apart_5 (by decide) (by split <;> decide) (fun h5 => ?_) (fun h5 => ?_)
  · skip
    have n5 : ¬ (0 ≤ a ∧ a < rules) := fun z => by rw [if_pos z] at h5; omega
    rw [if_neg (by omega)]
    refine ev_ldcw (n := -100000) de_Mo_apart_50 cn_Mo_399 rfl ?_
    exact ev_ireturn de_Mo_apart_53 rfl ⟨rfl, _, _, _, _, rfl⟩
  · skip
    have n5 : 0 ≤ a ∧ a < rules := Decidable.byContradiction (fun z => by rw [if_neg z] at h5; omega)
    refine ev_aload_n de_Mo_apart_8 rfl rfl ?_
    refine ev_iload_n de_Mo_apart_9 rfl rfl ?_
    refine ev_vv (ci := 11) de_Mo_apart_10 (co_Mo_isRule hru b hb) kb_Mo_380 ⟨im_Mo_isRule, se_Mo_isRule⟩ rfl rfl rfl (Nat.le_of_ble_eq_true rfl) (by decide) rfl ?_
    refine ev_if_eq (tgt := 50) de_Mo_apart_13 (by decide) (by split <;> decide) (fun h13 => ?_) (fun h13 => ?_)
    · skip
      have n13 : ¬ (0 ≤ b ∧ b < rules) := fun z => by rw [if_pos z] at h13; omega
      rw [if_neg (by omega)]
      refine ev_ldcw (n := -100000) de_Mo_apart_50 cn_Mo_399 rfl ?_
      exact ev_ireturn de_Mo_apart_53 rfl ⟨rfl, _, _, _, _, rfl⟩
    · skip
      have n13 : 0 ≤ b ∧ b < rules := Decidable.byContradiction (fun z => by rw [if_neg z] at h13; omega)
      refine ev_aload_n de_Mo_apart_16 rfl rfl ?_
      refine ev_iload_n de_Mo_apart_17 rfl rfl ?_
      refine ev_vv (ci := 11) de_Mo_apart_18 (co_Mo_isHouse hI h0 hh) kb_Mo_316 ⟨im_Mo_isHouse, se_Mo_isHouse⟩ rfl rfl rfl (Nat.le_of_ble_eq_true rfl) (by decide) rfl ?_
      refine ev_if_eq (tgt := 50) de_Mo_apart_21 (by decide) (by split <;> decide) (fun h21 => ?_) (fun h21 => ?_)
      · skip
        have n21 : ¬ (0 ≤ h0 ∧ h0 < said 1) := fun z => by rw [if_pos z] at h21; omega
        rw [if_neg (by omega)]
        refine ev_ldcw (n := -100000) de_Mo_apart_50 cn_Mo_399 rfl ?_
        exact ev_ireturn de_Mo_apart_53 rfl ⟨rfl, _, _, _, _, rfl⟩
      · skip
        have n21 : 0 ≤ h0 ∧ h0 < said 1 := Decidable.byContradiction (fun z => by rw [if_neg z] at h21; omega)
        refine ev_iload de_Mo_apart_24 rfl ?_
        refine ev_i2l de_Mo_apart_26 (by omega) ?_
        refine ev_lconsti (n := 0) de_Mo_apart_27 (by decide) ?_
        refine ev_ldc2i (n := 4) de_Mo_apart_28 cn_Mo_448 (by decide) ?_
        refine ev_sv de_Mo_apart_31 (co_Mo_in _ ss (0) (4) (by omega) (by decide) (by decide)) kb_Mo_115 sc_Mo_in rfl (Nat.le_of_ble_eq_true rfl) (by decide) rfl ?_
        refine ev_if_eq (tgt := 50) de_Mo_apart_34 (by decide) (by split <;> decide) (fun h34 => ?_) (fun h34 => ?_)
        · skip
          have n34 : ¬ (0 ≤ ss ∧ ss ≤ 4) := fun z => by rw [if_pos z] at h34; omega
          rw [if_neg (by omega)]
          refine ev_ldcw (n := -100000) de_Mo_apart_50 cn_Mo_399 rfl ?_
          exact ev_ireturn de_Mo_apart_53 rfl ⟨rfl, _, _, _, _, rfl⟩
        · skip
          have n34 : 0 ≤ ss ∧ ss ≤ 4 := Decidable.byContradiction (fun z => by rw [if_neg z] at h34; omega)
          refine ev_iload de_Mo_apart_37 rfl ?_
          refine ev_i2l de_Mo_apart_39 (by omega) ?_
          refine ev_lconsti (n := 1) de_Mo_apart_40 (by decide) ?_
          refine ev_ldc2i (n := 60) de_Mo_apart_41 cn_Mo_450 (by decide) ?_
          refine ev_sv de_Mo_apart_44 (co_Mo_in _ nn (1) (60) (by omega) (by decide) (by decide)) kb_Mo_115 sc_Mo_in rfl (Nat.le_of_ble_eq_true rfl) (by decide) rfl ?_
          refine ev_if_ne (tgt := 54) de_Mo_apart_47 (by decide) (by split <;> decide) (fun h47 => ?_) (fun h47 => ?_)
          · skip
            have n47 : 1 ≤ nn ∧ nn ≤ 60 := Decidable.byContradiction (fun z => by rw [if_neg z] at h47; omega)
            rw [if_pos (by omega)]
            obtain ⟨m, rfl⟩ := Int.eq_ofNat_of_zero_le (show 0 ≤ nn by omega)
            refine ev_aload_n de_Mo_apart_54 rfl rfl ?_
            refine ev_iload_n de_Mo_apart_55 rfl rfl ?_
            refine ev_iload_n de_Mo_apart_56 rfl rfl ?_
            refine ev_iload de_Mo_apart_57 rfl ?_
            refine ev_iload de_Mo_apart_59 rfl ?_
            refine ev_virtual (ci := 11) (mc := 0) (ms := 0) (bc := 0) (bs := 0) de_Mo_apart_61 (co_Mo_seenBy hI hB a (by omega) (by omega) (hok a (by omega) (by omega)) h0 ss (by omega) (by omega) (by omega) (by omega) m (by omega)) kb_Mo_452 ⟨im_Mo_seenBy, se_Mo_seenBy⟩ rfl rfl rfl (Nat.le_of_ble_eq_true rfl) (by decide) (Or.inl (fun _ _ h => by obtain ⟨-, W1, S1, T1, e⟩ := h; rw [e]; first | exact mo_Wn.trans mo_Wn.symm | rfl)) (fun r1 w1 hm1 => ?_)
            obtain ⟨rfl, W1, S1, T1, rfl⟩ := hm1
            refine ev_aload_n de_Mo_apart_64 rfl rfl ?_
            refine ev_iload_n de_Mo_apart_65 rfl rfl ?_
            refine ev_iload_n de_Mo_apart_66 rfl rfl ?_
            refine ev_iload de_Mo_apart_67 rfl ?_
            refine ev_iload de_Mo_apart_69 rfl ?_
            refine ev_virtual (ci := 11) (mc := 0) (ms := 0) (bc := 0) (bs := 0) de_Mo_apart_71 (co_Mo_seenBy hI hB b (by omega) (by omega) (hok b (by omega) (by omega)) h0 ss (by omega) (by omega) (by omega) (by omega) m (by omega)) kb_Mo_452 ⟨im_Mo_seenBy, se_Mo_seenBy⟩ rfl rfl rfl (Nat.le_of_ble_eq_true rfl) (by decide) (Or.inl (fun _ _ h => by obtain ⟨-, W2, S2, T2, e⟩ := h; rw [e]; first | exact mo_Wn.trans mo_Wn.symm | rfl)) (fun r1 w1 hm1 => ?_)
            obtain ⟨rfl, W2, S2, T2, rfl⟩ := hm1
            refine ev_isub de_Mo_apart_74 ?_
            exact ev_ireturn de_Mo_apart_75 rfl ⟨rfl, _, _, _, _, rfl⟩
          · skip
            have n47 : ¬ (1 ≤ nn ∧ nn ≤ 60) := fun z => by rw [if_pos z] at h47; omega
            rw [if_neg (by omega)]
            refine ev_ldcw (n := -100000) de_Mo_apart_50 cn_Mo_399 rfl ?_
            exact ev_ireturn de_Mo_apart_53 rfl ⟨rfl, _, _, _, _, rfl⟩
theorem de_Mo_draw_0 : decode prog_14_method_112_code 0 = .ok (.aload_n 0, 1) := by decide +kernel
theorem de_Mo_draw_1 : decode prog_14_method_112_code 1 = .ok (.aload_n 0, 1) := by decide +kernel
theorem de_Mo_draw_2 : decode prog_14_method_112_code 2 = .ok (.getfield 468, 3) := by decide +kernel
theorem de_Mo_draw_5 : decode prog_14_method_112_code 5 = .ok (.ldc2_w 472, 3) := by decide +kernel
theorem de_Mo_draw_8 : decode prog_14_method_112_code 8 = .ok (.lmul, 1) := by decide +kernel
theorem de_Mo_draw_9 : decode prog_14_method_112_code 9 = .ok (.ldc2_w 474, 3) := by decide +kernel
theorem de_Mo_draw_12 : decode prog_14_method_112_code 12 = .ok (.ladd, 1) := by decide +kernel
theorem de_Mo_draw_13 : decode prog_14_method_112_code 13 = .ok (.ldc2_w 476, 3) := by decide +kernel
theorem de_Mo_draw_16 : decode prog_14_method_112_code 16 = .ok (.lrem, 1) := by decide +kernel
theorem de_Mo_draw_17 : decode prog_14_method_112_code 17 = .ok (.putfield 468, 3) := by decide +kernel
theorem de_Mo_draw_20 : decode prog_14_method_112_code 20 = .ok (.aload_n 0, 1) := by decide +kernel
theorem de_Mo_draw_21 : decode prog_14_method_112_code 21 = .ok (.getfield 468, 3) := by decide +kernel
theorem de_Mo_draw_24 : decode prog_14_method_112_code 24 = .ok (.ldc2_w 478, 3) := by decide +kernel
theorem de_Mo_draw_27 : decode prog_14_method_112_code 27 = .ok (.ldiv, 1) := by decide +kernel
theorem de_Mo_draw_28 : decode prog_14_method_112_code 28 = .ok (.iload_n 1, 1) := by decide +kernel
theorem de_Mo_draw_29 : decode prog_14_method_112_code 29 = .ok (.i2l, 1) := by decide +kernel
theorem de_Mo_draw_30 : decode prog_14_method_112_code 30 = .ok (.lrem, 1) := by decide +kernel
theorem de_Mo_draw_31 : decode prog_14_method_112_code 31 = .ok (.l2i, 1) := by decide +kernel
theorem de_Mo_draw_32 : decode prog_14_method_112_code 32 = .ok (.ireturn, 1) := by decide +kernel
set_option maxRecDepth 10000 in
theorem co_Mo_draw (x0 : Int) (hx0 : 0 ≤ x0) (hx1 : x0 ≤ 2147483647) (hd : drawX = Int64.ofInt x0) : ab_Mt g_G g_rs mt_Mo_draw 0 0 0 [ab_R 0, ab_I 100] (mo_W tape taped rules sign leng clause clauses read next wrong number text made deep lines opn opened stack top word said xx was undone kept sumOf faced slotAt dayAt row bestRow tMany tMost drawX images imageX isMade) (ab_is (some (ab_I (sp_draw x0 / 65536 % 100))) (mo_W tape taped rules sign leng clause clauses read next wrong number text made deep lines opn opened stack top word said xx was undone kept sumOf faced slotAt dayAt row bestRow tMany tMost (Int64.ofInt (sp_draw x0)) images imageX isMade)) := by
  refine ab_Mt.of rfl (Nat.le_of_ble_eq_true rfl) ?_
  show ab_Ev g_G g_rs mt_Mo_draw _ _ _ 0 [some (ab_R 0), some (ab_I 100)] [] _ _
  subst hd
  refine ev_aload_n de_Mo_draw_0 rfl rfl ?_
  refine ev_aload_n de_Mo_draw_1 rfl rfl ?_
  refine ev_getfield de_Mo_draw_2 rfl fl_Mo_468 rfl ?_
  refine ev_ldc2i (n := 1103515245) de_Mo_draw_5 cn_Mo_472 (by decide) ?_
  refine ev_lmul de_Mo_draw_8 ?_
  refine ev_ldc2i (n := 12345) de_Mo_draw_9 cn_Mo_474 (by decide) ?_
  refine ev_ladd de_Mo_draw_12 ?_
  refine ev_ldc2i (n := 2147483648) de_Mo_draw_13 cn_Mo_476 (by decide) ?_
  refine ev_lrem de_Mo_draw_16 (by decide) ?_
  refine ev_top (show _ = ab_J (Int64.ofInt (sp_draw x0)) from congrArg (fun v => Sum.inr (Sum.inl v)) (sp_drawL hx0 hx1)) ?_
  refine ev_putfield de_Mo_draw_17 rfl (fp_Mo_468 _) (Nat.le_of_ble_eq_true rfl) trivial ?_
  refine ev_world (w' := mo_W _ _ _ _ _ _ _ _ _ _ _ _ _ _ _ _ _ _ _ _ _ _ _ _ _ _ _ _ _ _ _ _ _ _ _ _ _) rfl ?_
  refine ev_aload_n de_Mo_draw_20 rfl rfl ?_
  refine ev_getfield de_Mo_draw_21 rfl fl_Mo_468 rfl ?_
  refine ev_ldc2i (n := 65536) de_Mo_draw_24 cn_Mo_478 (by decide) ?_
  refine ev_ldiv de_Mo_draw_27 (by decide) ?_
  refine ev_iload_n de_Mo_draw_28 rfl rfl ?_
  refine ev_i2l de_Mo_draw_29 (by omega) ?_
  refine ev_lrem de_Mo_draw_30 (by decide) ?_
  refine ev_l2i de_Mo_draw_31 ?_
  refine ev_top (congrArg Sum.inl (sp_dr100 (sp_draw_b x0).1 (sp_draw_b x0).2)) ?_
  exact ev_ireturn de_Mo_draw_32 rfl ⟨rfl, rfl⟩
theorem de_Mo_days_0 : decode prog_14_method_113_code 0 = .ok (.aload_n 0, 1) := by decide +kernel
theorem de_Mo_days_1 : decode prog_14_method_113_code 1 = .ok (.invokevirtual 323, 3) := by decide +kernel
theorem de_Mo_days_4 : decode prog_14_method_113_code 4 = .ok (.ifCond .eq 50, 3) := by decide +kernel
theorem de_Mo_days_7 : decode prog_14_method_113_code 7 = .ok (.iload_n 1, 1) := by decide +kernel
theorem de_Mo_days_8 : decode prog_14_method_113_code 8 = .ok (.i2l, 1) := by decide +kernel
theorem de_Mo_days_9 : decode prog_14_method_113_code 9 = .ok (.lconst 1, 1) := by decide +kernel
theorem de_Mo_days_10 : decode prog_14_method_113_code 10 = .ok (.ldc2_w 440, 3) := by decide +kernel
theorem de_Mo_days_13 : decode prog_14_method_113_code 13 = .ok (.invokestatic 115, 3) := by decide +kernel
theorem de_Mo_days_16 : decode prog_14_method_113_code 16 = .ok (.ifCond .eq 38, 3) := by decide +kernel
theorem de_Mo_days_19 : decode prog_14_method_113_code 19 = .ok (.iload_n 2, 1) := by decide +kernel
theorem de_Mo_days_20 : decode prog_14_method_113_code 20 = .ok (.i2l, 1) := by decide +kernel
theorem de_Mo_days_21 : decode prog_14_method_113_code 21 = .ok (.lconst 1, 1) := by decide +kernel
theorem de_Mo_days_22 : decode prog_14_method_113_code 22 = .ok (.ldc2_w 383, 3) := by decide +kernel
theorem de_Mo_days_25 : decode prog_14_method_113_code 25 = .ok (.invokestatic 115, 3) := by decide +kernel
theorem de_Mo_days_28 : decode prog_14_method_113_code 28 = .ok (.ifCond .eq 26, 3) := by decide +kernel
theorem de_Mo_days_31 : decode prog_14_method_113_code 31 = .ok (.iload_n 3, 1) := by decide +kernel
theorem de_Mo_days_32 : decode prog_14_method_113_code 32 = .ok (.i2l, 1) := by decide +kernel
theorem de_Mo_days_33 : decode prog_14_method_113_code 33 = .ok (.lconst 0, 1) := by decide +kernel
theorem de_Mo_days_34 : decode prog_14_method_113_code 34 = .ok (.ldc2_w 319, 3) := by decide +kernel
theorem de_Mo_days_37 : decode prog_14_method_113_code 37 = .ok (.invokestatic 115, 3) := by decide +kernel
theorem de_Mo_days_40 : decode prog_14_method_113_code 40 = .ok (.ifCond .eq 14, 3) := by decide +kernel
theorem de_Mo_days_43 : decode prog_14_method_113_code 43 = .ok (.iload 4, 2) := by decide +kernel
theorem de_Mo_days_45 : decode prog_14_method_113_code 45 = .ok (.i2l, 1) := by decide +kernel
theorem de_Mo_days_46 : decode prog_14_method_113_code 46 = .ok (.lconst 0, 1) := by decide +kernel
theorem de_Mo_days_47 : decode prog_14_method_113_code 47 = .ok (.lconst 1, 1) := by decide +kernel
theorem de_Mo_days_48 : decode prog_14_method_113_code 48 = .ok (.invokestatic 115, 3) := by decide +kernel
theorem de_Mo_days_51 : decode prog_14_method_113_code 51 = .ok (.ifCond .ne 7, 3) := by decide +kernel
theorem de_Mo_days_54 : decode prog_14_method_113_code 54 = .ok (.ldc_w 480, 3) := by decide +kernel
theorem de_Mo_days_57 : decode prog_14_method_113_code 57 = .ok (.ireturn, 1) := by decide +kernel
theorem de_Mo_days_58 : decode prog_14_method_113_code 58 = .ok (.aload_n 0, 1) := by decide +kernel
theorem de_Mo_days_59 : decode prog_14_method_113_code 59 = .ok (.aload_n 0, 1) := by decide +kernel
theorem de_Mo_days_60 : decode prog_14_method_113_code 60 = .ok (.getfield 465, 3) := by decide +kernel
theorem de_Mo_days_63 : decode prog_14_method_113_code 63 = .ok (.i2l, 1) := by decide +kernel
theorem de_Mo_days_64 : decode prog_14_method_113_code 64 = .ok (.putfield 468, 3) := by decide +kernel
theorem de_Mo_days_67 : decode prog_14_method_113_code 67 = .ok (.iconst 0, 1) := by decide +kernel
theorem de_Mo_days_68 : decode prog_14_method_113_code 68 = .ok (.istore 5, 2) := by decide +kernel
theorem de_Mo_days_70 : decode prog_14_method_113_code 70 = .ok (.iconst 0, 1) := by decide +kernel
theorem de_Mo_days_71 : decode prog_14_method_113_code 71 = .ok (.istore 6, 2) := by decide +kernel
theorem de_Mo_days_73 : decode prog_14_method_113_code 73 = .ok (.aload_n 0, 1) := by decide +kernel
theorem de_Mo_days_74 : decode prog_14_method_113_code 74 = .ok (.invokevirtual 390, 3) := by decide +kernel
theorem de_Mo_days_77 : decode prog_14_method_113_code 77 = .ok (.iconst 0, 1) := by decide +kernel
theorem de_Mo_days_78 : decode prog_14_method_113_code 78 = .ok (.istore 7, 2) := by decide +kernel
theorem de_Mo_days_80 : decode prog_14_method_113_code 80 = .ok (.iload 7, 2) := by decide +kernel
theorem de_Mo_days_82 : decode prog_14_method_113_code 82 = .ok (.iload_n 1, 1) := by decide +kernel
theorem de_Mo_days_83 : decode prog_14_method_113_code 83 = .ok (.if_icmp .ge 64, 3) := by decide +kernel
theorem de_Mo_days_86 : decode prog_14_method_113_code 86 = .ok (.iconst 0, 1) := by decide +kernel
theorem de_Mo_days_87 : decode prog_14_method_113_code 87 = .ok (.istore 8, 2) := by decide +kernel
theorem de_Mo_days_89 : decode prog_14_method_113_code 89 = .ok (.iload 8, 2) := by decide +kernel
theorem de_Mo_days_91 : decode prog_14_method_113_code 91 = .ok (.iload_n 2, 1) := by decide +kernel
theorem de_Mo_days_92 : decode prog_14_method_113_code 92 = .ok (.if_icmp .ge 45, 3) := by decide +kernel
theorem de_Mo_days_95 : decode prog_14_method_113_code 95 = .ok (.aload_n 0, 1) := by decide +kernel
theorem de_Mo_days_96 : decode prog_14_method_113_code 96 = .ok (.bipush 100, 2) := by decide +kernel
theorem de_Mo_days_98 : decode prog_14_method_113_code 98 = .ok (.invokevirtual 481, 3) := by decide +kernel
theorem de_Mo_days_101 : decode prog_14_method_113_code 101 = .ok (.iload_n 3, 1) := by decide +kernel
theorem de_Mo_days_102 : decode prog_14_method_113_code 102 = .ok (.if_icmp .ge 11, 3) := by decide +kernel
theorem de_Mo_days_105 : decode prog_14_method_113_code 105 = .ok (.aload_n 0, 1) := by decide +kernel
theorem de_Mo_days_106 : decode prog_14_method_113_code 106 = .ok (.getfield 39, 3) := by decide +kernel
theorem de_Mo_days_109 : decode prog_14_method_113_code 109 = .ok (.bipush 7, 2) := by decide +kernel
theorem de_Mo_days_111 : decode prog_14_method_113_code 111 = .ok (.iconst 1, 1) := by decide +kernel
theorem de_Mo_days_112 : decode prog_14_method_113_code 112 = .ok (.iastore, 1) := by decide +kernel
theorem de_Mo_days_113 : decode prog_14_method_113_code 113 = .ok (.iload 6, 2) := by decide +kernel
theorem de_Mo_days_115 : decode prog_14_method_113_code 115 = .ok (.aload_n 0, 1) := by decide +kernel
theorem de_Mo_days_116 : decode prog_14_method_113_code 116 = .ok (.invokevirtual 347, 3) := by decide +kernel
theorem de_Mo_days_119 : decode prog_14_method_113_code 119 = .ok (.iadd, 1) := by decide +kernel
theorem de_Mo_days_120 : decode prog_14_method_113_code 120 = .ok (.istore 6, 2) := by decide +kernel
theorem de_Mo_days_122 : decode prog_14_method_113_code 122 = .ok (.iload 5, 2) := by decide +kernel
theorem de_Mo_days_124 : decode prog_14_method_113_code 124 = .ok (.aload_n 0, 1) := by decide +kernel
theorem de_Mo_days_125 : decode prog_14_method_113_code 125 = .ok (.invokevirtual 354, 3) := by decide +kernel
theorem de_Mo_days_128 : decode prog_14_method_113_code 128 = .ok (.iadd, 1) := by decide +kernel
theorem de_Mo_days_129 : decode prog_14_method_113_code 129 = .ok (.istore 5, 2) := by decide +kernel
theorem de_Mo_days_131 : decode prog_14_method_113_code 131 = .ok (.iinc 8 1, 3) := by decide +kernel
theorem de_Mo_days_134 : decode prog_14_method_113_code 134 = .ok (.goto (-45), 3) := by decide +kernel
theorem de_Mo_days_137 : decode prog_14_method_113_code 137 = .ok (.aload_n 0, 1) := by decide +kernel
theorem de_Mo_days_138 : decode prog_14_method_113_code 138 = .ok (.invokevirtual 393, 3) := by decide +kernel
theorem de_Mo_days_141 : decode prog_14_method_113_code 141 = .ok (.iinc 7 1, 3) := by decide +kernel
theorem de_Mo_days_144 : decode prog_14_method_113_code 144 = .ok (.goto (-64), 3) := by decide +kernel
theorem de_Mo_days_147 : decode prog_14_method_113_code 147 = .ok (.iload 4, 2) := by decide +kernel
theorem de_Mo_days_149 : decode prog_14_method_113_code 149 = .ok (.ifCond .ne 8, 3) := by decide +kernel
theorem de_Mo_days_152 : decode prog_14_method_113_code 152 = .ok (.iload 5, 2) := by decide +kernel
theorem de_Mo_days_154 : decode prog_14_method_113_code 154 = .ok (.goto 5, 3) := by decide +kernel
theorem de_Mo_days_157 : decode prog_14_method_113_code 157 = .ok (.iload 6, 2) := by decide +kernel
theorem de_Mo_days_159 : decode prog_14_method_113_code 159 = .ok (.ireturn, 1) := by decide +kernel
set_option maxRecDepth 10000 in
theorem lo_Mo_days1 {B : Int} (hI : sg_ok B said) (hB : B ≤ 29000) (mm pp ww : Int) (hp : ab_in pp) (nn : Nat) (hn : nn ≤ 96) (x0 L0 S0 y : Int) (hx : 0 ≤ x0 ∧ x0 ≤ 2147483647) (Q : Option ab_V → ab_W → Prop) (hq : ab_Ev g_G g_rs mt_Mo_days 4 0 0 137 [some (ab_R 0), some (ab_I mm), some (ab_I (nn : Int)), some (ab_I pp), some (ab_I ww), some (ab_I (sp_dd pp said x0 L0 S0 nn).2.2.1), some (ab_I (sp_dd pp said x0 L0 S0 nn).2.2.2), some (ab_I y), some (ab_I (nn : Int))] [] (mo_W tape taped rules sign leng clause clauses read next wrong number text made deep lines opn opened stack top word ((sp_dd pp said x0 L0 S0 nn).1) xx was undone kept sumOf faced slotAt dayAt row bestRow tMany tMost (Int64.ofInt (sp_dd pp said x0 L0 S0 nn).2.1) images imageX isMade) Q) : ∀ (n : Nat) (k : Nat), k ≤ nn → nn < k + n → ab_Ev g_G g_rs mt_Mo_days 4 0 0 89 [some (ab_R 0), some (ab_I mm), some (ab_I (nn : Int)), some (ab_I pp), some (ab_I ww), some (ab_I (sp_dd pp said x0 L0 S0 k).2.2.1), some (ab_I (sp_dd pp said x0 L0 S0 k).2.2.2), some (ab_I y), some (ab_I (k : Int))] [] (mo_W tape taped rules sign leng clause clauses read next wrong number text made deep lines opn opened stack top word ((sp_dd pp said x0 L0 S0 k).1) xx was undone kept sumOf faced slotAt dayAt row bestRow tMany tMost (Int64.ofInt (sp_dd pp said x0 L0 S0 k).2.1) images imageX isMade) Q := by
  intro n
  induction n with
  | zero =>
    intro k
    intro g1 g2; omega
  | succ n ih =>
    intro k
    intro g1 g2
    have hxk := sp_dd_x (p := pp) (f := said) (L := L0) (S := S0) hx k
    have hs := sg_dd (p := pp) (x := x0) (L := L0) (S := S0) hI k (by omega)
    have hs1 := sg_d1 (p := pp) (x := (sp_dd pp said x0 L0 S0 k).2.1) hs
    have hs2 := sg_pass hs1 (by omega)
    have qdb : 0 ≤ sp_draw (sp_dd pp said x0 L0 S0 k).2.1 / 65536 % 100 ∧ sp_draw (sp_dd pp said x0 L0 S0 k).2.1 / 65536 % 100 ≤ 99 := by omega
    refine ev_iload de_Mo_days_89 rfl ?_
    refine ev_iload_n de_Mo_days_91 rfl rfl ?_
    refine ev_icmp_ge (tgt := 137) de_Mo_days_92 (by decide) (by omega) (by omega) (fun h92 => ?_) (fun h92 => ?_)
    · skip
      have e : k = nn := by omega
      subst e
      exact hq
    · skip
      refine ev_aload_n de_Mo_days_95 rfl rfl ?_
      refine ev_bipush de_Mo_days_96 rfl ?_
      refine ev_vv (ci := 11) de_Mo_days_98 (co_Mo_draw (sp_dd pp said x0 L0 S0 k).2.1 hxk.1 hxk.2 rfl) kb_Mo_481 ⟨im_Mo_draw, se_Mo_draw⟩ rfl rfl rfl (Nat.le_of_ble_eq_true rfl) (by decide) rfl ?_
      refine ev_iload_n de_Mo_days_101 rfl rfl ?_
      refine ev_icmp_ge (tgt := 113) de_Mo_days_102 (by decide) (by omega) (by omega) (fun h102 => ?_) (fun h102 => ?_)
      · skip
        have e1 : (sp_dd pp said x0 L0 S0 k).1 = sp_d1 pp (sp_dd pp said x0 L0 S0 k).1 (sp_dd pp said x0 L0 S0 k).2.1 := (if_neg (by omega)).symm
        refine ev_world (w' := (mo_W tape taped rules sign leng clause clauses read next wrong number text made deep lines opn opened stack top word (sp_d1 pp (sp_dd pp said x0 L0 S0 k).1 (sp_dd pp said x0 L0 S0 k).2.1) xx was undone kept sumOf faced slotAt dayAt row bestRow tMany tMost (Int64.ofInt (sp_draw (sp_dd pp said x0 L0 S0 k).2.1)) images imageX isMade)) (by first | rw [← e1] | (rw [e1])) ?_
        refine ev_iload de_Mo_days_113 rfl ?_
        refine ev_aload_n de_Mo_days_115 rfl rfl ?_
        refine ev_vv (ci := 11) de_Mo_days_116 (co_Mo_passes hs1) kb_Mo_347 ⟨im_Mo_passes, se_Mo_passes⟩ rfl rfl rfl (Nat.le_of_ble_eq_true rfl) (by decide) rfl ?_
        refine ev_iadd de_Mo_days_119 ?_
        refine ev_istore (l' := [_, _, _, _, _, _, _, _, _]) de_Mo_days_120 (Nat.le_of_ble_eq_true rfl) rfl ?_
        refine ev_iload de_Mo_days_122 rfl ?_
        refine ev_aload_n de_Mo_days_124 rfl rfl ?_
        refine ev_vv (ci := 11) de_Mo_days_125 (co_Mo_allLike hs2) kb_Mo_354 ⟨im_Mo_allLike, se_Mo_allLike⟩ rfl rfl rfl (Nat.le_of_ble_eq_true rfl) (by decide) rfl ?_
        refine ev_iadd de_Mo_days_128 ?_
        refine ev_istore (l' := [_, _, _, _, _, _, _, _, _]) de_Mo_days_129 (Nat.le_of_ble_eq_true rfl) rfl ?_
        refine ev_iinc (l' := [_, _, _, _, _, _, _, _, _]) de_Mo_days_131 rfl rfl ?_
        refine ev_goto (tgt := 89) de_Mo_days_134 (by decide) ?_
        exact ih (k + 1) (by omega) (by omega)
      · skip
        have e1 : ab_up (sp_dd pp said x0 L0 S0 k).1 7 1 = sp_d1 pp (sp_dd pp said x0 L0 S0 k).1 (sp_dd pp said x0 L0 S0 k).2.1 := (if_pos (by omega)).symm
        refine ev_aload_n de_Mo_days_105 rfl rfl ?_
        refine ev_getfield de_Mo_days_106 rfl fl_Mo_39 rfl ?_
        refine ev_bipush de_Mo_days_109 rfl ?_
        refine ev_iconst de_Mo_days_111 ?_
        refine ev_iastore de_Mo_days_112 rfl (by omega) (by omega) (by omega) ?_
        refine ev_world (w' := mo_W _ _ _ _ _ _ _ _ _ _ _ _ _ _ _ _ _ _ _ _ _ _ _ _ _ _ _ _ _ _ _ _ _ _ _ _ _) rfl ?_
        refine ev_world (w' := (mo_W tape taped rules sign leng clause clauses read next wrong number text made deep lines opn opened stack top word (sp_d1 pp (sp_dd pp said x0 L0 S0 k).1 (sp_dd pp said x0 L0 S0 k).2.1) xx was undone kept sumOf faced slotAt dayAt row bestRow tMany tMost (Int64.ofInt (sp_draw (sp_dd pp said x0 L0 S0 k).2.1)) images imageX isMade)) (by first | rw [← e1] | (rw [e1])) ?_
        refine ev_iload de_Mo_days_113 rfl ?_
        refine ev_aload_n de_Mo_days_115 rfl rfl ?_
        refine ev_vv (ci := 11) de_Mo_days_116 (co_Mo_passes hs1) kb_Mo_347 ⟨im_Mo_passes, se_Mo_passes⟩ rfl rfl rfl (Nat.le_of_ble_eq_true rfl) (by decide) rfl ?_
        refine ev_iadd de_Mo_days_119 ?_
        refine ev_istore (l' := [_, _, _, _, _, _, _, _, _]) de_Mo_days_120 (Nat.le_of_ble_eq_true rfl) rfl ?_
        refine ev_iload de_Mo_days_122 rfl ?_
        refine ev_aload_n de_Mo_days_124 rfl rfl ?_
        refine ev_vv (ci := 11) de_Mo_days_125 (co_Mo_allLike hs2) kb_Mo_354 ⟨im_Mo_allLike, se_Mo_allLike⟩ rfl rfl rfl (Nat.le_of_ble_eq_true rfl) (by decide) rfl ?_
        refine ev_iadd de_Mo_days_128 ?_
        refine ev_istore (l' := [_, _, _, _, _, _, _, _, _]) de_Mo_days_129 (Nat.le_of_ble_eq_true rfl) rfl ?_
        refine ev_iinc (l' := [_, _, _, _, _, _, _, _, _]) de_Mo_days_131 rfl rfl ?_
        refine ev_goto (tgt := 89) de_Mo_days_134 (by decide) ?_
        exact ih (k + 1) (by omega) (by omega)
set_option maxRecDepth 10000 in
theorem lo_Mo_days {B : Int} (hI : sg_ok B said) (hB : B ≤ 29000) (mm pp ww : Int) (hp : ab_in pp) (nn : Nat) (hn : nn ≤ 96) (hw0 : 0 ≤ ww) (hw1 : ww ≤ 1) (M : Nat) (hM : mm = (M : Int)) (hM1 : M ≤ 10) (x0 : Int) (hx : 0 ≤ x0 ∧ x0 ≤ 2147483647) (K : Int → Int) (hK : ∀ g : Int → Int, (∀ j : Int, (j < 0 ∨ 53 ≤ j) → g j = said j) → sp_cp K g 53 = said) : ∀ (n : Nat) (y : Nat) (l8 : Option ab_V), y ≤ M → M < y + n → ab_Ev g_G g_rs mt_Mo_days 4 0 0 80 [some (ab_R 0), some (ab_I mm), some (ab_I (nn : Int)), some (ab_I pp), some (ab_I ww), some (ab_I (sp_dm pp said x0 nn y).2.1), some (ab_I (sp_dm pp said x0 nn y).2.2), some (ab_I (y : Int)), l8] [] (mo_W tape taped rules sign leng clause clauses read next wrong number text made deep lines opn opened stack top word said xx was undone (K) sumOf faced slotAt dayAt row bestRow tMany tMost (Int64.ofInt (sp_dm pp said x0 nn y).1) images imageX isMade) (fun r w2 => r = some (ab_I (if ww = 0 then (sp_dm pp said x0 nn M).2.1 else (sp_dm pp said x0 nn M).2.2)) ∧ ∃ X, w2 = (mo_W tape taped rules sign leng clause clauses read next wrong number text made deep lines opn opened stack top word said xx was undone (K) sumOf faced slotAt dayAt row bestRow tMany tMost (X) images imageX isMade)) := by
  intro n
  induction n with
  | zero =>
    intro y l8
    intro g1 g2; omega
  | succ n ih =>
    intro y l8
    intro g1 g2
    have hxy := sp_dm_x (p := pp) (f := said) hx nn y
    refine ev_iload de_Mo_days_80 rfl ?_
    refine ev_iload_n de_Mo_days_82 rfl rfl ?_
    refine ev_icmp_ge (tgt := 147) de_Mo_days_83 (by decide) (by omega) (by omega) (fun h83 => ?_) (fun h83 => ?_)
    · skip
      have e : y = M := by omega
      subst e
      refine ev_iload de_Mo_days_147 rfl ?_
      refine ev_if_ne (tgt := 157) de_Mo_days_149 (by decide) (by omega) (fun h149 => ?_) (fun h149 => ?_)
      · skip
        refine ev_iload de_Mo_days_157 rfl ?_
        exact ev_ireturn de_Mo_days_159 rfl ⟨by first | rw [if_pos h149] | rw [if_neg h149], _, rfl⟩
      · skip
        refine ev_iload de_Mo_days_152 rfl ?_
        refine ev_goto (tgt := 159) de_Mo_days_154 (by decide) ?_
        exact ev_ireturn de_Mo_days_159 rfl ⟨by first | rw [if_pos h149] | rw [if_neg h149], _, rfl⟩
    · skip
      refine ev_iconst de_Mo_days_86 ?_
      refine ev_istore (l' := [_, _, _, _, _, _, _, _, _]) de_Mo_days_87 (Nat.le_of_ble_eq_true rfl) rfl ?_
      refine lo_Mo_days1 hI hB mm pp ww hp nn hn (sp_dm pp said x0 nn y).1 (sp_dm pp said x0 nn y).2.1 (sp_dm pp said x0 nn y).2.2 (y : Int) hxy _ ?_ (nn + 1) 0 (by omega) (by omega)
      refine ev_aload_n de_Mo_days_137 rfl rfl ?_
      refine ev_vn (ci := 11) de_Mo_days_138 co_Mo_laysBack kb_Mo_393 ⟨im_Mo_laysBack, se_Mo_laysBack⟩ rfl rfl rfl (Nat.le_of_ble_eq_true rfl) (by decide) rfl ?_
      refine ev_world (w' := (mo_W tape taped rules sign leng clause clauses read next wrong number text made deep lines opn opened stack top word said xx was undone (K) sumOf faced slotAt dayAt row bestRow tMany tMost (Int64.ofInt (sp_dm pp said x0 nn (y + 1)).1) images imageX isMade)) (by rw [hK _ (fun j hj => sp_dd_k hI nn (by omega) j (by omega))]; rfl) ?_
      refine ev_iinc (l' := [_, _, _, _, _, _, _, _, _]) de_Mo_days_141 rfl rfl ?_
      refine ev_goto (tgt := 80) de_Mo_days_144 (by decide) ?_
      exact ih (y + 1) _ (by omega) (by omega)
def sp_days (f : Int → Int) (x m n p w : Int) : Int := if w = 0 then (sp_dm p f x n.toNat m.toNat).2.1 else (sp_dm p f x n.toNat m.toNat).2.2
set_option maxRecDepth 10000 in
theorem co_Mo_days {B : Int} (hI : sg_ok B said) (hB : B ≤ 29000) (hx : 0 ≤ xx ∧ xx ≤ 2147483647) (mm nn pp ww : Int) (hm : ab_in mm) (hn : ab_in nn) (hp : ab_in pp) (hw : ab_in ww) : ab_Mt g_G g_rs mt_Mo_days 4 0 0 [ab_R 0, ab_I mm, ab_I nn, ab_I pp, ab_I ww] (mo_W tape taped rules sign leng clause clauses read next wrong number text made deep lines opn opened stack top word said xx was undone kept sumOf faced slotAt dayAt row bestRow tMany tMost drawX images imageX isMade) (fun r w2 => r = some (ab_I (if said 0 = 1 ∧ (1 ≤ mm ∧ mm ≤ 10) ∧ (1 ≤ nn ∧ nn ≤ 96) ∧ (0 ≤ pp ∧ pp ≤ 100) ∧ 0 ≤ ww ∧ ww ≤ 1 then sp_days said xx mm nn pp ww else -10000000)) ∧ ∃ X K, w2 = (mo_W tape taped rules sign leng clause clauses read next wrong number text made deep lines opn opened stack top word said xx was undone (K) sumOf faced slotAt dayAt row bestRow tMany tMost (X) images imageX isMade)) := by
  refine ab_Mt.of rfl (Nat.le_of_ble_eq_true rfl) ?_
  show ab_Ev g_G g_rs mt_Mo_days _ _ _ 0 [some (ab_R 0), some (ab_I mm), some (ab_I nn), some (ab_I pp), some (ab_I ww), none, none, none, none] [] _ _
  have hJ := hI; obtain ⟨i0, i1, i2, i3, i4, i5, i6, i7, i8, i9, i10, i11, i12, i13, i14, i15, i16, i17⟩ := sg_all hJ
  refine ev_aload_n de_Mo_days_0 rfl rfl ?_
  refine ev_vv (ci := 11) de_Mo_days_1 (co_Mo_isRing hI) kb_Mo_323 ⟨im_Mo_isRing, se_Mo_isRing⟩ rfl rfl rfl (Nat.le_of_ble_eq_true rfl) (by decide) rfl ?_
  refine ev_if_eq (tgt := 54) de_Mo_days_4 (by decide) (by omega) (fun h4 => ?_) (fun h4 => ?_)
  · skip
    rw [if_neg (by omega)]
    refine ev_ldcw (n := -10000000) de_Mo_days_54 cn_Mo_480 rfl ?_
    exact ev_ireturn de_Mo_days_57 rfl ⟨rfl, _, _, rfl⟩
  · skip
    refine ev_iload_n de_Mo_days_7 rfl rfl ?_
    refine ev_i2l de_Mo_days_8 (by omega) ?_
    refine ev_lconsti (n := 1) de_Mo_days_9 (by decide) ?_
    refine ev_ldc2i (n := 10) de_Mo_days_10 cn_Mo_440 (by decide) ?_
    refine ev_sv de_Mo_days_13 (co_Mo_in _ mm (1) (10) (by omega) (by decide) (by decide)) kb_Mo_115 sc_Mo_in rfl (Nat.le_of_ble_eq_true rfl) (by decide) rfl ?_
    refine ev_if_eq (tgt := 54) de_Mo_days_16 (by decide) (by split <;> decide) (fun h16 => ?_) (fun h16 => ?_)
    · skip
      have n16 : ¬ (1 ≤ mm ∧ mm ≤ 10) := fun z => by rw [if_pos z] at h16; omega
      rw [if_neg (by omega)]
      refine ev_ldcw (n := -10000000) de_Mo_days_54 cn_Mo_480 rfl ?_
      exact ev_ireturn de_Mo_days_57 rfl ⟨rfl, _, _, rfl⟩
    · skip
      have n16 : 1 ≤ mm ∧ mm ≤ 10 := Decidable.byContradiction (fun z => by rw [if_neg z] at h16; omega)
      refine ev_iload_n de_Mo_days_19 rfl rfl ?_
      refine ev_i2l de_Mo_days_20 (by omega) ?_
      refine ev_lconsti (n := 1) de_Mo_days_21 (by decide) ?_
      refine ev_ldc2i (n := 96) de_Mo_days_22 cn_Mo_383 (by decide) ?_
      refine ev_sv de_Mo_days_25 (co_Mo_in _ nn (1) (96) (by omega) (by decide) (by decide)) kb_Mo_115 sc_Mo_in rfl (Nat.le_of_ble_eq_true rfl) (by decide) rfl ?_
      refine ev_if_eq (tgt := 54) de_Mo_days_28 (by decide) (by split <;> decide) (fun h28 => ?_) (fun h28 => ?_)
      · skip
        have n28 : ¬ (1 ≤ nn ∧ nn ≤ 96) := fun z => by rw [if_pos z] at h28; omega
        rw [if_neg (by omega)]
        refine ev_ldcw (n := -10000000) de_Mo_days_54 cn_Mo_480 rfl ?_
        exact ev_ireturn de_Mo_days_57 rfl ⟨rfl, _, _, rfl⟩
      · skip
        have n28 : 1 ≤ nn ∧ nn ≤ 96 := Decidable.byContradiction (fun z => by rw [if_neg z] at h28; omega)
        refine ev_iload_n de_Mo_days_31 rfl rfl ?_
        refine ev_i2l de_Mo_days_32 (by omega) ?_
        refine ev_lconsti (n := 0) de_Mo_days_33 (by decide) ?_
        refine ev_ldc2i (n := 100) de_Mo_days_34 cn_Mo_319 (by decide) ?_
        refine ev_sv de_Mo_days_37 (co_Mo_in _ pp (0) (100) (by omega) (by decide) (by decide)) kb_Mo_115 sc_Mo_in rfl (Nat.le_of_ble_eq_true rfl) (by decide) rfl ?_
        refine ev_if_eq (tgt := 54) de_Mo_days_40 (by decide) (by split <;> decide) (fun h40 => ?_) (fun h40 => ?_)
        · skip
          have n40 : ¬ (0 ≤ pp ∧ pp ≤ 100) := fun z => by rw [if_pos z] at h40; omega
          rw [if_neg (by omega)]
          refine ev_ldcw (n := -10000000) de_Mo_days_54 cn_Mo_480 rfl ?_
          exact ev_ireturn de_Mo_days_57 rfl ⟨rfl, _, _, rfl⟩
        · skip
          have n40 : 0 ≤ pp ∧ pp ≤ 100 := Decidable.byContradiction (fun z => by rw [if_neg z] at h40; omega)
          refine ev_iload de_Mo_days_43 rfl ?_
          refine ev_i2l de_Mo_days_45 (by omega) ?_
          refine ev_lconsti (n := 0) de_Mo_days_46 (by decide) ?_
          refine ev_lconsti (n := 1) de_Mo_days_47 (by decide) ?_
          refine ev_sv de_Mo_days_48 (co_Mo_in _ ww (0) (1) (by omega) (by decide) (by decide)) kb_Mo_115 sc_Mo_in rfl (Nat.le_of_ble_eq_true rfl) (by decide) rfl ?_
          refine ev_if_ne (tgt := 58) de_Mo_days_51 (by decide) (by split <;> decide) (fun h51 => ?_) (fun h51 => ?_)
          · skip
            have n51 : 0 ≤ ww ∧ ww ≤ 1 := Decidable.byContradiction (fun z => by rw [if_neg z] at h51; omega)
            rw [if_pos (by omega)]
            obtain ⟨N, rfl⟩ := Int.eq_ofNat_of_zero_le (show 0 ≤ nn by omega)
            obtain ⟨M, rfl⟩ := Int.eq_ofNat_of_zero_le (show 0 ≤ mm by omega)
            refine ev_aload_n de_Mo_days_58 rfl rfl ?_
            refine ev_aload_n de_Mo_days_59 rfl rfl ?_
            refine ev_getfield de_Mo_days_60 rfl fl_Mo_465 rfl ?_
            refine ev_i2l de_Mo_days_63 (by omega) ?_
            refine ev_putfield de_Mo_days_64 rfl (fp_Mo_468 _) (Nat.le_of_ble_eq_true rfl) trivial ?_
            refine ev_world (w' := mo_W _ _ _ _ _ _ _ _ _ _ _ _ _ _ _ _ _ _ _ _ _ _ _ _ _ _ _ _ _ _ _ _ _ _ _ _ _) rfl ?_
            refine ev_iconst de_Mo_days_67 ?_
            refine ev_istore (l' := [_, _, _, _, _, _, _, _, _]) de_Mo_days_68 (Nat.le_of_ble_eq_true rfl) rfl ?_
            refine ev_iconst de_Mo_days_70 ?_
            refine ev_istore (l' := [_, _, _, _, _, _, _, _, _]) de_Mo_days_71 (Nat.le_of_ble_eq_true rfl) rfl ?_
            refine ev_aload_n de_Mo_days_73 rfl rfl ?_
            refine ev_vn (ci := 11) de_Mo_days_74 co_Mo_keeps kb_Mo_390 ⟨im_Mo_keeps, se_Mo_keeps⟩ rfl rfl rfl (Nat.le_of_ble_eq_true rfl) (by decide) rfl ?_
            refine ev_iconst de_Mo_days_77 ?_
            refine ev_istore (l' := [_, _, _, _, _, _, _, _, _]) de_Mo_days_78 (Nat.le_of_ble_eq_true rfl) rfl ?_
            refine ev_conseq (fun r w2 h => ?_) (lo_Mo_days hI hB (M : Int) pp ww hp N (by omega) (by omega) (by omega) M rfl (by omega) xx hx _ (fun g h => sp_lay h) (M + 1) 0 none (by omega) (by omega))
            obtain ⟨h1, X, h2⟩ := h
            exact ⟨h1, X, _, h2⟩
          · skip
            have n51 : ¬ (0 ≤ ww ∧ ww ≤ 1) := fun z => by rw [if_pos z] at h51; omega
            rw [if_neg (by omega)]
            refine ev_ldcw (n := -10000000) de_Mo_days_54 cn_Mo_480 rfl ?_
            exact ev_ireturn de_Mo_days_57 rfl ⟨rfl, _, _, rfl⟩
end MO
