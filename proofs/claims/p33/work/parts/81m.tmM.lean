theorem dt_In_bitCount_0 : decode prog_16_method_49_code 0 = .ok (.iload_n 0, 1) := by decide +kernel
theorem dt_In_bitCount_1 : decode prog_16_method_49_code 1 = .ok (.iload_n 0, 1) := by decide +kernel
theorem dt_In_bitCount_2 : decode prog_16_method_49_code 2 = .ok (.iconst 1, 1) := by decide +kernel
theorem dt_In_bitCount_3 : decode prog_16_method_49_code 3 = .ok (.iushr, 1) := by decide +kernel
theorem dt_In_bitCount_4 : decode prog_16_method_49_code 4 = .ok (.ldc_w 265, 3) := by decide +kernel
theorem dt_In_bitCount_7 : decode prog_16_method_49_code 7 = .ok (.iand, 1) := by decide +kernel
theorem dt_In_bitCount_8 : decode prog_16_method_49_code 8 = .ok (.isub, 1) := by decide +kernel
theorem dt_In_bitCount_9 : decode prog_16_method_49_code 9 = .ok (.istore_n 0, 1) := by decide +kernel
theorem dt_In_bitCount_10 : decode prog_16_method_49_code 10 = .ok (.iload_n 0, 1) := by decide +kernel
theorem dt_In_bitCount_11 : decode prog_16_method_49_code 11 = .ok (.ldc_w 266, 3) := by decide +kernel
theorem dt_In_bitCount_14 : decode prog_16_method_49_code 14 = .ok (.iand, 1) := by decide +kernel
theorem dt_In_bitCount_15 : decode prog_16_method_49_code 15 = .ok (.iload_n 0, 1) := by decide +kernel
theorem dt_In_bitCount_16 : decode prog_16_method_49_code 16 = .ok (.iconst 2, 1) := by decide +kernel
theorem dt_In_bitCount_17 : decode prog_16_method_49_code 17 = .ok (.iushr, 1) := by decide +kernel
theorem dt_In_bitCount_18 : decode prog_16_method_49_code 18 = .ok (.ldc_w 266, 3) := by decide +kernel
theorem dt_In_bitCount_21 : decode prog_16_method_49_code 21 = .ok (.iand, 1) := by decide +kernel
theorem dt_In_bitCount_22 : decode prog_16_method_49_code 22 = .ok (.iadd, 1) := by decide +kernel
theorem dt_In_bitCount_23 : decode prog_16_method_49_code 23 = .ok (.istore_n 0, 1) := by decide +kernel
theorem dt_In_bitCount_24 : decode prog_16_method_49_code 24 = .ok (.iload_n 0, 1) := by decide +kernel
theorem dt_In_bitCount_25 : decode prog_16_method_49_code 25 = .ok (.iload_n 0, 1) := by decide +kernel
theorem dt_In_bitCount_26 : decode prog_16_method_49_code 26 = .ok (.iconst 4, 1) := by decide +kernel
theorem dt_In_bitCount_27 : decode prog_16_method_49_code 27 = .ok (.iushr, 1) := by decide +kernel
theorem dt_In_bitCount_28 : decode prog_16_method_49_code 28 = .ok (.iadd, 1) := by decide +kernel
theorem dt_In_bitCount_29 : decode prog_16_method_49_code 29 = .ok (.ldc_w 267, 3) := by decide +kernel
theorem dt_In_bitCount_32 : decode prog_16_method_49_code 32 = .ok (.iand, 1) := by decide +kernel
theorem dt_In_bitCount_33 : decode prog_16_method_49_code 33 = .ok (.istore_n 0, 1) := by decide +kernel
theorem dt_In_bitCount_34 : decode prog_16_method_49_code 34 = .ok (.iload_n 0, 1) := by decide +kernel
theorem dt_In_bitCount_35 : decode prog_16_method_49_code 35 = .ok (.iload_n 0, 1) := by decide +kernel
theorem dt_In_bitCount_36 : decode prog_16_method_49_code 36 = .ok (.bipush 8, 2) := by decide +kernel
theorem dt_In_bitCount_38 : decode prog_16_method_49_code 38 = .ok (.iushr, 1) := by decide +kernel
theorem dt_In_bitCount_39 : decode prog_16_method_49_code 39 = .ok (.iadd, 1) := by decide +kernel
theorem dt_In_bitCount_40 : decode prog_16_method_49_code 40 = .ok (.istore_n 0, 1) := by decide +kernel
theorem dt_In_bitCount_41 : decode prog_16_method_49_code 41 = .ok (.iload_n 0, 1) := by decide +kernel
theorem dt_In_bitCount_42 : decode prog_16_method_49_code 42 = .ok (.iload_n 0, 1) := by decide +kernel
theorem dt_In_bitCount_43 : decode prog_16_method_49_code 43 = .ok (.bipush 16, 2) := by decide +kernel
theorem dt_In_bitCount_45 : decode prog_16_method_49_code 45 = .ok (.iushr, 1) := by decide +kernel
theorem dt_In_bitCount_46 : decode prog_16_method_49_code 46 = .ok (.iadd, 1) := by decide +kernel
theorem dt_In_bitCount_47 : decode prog_16_method_49_code 47 = .ok (.istore_n 0, 1) := by decide +kernel
theorem dt_In_bitCount_48 : decode prog_16_method_49_code 48 = .ok (.iload_n 0, 1) := by decide +kernel
theorem dt_In_bitCount_49 : decode prog_16_method_49_code 49 = .ok (.bipush 63, 2) := by decide +kernel
theorem dt_In_bitCount_51 : decode prog_16_method_49_code 51 = .ok (.iand, 1) := by decide +kernel
theorem dt_In_bitCount_52 : decode prog_16_method_49_code 52 = .ok (.ireturn, 1) := by decide +kernel
def bc_F (a : Int) : Int := let x0 : Int := (Int32.ofInt (a - ab_iand ((Int32.ofInt (a % 4294967296 / 2 ^ (1 : Int).toNat)).toInt) (1431655765))).toInt; let x1 : Int := (Int32.ofInt (ab_iand (x0) (858993459) + ab_iand ((Int32.ofInt (x0 % 4294967296 / 2 ^ (2 : Int).toNat)).toInt) (858993459))).toInt; let x2 : Int := ab_iand ((Int32.ofInt (x1 + (Int32.ofInt (x1 % 4294967296 / 2 ^ (4 : Int).toNat)).toInt)).toInt) (252645135); let x3 : Int := (Int32.ofInt (x2 + (Int32.ofInt (x2 % 4294967296 / 2 ^ (8 : Int).toNat)).toInt)).toInt; let x4 : Int := (Int32.ofInt (x3 + (Int32.ofInt (x3 % 4294967296 / 2 ^ (16 : Int).toNat)).toInt)).toInt; ab_iand (x4) (63)
theorem bc_all : ∀ n : Nat, n < 127 → 0 ≤ bc_F (n : Int) ∧ bc_F (n : Int) ≤ 6 := by decide +kernel
theorem bc_ok (a : Int) (h0 : 0 ≤ a) (h1 : a ≤ 126) : 0 ≤ bc_F a ∧ bc_F a ≤ 6 := by
  obtain ⟨n, rfl⟩ := Int.eq_ofNat_of_zero_le h0
  exact bc_all n (by omega)
set_option maxRecDepth 10000 in
theorem tm_In_bitCount {N : Nat} {T : Nat → tm_S} {w : ab_W} (hW : tm_W N T w) (a : Int) (l_a : 0 ≤ a) (u_a : a ≤ 126) : ab_Mt g_G g_rs mt_In_bitCount 0 0 0 [ab_I a] w (tm_P w (fun v => 0 ≤ v ∧ v ≤ 6)) := by
  refine ab_Mt.of rfl (Nat.le_of_ble_eq_true rfl) ?_
  show ab_Ev g_G g_rs mt_In_bitCount _ _ _ 0 [some (ab_I a)] [] _ _
  refine ev_iload_n dt_In_bitCount_0 rfl rfl ?_
  refine ev_iload_n dt_In_bitCount_1 rfl rfl ?_
  refine ev_iconst dt_In_bitCount_2 ?_
  refine ev_iushr dt_In_bitCount_3 (by first | omega | exact ab_toin _ | exact (tm_iand_b _ _).1) (by decide) (by decide) ?_
  refine tm_n32 ?_
  refine ev_ldcw (n := 1431655765) dt_In_bitCount_4 cn_In_265 rfl ?_
  refine ev_iand dt_In_bitCount_7 ?_
  refine ev_isub dt_In_bitCount_8 ?_
  refine tm_n32 ?_
  refine ev_istore_n (l' := [_]) dt_In_bitCount_9 rfl (Nat.le_of_ble_eq_true rfl) rfl ?_
  refine ev_iload_n dt_In_bitCount_10 rfl rfl ?_
  refine ev_ldcw (n := 858993459) dt_In_bitCount_11 cn_In_266 rfl ?_
  refine ev_iand dt_In_bitCount_14 ?_
  refine ev_iload_n dt_In_bitCount_15 rfl rfl ?_
  refine ev_iconst dt_In_bitCount_16 ?_
  refine ev_iushr dt_In_bitCount_17 (by first | omega | exact ab_toin _ | exact (tm_iand_b _ _).1) (by decide) (by decide) ?_
  refine tm_n32 ?_
  refine ev_ldcw (n := 858993459) dt_In_bitCount_18 cn_In_266 rfl ?_
  refine ev_iand dt_In_bitCount_21 ?_
  refine ev_iadd dt_In_bitCount_22 ?_
  refine tm_n32 ?_
  refine ev_istore_n (l' := [_]) dt_In_bitCount_23 rfl (Nat.le_of_ble_eq_true rfl) rfl ?_
  refine ev_iload_n dt_In_bitCount_24 rfl rfl ?_
  refine ev_iload_n dt_In_bitCount_25 rfl rfl ?_
  refine ev_iconst dt_In_bitCount_26 ?_
  refine ev_iushr dt_In_bitCount_27 (by first | omega | exact ab_toin _ | exact (tm_iand_b _ _).1) (by decide) (by decide) ?_
  refine tm_n32 ?_
  refine ev_iadd dt_In_bitCount_28 ?_
  refine tm_n32 ?_
  refine ev_ldcw (n := 252645135) dt_In_bitCount_29 cn_In_267 rfl ?_
  refine ev_iand dt_In_bitCount_32 ?_
  refine ev_istore_n (l' := [_]) dt_In_bitCount_33 rfl (Nat.le_of_ble_eq_true rfl) rfl ?_
  refine ev_iload_n dt_In_bitCount_34 rfl rfl ?_
  refine ev_iload_n dt_In_bitCount_35 rfl rfl ?_
  refine ev_bipush dt_In_bitCount_36 rfl ?_
  refine ev_iushr dt_In_bitCount_38 (by first | omega | exact ab_toin _ | exact (tm_iand_b _ _).1) (by decide) (by decide) ?_
  refine tm_n32 ?_
  refine ev_iadd dt_In_bitCount_39 ?_
  refine tm_n32 ?_
  refine ev_istore_n (l' := [_]) dt_In_bitCount_40 rfl (Nat.le_of_ble_eq_true rfl) rfl ?_
  refine ev_iload_n dt_In_bitCount_41 rfl rfl ?_
  refine ev_iload_n dt_In_bitCount_42 rfl rfl ?_
  refine ev_bipush dt_In_bitCount_43 rfl ?_
  refine ev_iushr dt_In_bitCount_45 (by first | omega | exact ab_toin _ | exact (tm_iand_b _ _).1) (by decide) (by decide) ?_
  refine tm_n32 ?_
  refine ev_iadd dt_In_bitCount_46 ?_
  refine tm_n32 ?_
  refine ev_istore_n (l' := [_]) dt_In_bitCount_47 rfl (Nat.le_of_ble_eq_true rfl) rfl ?_
  refine ev_iload_n dt_In_bitCount_48 rfl rfl ?_
  refine ev_bipush dt_In_bitCount_49 rfl ?_
  refine ev_iand dt_In_bitCount_51 ?_
  exact ev_ireturn dt_In_bitCount_52 rfl ⟨rfl, _, rfl, bc_ok a l_a u_a⟩
theorem dt_Tr_weighSet_0 : decode prog_12_method_6_code 0 = .ok (.iload_n 1, 1) := by decide +kernel
theorem dt_Tr_weighSet_1 : decode prog_12_method_6_code 1 = .ok (.invokestatic 50, 3) := by decide +kernel
theorem dt_Tr_weighSet_4 : decode prog_12_method_6_code 4 = .ok (.istore_n 3, 1) := by decide +kernel
theorem dt_Tr_weighSet_5 : decode prog_12_method_6_code 5 = .ok (.aload_n 0, 1) := by decide +kernel
theorem dt_Tr_weighSet_6 : decode prog_12_method_6_code 6 = .ok (.getfield 21, 3) := by decide +kernel
theorem dt_Tr_weighSet_9 : decode prog_12_method_6_code 9 = .ok (.iload_n 1, 1) := by decide +kernel
theorem dt_Tr_weighSet_10 : decode prog_12_method_6_code 10 = .ok (.iconst 0, 1) := by decide +kernel
theorem dt_Tr_weighSet_11 : decode prog_12_method_6_code 11 = .ok (.iastore, 1) := by decide +kernel
theorem dt_Tr_weighSet_12 : decode prog_12_method_6_code 12 = .ok (.iconst 0, 1) := by decide +kernel
theorem dt_Tr_weighSet_13 : decode prog_12_method_6_code 13 = .ok (.istore 4, 2) := by decide +kernel
theorem dt_Tr_weighSet_15 : decode prog_12_method_6_code 15 = .ok (.iload 4, 2) := by decide +kernel
theorem dt_Tr_weighSet_17 : decode prog_12_method_6_code 17 = .ok (.iload_n 2, 1) := by decide +kernel
theorem dt_Tr_weighSet_18 : decode prog_12_method_6_code 18 = .ok (.if_icmp .ge 81, 3) := by decide +kernel
theorem dt_Tr_weighSet_21 : decode prog_12_method_6_code 21 = .ok (.aload_n 0, 1) := by decide +kernel
theorem dt_Tr_weighSet_22 : decode prog_12_method_6_code 22 = .ok (.iload_n 3, 1) := by decide +kernel
theorem dt_Tr_weighSet_23 : decode prog_12_method_6_code 23 = .ok (.iload 4, 2) := by decide +kernel
theorem dt_Tr_weighSet_25 : decode prog_12_method_6_code 25 = .ok (.iload_n 1, 1) := by decide +kernel
theorem dt_Tr_weighSet_26 : decode prog_12_method_6_code 26 = .ok (.invokevirtual 56, 3) := by decide +kernel
theorem dt_Tr_weighSet_29 : decode prog_12_method_6_code 29 = .ok (.ifCond .eq 64, 3) := by decide +kernel
theorem dt_Tr_weighSet_32 : decode prog_12_method_6_code 32 = .ok (.aload_n 0, 1) := by decide +kernel
theorem dt_Tr_weighSet_33 : decode prog_12_method_6_code 33 = .ok (.iload_n 3, 1) := by decide +kernel
theorem dt_Tr_weighSet_34 : decode prog_12_method_6_code 34 = .ok (.iload 4, 2) := by decide +kernel
theorem dt_Tr_weighSet_36 : decode prog_12_method_6_code 36 = .ok (.iload_n 1, 1) := by decide +kernel
theorem dt_Tr_weighSet_37 : decode prog_12_method_6_code 37 = .ok (.invokevirtual 60, 3) := by decide +kernel
theorem dt_Tr_weighSet_40 : decode prog_12_method_6_code 40 = .ok (.istore 5, 2) := by decide +kernel
theorem dt_Tr_weighSet_42 : decode prog_12_method_6_code 42 = .ok (.aload_n 0, 1) := by decide +kernel
theorem dt_Tr_weighSet_43 : decode prog_12_method_6_code 43 = .ok (.getfield 24, 3) := by decide +kernel
theorem dt_Tr_weighSet_46 : decode prog_12_method_6_code 46 = .ok (.iload_n 1, 1) := by decide +kernel
theorem dt_Tr_weighSet_47 : decode prog_12_method_6_code 47 = .ok (.aload_n 0, 1) := by decide +kernel
theorem dt_Tr_weighSet_48 : decode prog_12_method_6_code 48 = .ok (.getfield 21, 3) := by decide +kernel
theorem dt_Tr_weighSet_51 : decode prog_12_method_6_code 51 = .ok (.iload_n 1, 1) := by decide +kernel
theorem dt_Tr_weighSet_52 : decode prog_12_method_6_code 52 = .ok (.iaload, 1) := by decide +kernel
theorem dt_Tr_weighSet_53 : decode prog_12_method_6_code 53 = .ok (.ifCond .ne 8, 3) := by decide +kernel
theorem dt_Tr_weighSet_56 : decode prog_12_method_6_code 56 = .ok (.iload 5, 2) := by decide +kernel
theorem dt_Tr_weighSet_58 : decode prog_12_method_6_code 58 = .ok (.goto 14, 3) := by decide +kernel
theorem dt_Tr_weighSet_61 : decode prog_12_method_6_code 61 = .ok (.aload_n 0, 1) := by decide +kernel
theorem dt_Tr_weighSet_62 : decode prog_12_method_6_code 62 = .ok (.getfield 24, 3) := by decide +kernel
theorem dt_Tr_weighSet_65 : decode prog_12_method_6_code 65 = .ok (.iload_n 1, 1) := by decide +kernel
theorem dt_Tr_weighSet_66 : decode prog_12_method_6_code 66 = .ok (.iaload, 1) := by decide +kernel
theorem dt_Tr_weighSet_67 : decode prog_12_method_6_code 67 = .ok (.iload 5, 2) := by decide +kernel
theorem dt_Tr_weighSet_69 : decode prog_12_method_6_code 69 = .ok (.invokestatic 64, 3) := by decide +kernel
theorem dt_Tr_weighSet_72 : decode prog_12_method_6_code 72 = .ok (.iastore, 1) := by decide +kernel
theorem dt_Tr_weighSet_73 : decode prog_12_method_6_code 73 = .ok (.aload_n 0, 1) := by decide +kernel
theorem dt_Tr_weighSet_74 : decode prog_12_method_6_code 74 = .ok (.getfield 21, 3) := by decide +kernel
theorem dt_Tr_weighSet_77 : decode prog_12_method_6_code 77 = .ok (.iload_n 1, 1) := by decide +kernel
theorem dt_Tr_weighSet_78 : decode prog_12_method_6_code 78 = .ok (.dup2, 1) := by decide +kernel
theorem dt_Tr_weighSet_79 : decode prog_12_method_6_code 79 = .ok (.iaload, 1) := by decide +kernel
theorem dt_Tr_weighSet_80 : decode prog_12_method_6_code 80 = .ok (.aload_n 0, 1) := by decide +kernel
theorem dt_Tr_weighSet_81 : decode prog_12_method_6_code 81 = .ok (.getfield 21, 3) := by decide +kernel
theorem dt_Tr_weighSet_84 : decode prog_12_method_6_code 84 = .ok (.iload_n 1, 1) := by decide +kernel
theorem dt_Tr_weighSet_85 : decode prog_12_method_6_code 85 = .ok (.iconst 1, 1) := by decide +kernel
theorem dt_Tr_weighSet_86 : decode prog_12_method_6_code 86 = .ok (.iload 4, 2) := by decide +kernel
theorem dt_Tr_weighSet_88 : decode prog_12_method_6_code 88 = .ok (.ishl, 1) := by decide +kernel
theorem dt_Tr_weighSet_89 : decode prog_12_method_6_code 89 = .ok (.ior, 1) := by decide +kernel
theorem dt_Tr_weighSet_90 : decode prog_12_method_6_code 90 = .ok (.iaload, 1) := by decide +kernel
theorem dt_Tr_weighSet_91 : decode prog_12_method_6_code 91 = .ok (.iadd, 1) := by decide +kernel
theorem dt_Tr_weighSet_92 : decode prog_12_method_6_code 92 = .ok (.iastore, 1) := by decide +kernel
theorem dt_Tr_weighSet_93 : decode prog_12_method_6_code 93 = .ok (.iinc 4 1, 3) := by decide +kernel
theorem dt_Tr_weighSet_96 : decode prog_12_method_6_code 96 = .ok (.goto (-81), 3) := by decide +kernel
theorem dt_Tr_weighSet_99 : decode prog_12_method_6_code 99 = .ok (.return_, 1) := by decide +kernel
set_option maxHeartbeats 4000000 in
set_option maxRecDepth 10000 in
theorem tm_Tr_weighSet {N : Nat} {T : Nat → tm_S} {w : ab_W} {tr : Nat} (hW : tm_W N T w) (h_tr : is_Tr T tr) (a : Int) (l_a : 0 ≤ a) (u_a : a ≤ 126) (b : Int) (l_b : 0 ≤ b) (u_b : b ≤ 7) : ab_Mt g_G g_rs mt_Tr_weighSet 1 0 0 [ab_R tr, ab_I a, ab_I b] w (tm_Qv N T (fun w2 => (∀ (p : Nat) (j : Int), ¬ (p = (tr + 4) ∨ p = (tr + 5)) → tm_g w2 p j = tm_g w p j))) := by
  obtain ⟨trt0, trt1, trt2, trt3, trt4, trt5⟩ := id h_tr
  have hF0 : ∀ (p : Nat) (j : Int), ¬ (p = (tr + 4) ∨ p = (tr + 5)) → tm_g w p j = tm_g w p j := fun _ _ _ => rfl
  refine ab_Mt.of rfl (Nat.le_of_ble_eq_true rfl) ?_
  show ab_Ev g_G g_rs mt_Tr_weighSet _ _ _ 0 [some (ab_R tr), some (ab_I a), some (ab_I b), none, none, none] [] _ _
  refine ev_iload_n dt_Tr_weighSet_0 rfl rfl ?_
  refine tm_sp dt_Tr_weighSet_1 (tm_In_bitCount hW (a) (by omega) (by omega)) kb_Tr_50 sc_In_bitCount rfl (Nat.le_of_ble_eq_true rfl) (by decide) (fun v1 hv1 => ?_)
  refine ev_istore_n (l' := [_, _, _, _, _, _]) dt_Tr_weighSet_4 rfl (Nat.le_of_ble_eq_true rfl) rfl ?_
  refine ev_aload_n dt_Tr_weighSet_5 rfl rfl ?_
  refine tm_getR dt_Tr_weighSet_6 hW trt0 fl_Tr_21 rfl ?_
  refine ev_iload_n dt_Tr_weighSet_9 rfl rfl ?_
  refine ev_iconst dt_Tr_weighSet_10 ?_
  refine tm_iastore dt_Tr_weighSet_11 hW trt4 (by omega) (by omega) (by omega) (by omega) (by omega) (fun w2 hWw2 kkw2 hfw2 => ?_)
  have hFw2 : ∀ (p : Nat) (j : Int), ¬ (p = (tr + 4) ∨ p = (tr + 5)) → tm_g w2 p j = tm_g w p j := fun p j h => (hfw2 p j (by omega)).trans (hF0 p j h)
  refine ev_iconst dt_Tr_weighSet_12 ?_
  refine ev_istore (l' := [_, _, _, _, _, _]) dt_Tr_weighSet_13 (Nat.le_of_ble_eq_true rfl) rfl ?_
  have L3 : ∀ (n : Nat) (i4 : Int)  (w5 : ab_W), tm_W N T w5 → (∀ (p : Nat) (j : Int), ¬ (p = (tr + 4) ∨ p = (tr + 5)) → tm_g w5 p j = tm_g w p j) → 0 ≤ i4 → i4 ≤ 7 → 7 - i4 < (n : Int) → ab_Ev g_G g_rs mt_Tr_weighSet 1 0 0 15 [some (ab_R tr), some (ab_I a), some (ab_I b), some (ab_I v1), some (ab_I i4), none] [] w5 (tm_Qv N T (fun w2 => (∀ (p : Nat) (j : Int), ¬ (p = (tr + 4) ∨ p = (tr + 5)) → tm_g w2 p j = tm_g w p j))) := by
    intro n
    induction n with
    | zero =>
      intro i4  w5 hWw5 hFw5 li4 ui4 mL3
      exfalso
      omega
    | succ nL3 ihL3 =>
      intro i4  w5 hWw5 hFw5 li4 ui4 mL3
      refine ev_iload dt_Tr_weighSet_15 rfl ?_
      refine ev_iload_n dt_Tr_weighSet_17 rfl rfl ?_
      refine ev_icmp_ge (tgt := 99) dt_Tr_weighSet_18 (by decide) (by omega) (by omega) (fun h6 => ?_) (fun h6 => ?_)
      · skip
        exact ev_return dt_Tr_weighSet_99 rfl ⟨hWw5, rfl, hFw5⟩
      · skip
        refine ev_aload_n dt_Tr_weighSet_21 rfl rfl ?_
        refine ev_iload_n dt_Tr_weighSet_22 rfl rfl ?_
        refine ev_iload dt_Tr_weighSet_23 rfl ?_
        refine ev_iload_n dt_Tr_weighSet_25 rfl rfl ?_
        refine tm_vp dt_Tr_weighSet_26 (tm_Tr_mayTake hWw5 h_tr (v1) (by omega) (by omega) (i4) (by omega) (by omega) (a) (by omega) (by omega)) kb_Tr_56 ⟨im_Tr_mayTake, se_Tr_mayTake⟩ rfl hWw5 trt0 rfl (Nat.le_of_ble_eq_true rfl) (by decide) (fun v7 hv7 => ?_)
        refine ev_if_eq (tgt := 93) dt_Tr_weighSet_29 (by decide) (by omega) (fun h8 => ?_) (fun h8 => ?_)
        · skip
          refine ev_iinc (l' := [_, _, _, _, _, _]) dt_Tr_weighSet_93 rfl rfl ?_
          refine ev_goto (tgt := 15) dt_Tr_weighSet_96 (by decide) ?_
          exact tm_loc (tm_le_s (tm_le_s (tm_le_s (tm_le_s (tm_le_s (tm_le_n tm_le_0)))))) (ihL3 ((i4 + 1)) w5 hWw5 hFw5 (by omega) (by omega) (by omega))
        · skip
          refine ev_aload_n dt_Tr_weighSet_32 rfl rfl ?_
          refine ev_iload_n dt_Tr_weighSet_33 rfl rfl ?_
          refine ev_iload dt_Tr_weighSet_34 rfl ?_
          refine ev_iload_n dt_Tr_weighSet_36 rfl rfl ?_
          refine tm_vp dt_Tr_weighSet_37 (tm_Tr_sumWith hWw5 h_tr (v1) (by omega) (by omega) (i4) (by omega) (by omega) (a) (by omega) (by omega)) kb_Tr_60 ⟨im_Tr_sumWith, se_Tr_sumWith⟩ rfl hWw5 trt0 rfl (Nat.le_of_ble_eq_true rfl) (by decide) (fun v9 hv9 => ?_)
          refine ev_istore (l' := [_, _, _, _, _, _]) dt_Tr_weighSet_40 (Nat.le_of_ble_eq_true rfl) rfl ?_
          refine ev_aload_n dt_Tr_weighSet_42 rfl rfl ?_
          refine tm_getR dt_Tr_weighSet_43 hWw5 trt0 fl_Tr_24 rfl ?_
          refine ev_iload_n dt_Tr_weighSet_46 rfl rfl ?_
          refine ev_aload_n dt_Tr_weighSet_47 rfl rfl ?_
          refine tm_getR dt_Tr_weighSet_48 hWw5 trt0 fl_Tr_21 rfl ?_
          refine ev_iload_n dt_Tr_weighSet_51 rfl rfl ?_
          refine tm_iaload dt_Tr_weighSet_52 hWw5 trt4 (by omega) (by omega) (by omega) (fun v10 kv10 lv10 uv10 => ?_)
          refine ev_if_ne (tgt := 61) dt_Tr_weighSet_53 (by decide) (by omega) (fun h11 => ?_) (fun h11 => ?_)
          · skip
            refine ev_aload_n dt_Tr_weighSet_61 rfl rfl ?_
            refine tm_getR dt_Tr_weighSet_62 hWw5 trt0 fl_Tr_24 rfl ?_
            refine ev_iload_n dt_Tr_weighSet_65 rfl rfl ?_
            refine tm_iaload dt_Tr_weighSet_66 hWw5 trt5 (by omega) (by omega) (by omega) (fun v12 kv12 lv12 uv12 => ?_)
            refine ev_iload dt_Tr_weighSet_67 rfl ?_
            refine tm_max (by omega) (by omega) dt_Tr_weighSet_69 mk_Tr_64 (Nat.le_of_ble_eq_true rfl) (by decide) (fun v13 x1 x2 x3 => ?_)
            have hv13 : (-2147483648) ≤ v13 ∧ v13 ≤ 2147483647 := by omega
            clear x1 x2 x3
            refine tm_iastore dt_Tr_weighSet_72 hWw5 trt5 (by omega) (by omega) (by omega) (by omega) (by omega) (fun w14 hWw14 kkw14 hfw14 => ?_)
            have hFw14 : ∀ (p : Nat) (j : Int), ¬ (p = (tr + 4) ∨ p = (tr + 5)) → tm_g w14 p j = tm_g w p j := fun p j h => (hfw14 p j (by omega)).trans (hFw5 p j h)
            refine ev_aload_n dt_Tr_weighSet_73 rfl rfl ?_
            refine tm_getR dt_Tr_weighSet_74 hWw14 trt0 fl_Tr_21 rfl ?_
            refine ev_iload_n dt_Tr_weighSet_77 rfl rfl ?_
            refine ev_dup2 dt_Tr_weighSet_78 rfl rfl ?_
            refine tm_iaload dt_Tr_weighSet_79 hWw14 trt4 (by omega) (by omega) (by omega) (fun v15 kv15 lv15 uv15 => ?_)
            refine ev_aload_n dt_Tr_weighSet_80 rfl rfl ?_
            refine tm_getR dt_Tr_weighSet_81 hWw14 trt0 fl_Tr_21 rfl ?_
            refine ev_iload_n dt_Tr_weighSet_84 rfl rfl ?_
            refine ev_iconst dt_Tr_weighSet_85 ?_
            refine ev_iload dt_Tr_weighSet_86 rfl ?_
            refine tm_shl1 dt_Tr_weighSet_88 (by omega) (by omega) (fun v16 x1 x2 x3 x4 => ?_)
            have hv16 : 1 ≤ v16 ∧ v16 ≤ 64 := by omega
            clear x1 x2 x3 x4
            refine tm_ior dt_Tr_weighSet_89 (fun v17 x1 x2 => ?_)
            have hv17 : 0 ≤ v17 ∧ v17 ≤ 127 := by omega
            clear x1 x2
            refine tm_iaload dt_Tr_weighSet_90 hWw14 trt4 (by omega) (by omega) (by omega) (fun v18 kv18 lv18 uv18 => ?_)
            refine ev_iadd dt_Tr_weighSet_91 ?_
            refine tm_any (fun v19 hv19 _ => ?_)
            refine tm_iastore dt_Tr_weighSet_92 hWw14 trt4 (by omega) (by omega) (by omega) (by omega) (by omega) (fun w20 hWw20 kkw20 hfw20 => ?_)
            have hFw20 : ∀ (p : Nat) (j : Int), ¬ (p = (tr + 4) ∨ p = (tr + 5)) → tm_g w20 p j = tm_g w p j := fun p j h => (hfw20 p j (by omega)).trans (hFw14 p j h)
            refine ev_iinc (l' := [_, _, _, _, _, _]) dt_Tr_weighSet_93 rfl rfl ?_
            refine ev_goto (tgt := 15) dt_Tr_weighSet_96 (by decide) ?_
            exact tm_loc (tm_le_s (tm_le_s (tm_le_s (tm_le_s (tm_le_s (tm_le_n tm_le_0)))))) (ihL3 ((i4 + 1)) w20 hWw20 hFw20 (by omega) (by omega) (by omega))
          · skip
            refine ev_iload dt_Tr_weighSet_56 rfl ?_
            refine ev_goto (tgt := 72) dt_Tr_weighSet_58 (by decide) ?_
            refine tm_iastore dt_Tr_weighSet_72 hWw5 trt5 (by omega) (by omega) (by omega) (by omega) (by omega) (fun w21 hWw21 kkw21 hfw21 => ?_)
            have hFw21 : ∀ (p : Nat) (j : Int), ¬ (p = (tr + 4) ∨ p = (tr + 5)) → tm_g w21 p j = tm_g w p j := fun p j h => (hfw21 p j (by omega)).trans (hFw5 p j h)
            refine ev_aload_n dt_Tr_weighSet_73 rfl rfl ?_
            refine tm_getR dt_Tr_weighSet_74 hWw21 trt0 fl_Tr_21 rfl ?_
            refine ev_iload_n dt_Tr_weighSet_77 rfl rfl ?_
            refine ev_dup2 dt_Tr_weighSet_78 rfl rfl ?_
            refine tm_iaload dt_Tr_weighSet_79 hWw21 trt4 (by omega) (by omega) (by omega) (fun v22 kv22 lv22 uv22 => ?_)
            refine ev_aload_n dt_Tr_weighSet_80 rfl rfl ?_
            refine tm_getR dt_Tr_weighSet_81 hWw21 trt0 fl_Tr_21 rfl ?_
            refine ev_iload_n dt_Tr_weighSet_84 rfl rfl ?_
            refine ev_iconst dt_Tr_weighSet_85 ?_
            refine ev_iload dt_Tr_weighSet_86 rfl ?_
            refine tm_shl1 dt_Tr_weighSet_88 (by omega) (by omega) (fun v23 x1 x2 x3 x4 => ?_)
            have hv23 : 1 ≤ v23 ∧ v23 ≤ 64 := by omega
            clear x1 x2 x3 x4
            refine tm_ior dt_Tr_weighSet_89 (fun v24 x1 x2 => ?_)
            have hv24 : 0 ≤ v24 ∧ v24 ≤ 127 := by omega
            clear x1 x2
            refine tm_iaload dt_Tr_weighSet_90 hWw21 trt4 (by omega) (by omega) (by omega) (fun v25 kv25 lv25 uv25 => ?_)
            refine ev_iadd dt_Tr_weighSet_91 ?_
            refine tm_any (fun v26 hv26 _ => ?_)
            refine tm_iastore dt_Tr_weighSet_92 hWw21 trt4 (by omega) (by omega) (by omega) (by omega) (by omega) (fun w27 hWw27 kkw27 hfw27 => ?_)
            have hFw27 : ∀ (p : Nat) (j : Int), ¬ (p = (tr + 4) ∨ p = (tr + 5)) → tm_g w27 p j = tm_g w p j := fun p j h => (hfw27 p j (by omega)).trans (hFw21 p j h)
            refine ev_iinc (l' := [_, _, _, _, _, _]) dt_Tr_weighSet_93 rfl rfl ?_
            refine ev_goto (tgt := 15) dt_Tr_weighSet_96 (by decide) ?_
            exact tm_loc (tm_le_s (tm_le_s (tm_le_s (tm_le_s (tm_le_s (tm_le_n tm_le_0)))))) (ihL3 ((i4 + 1)) w27 hWw27 hFw27 (by omega) (by omega) (by omega))
  exact tm_loc (tm_le_s (tm_le_s (tm_le_s (tm_le_s (tm_le_s (tm_le_n tm_le_0)))))) (L3 (7 - (0) + 1 : Int).toNat (0)  w2 hWw2 hFw2 (by omega) (by omega) (by omega))
theorem dt_Tr_findRows_0 : decode prog_12_method_2_code 0 = .ok (.aload_n 0, 1) := by decide +kernel
theorem dt_Tr_findRows_1 : decode prog_12_method_2_code 1 = .ok (.aload_n 1, 1) := by decide +kernel
theorem dt_Tr_findRows_2 : decode prog_12_method_2_code 2 = .ok (.invokevirtual 27, 3) := by decide +kernel
theorem dt_Tr_findRows_5 : decode prog_12_method_2_code 5 = .ok (.iconst 0, 1) := by decide +kernel
theorem dt_Tr_findRows_6 : decode prog_12_method_2_code 6 = .ok (.istore_n 2, 1) := by decide +kernel
theorem dt_Tr_findRows_7 : decode prog_12_method_2_code 7 = .ok (.iload_n 2, 1) := by decide +kernel
theorem dt_Tr_findRows_8 : decode prog_12_method_2_code 8 = .ok (.aload_n 1, 1) := by decide +kernel
theorem dt_Tr_findRows_9 : decode prog_12_method_2_code 9 = .ok (.getfield 31, 3) := by decide +kernel
theorem dt_Tr_findRows_12 : decode prog_12_method_2_code 12 = .ok (.if_icmp .ge 74, 3) := by decide +kernel
theorem dt_Tr_findRows_15 : decode prog_12_method_2_code 15 = .ok (.iconst 0, 1) := by decide +kernel
theorem dt_Tr_findRows_16 : decode prog_12_method_2_code 16 = .ok (.istore_n 3, 1) := by decide +kernel
theorem dt_Tr_findRows_17 : decode prog_12_method_2_code 17 = .ok (.iload_n 3, 1) := by decide +kernel
theorem dt_Tr_findRows_18 : decode prog_12_method_2_code 18 = .ok (.aload_n 1, 1) := by decide +kernel
theorem dt_Tr_findRows_19 : decode prog_12_method_2_code 19 = .ok (.getfield 31, 3) := by decide +kernel
theorem dt_Tr_findRows_22 : decode prog_12_method_2_code 22 = .ok (.if_icmp .ge 58, 3) := by decide +kernel
theorem dt_Tr_findRows_25 : decode prog_12_method_2_code 25 = .ok (.aload_n 1, 1) := by decide +kernel
theorem dt_Tr_findRows_26 : decode prog_12_method_2_code 26 = .ok (.iload_n 2, 1) := by decide +kernel
theorem dt_Tr_findRows_27 : decode prog_12_method_2_code 27 = .ok (.aload_n 0, 1) := by decide +kernel
theorem dt_Tr_findRows_28 : decode prog_12_method_2_code 28 = .ok (.getfield 9, 3) := by decide +kernel
theorem dt_Tr_findRows_31 : decode prog_12_method_2_code 31 = .ok (.iload_n 3, 1) := by decide +kernel
theorem dt_Tr_findRows_32 : decode prog_12_method_2_code 32 = .ok (.iaload, 1) := by decide +kernel
theorem dt_Tr_findRows_33 : decode prog_12_method_2_code 33 = .ok (.invokevirtual 37, 3) := by decide +kernel
theorem dt_Tr_findRows_36 : decode prog_12_method_2_code 36 = .ok (.istore 4, 2) := by decide +kernel
theorem dt_Tr_findRows_38 : decode prog_12_method_2_code 38 = .ok (.aload_n 0, 1) := by decide +kernel
theorem dt_Tr_findRows_39 : decode prog_12_method_2_code 39 = .ok (.getfield 15, 3) := by decide +kernel
theorem dt_Tr_findRows_42 : decode prog_12_method_2_code 42 = .ok (.iload_n 2, 1) := by decide +kernel
theorem dt_Tr_findRows_43 : decode prog_12_method_2_code 43 = .ok (.bipush 7, 2) := by decide +kernel
theorem dt_Tr_findRows_45 : decode prog_12_method_2_code 45 = .ok (.imul, 1) := by decide +kernel
theorem dt_Tr_findRows_46 : decode prog_12_method_2_code 46 = .ok (.iload_n 3, 1) := by decide +kernel
theorem dt_Tr_findRows_47 : decode prog_12_method_2_code 47 = .ok (.iadd, 1) := by decide +kernel
theorem dt_Tr_findRows_48 : decode prog_12_method_2_code 48 = .ok (.iload 4, 2) := by decide +kernel
theorem dt_Tr_findRows_50 : decode prog_12_method_2_code 50 = .ok (.iastore, 1) := by decide +kernel
theorem dt_Tr_findRows_51 : decode prog_12_method_2_code 51 = .ok (.aload_n 0, 1) := by decide +kernel
theorem dt_Tr_findRows_52 : decode prog_12_method_2_code 52 = .ok (.getfield 9, 3) := by decide +kernel
theorem dt_Tr_findRows_55 : decode prog_12_method_2_code 55 = .ok (.iload_n 3, 1) := by decide +kernel
theorem dt_Tr_findRows_56 : decode prog_12_method_2_code 56 = .ok (.iaload, 1) := by decide +kernel
theorem dt_Tr_findRows_57 : decode prog_12_method_2_code 57 = .ok (.aload_n 1, 1) := by decide +kernel
theorem dt_Tr_findRows_58 : decode prog_12_method_2_code 58 = .ok (.getfield 41, 3) := by decide +kernel
theorem dt_Tr_findRows_61 : decode prog_12_method_2_code 61 = .ok (.iload_n 2, 1) := by decide +kernel
theorem dt_Tr_findRows_62 : decode prog_12_method_2_code 62 = .ok (.iaload, 1) := by decide +kernel
theorem dt_Tr_findRows_63 : decode prog_12_method_2_code 63 = .ok (.if_icmp .ne 11, 3) := by decide +kernel
theorem dt_Tr_findRows_66 : decode prog_12_method_2_code 66 = .ok (.aload_n 0, 1) := by decide +kernel
theorem dt_Tr_findRows_67 : decode prog_12_method_2_code 67 = .ok (.getfield 18, 3) := by decide +kernel
theorem dt_Tr_findRows_70 : decode prog_12_method_2_code 70 = .ok (.iload_n 2, 1) := by decide +kernel
theorem dt_Tr_findRows_71 : decode prog_12_method_2_code 71 = .ok (.iload 4, 2) := by decide +kernel
theorem dt_Tr_findRows_73 : decode prog_12_method_2_code 73 = .ok (.iastore, 1) := by decide +kernel
theorem dt_Tr_findRows_74 : decode prog_12_method_2_code 74 = .ok (.iinc 3 1, 3) := by decide +kernel
theorem dt_Tr_findRows_77 : decode prog_12_method_2_code 77 = .ok (.goto (-60), 3) := by decide +kernel
theorem dt_Tr_findRows_80 : decode prog_12_method_2_code 80 = .ok (.iinc 2 1, 3) := by decide +kernel
theorem dt_Tr_findRows_83 : decode prog_12_method_2_code 83 = .ok (.goto (-76), 3) := by decide +kernel
theorem dt_Tr_findRows_86 : decode prog_12_method_2_code 86 = .ok (.iconst 1, 1) := by decide +kernel
theorem dt_Tr_findRows_87 : decode prog_12_method_2_code 87 = .ok (.aload_n 1, 1) := by decide +kernel
theorem dt_Tr_findRows_88 : decode prog_12_method_2_code 88 = .ok (.getfield 31, 3) := by decide +kernel
theorem dt_Tr_findRows_91 : decode prog_12_method_2_code 91 = .ok (.ishl, 1) := by decide +kernel
theorem dt_Tr_findRows_92 : decode prog_12_method_2_code 92 = .ok (.iconst 1, 1) := by decide +kernel
theorem dt_Tr_findRows_93 : decode prog_12_method_2_code 93 = .ok (.isub, 1) := by decide +kernel
theorem dt_Tr_findRows_94 : decode prog_12_method_2_code 94 = .ok (.istore_n 2, 1) := by decide +kernel
theorem dt_Tr_findRows_95 : decode prog_12_method_2_code 95 = .ok (.aload_n 0, 1) := by decide +kernel
theorem dt_Tr_findRows_96 : decode prog_12_method_2_code 96 = .ok (.getfield 21, 3) := by decide +kernel
theorem dt_Tr_findRows_99 : decode prog_12_method_2_code 99 = .ok (.iload_n 2, 1) := by decide +kernel
theorem dt_Tr_findRows_100 : decode prog_12_method_2_code 100 = .ok (.iconst 1, 1) := by decide +kernel
theorem dt_Tr_findRows_101 : decode prog_12_method_2_code 101 = .ok (.iastore, 1) := by decide +kernel
theorem dt_Tr_findRows_102 : decode prog_12_method_2_code 102 = .ok (.aload_n 0, 1) := by decide +kernel
theorem dt_Tr_findRows_103 : decode prog_12_method_2_code 103 = .ok (.getfield 24, 3) := by decide +kernel
theorem dt_Tr_findRows_106 : decode prog_12_method_2_code 106 = .ok (.iload_n 2, 1) := by decide +kernel
theorem dt_Tr_findRows_107 : decode prog_12_method_2_code 107 = .ok (.iconst 0, 1) := by decide +kernel
theorem dt_Tr_findRows_108 : decode prog_12_method_2_code 108 = .ok (.iastore, 1) := by decide +kernel
theorem dt_Tr_findRows_109 : decode prog_12_method_2_code 109 = .ok (.iload_n 2, 1) := by decide +kernel
theorem dt_Tr_findRows_110 : decode prog_12_method_2_code 110 = .ok (.iconst 1, 1) := by decide +kernel
theorem dt_Tr_findRows_111 : decode prog_12_method_2_code 111 = .ok (.isub, 1) := by decide +kernel
theorem dt_Tr_findRows_112 : decode prog_12_method_2_code 112 = .ok (.istore_n 3, 1) := by decide +kernel
theorem dt_Tr_findRows_113 : decode prog_12_method_2_code 113 = .ok (.iload_n 3, 1) := by decide +kernel
theorem dt_Tr_findRows_114 : decode prog_12_method_2_code 114 = .ok (.ifCond .lt 18, 3) := by decide +kernel
theorem dt_Tr_findRows_117 : decode prog_12_method_2_code 117 = .ok (.aload_n 0, 1) := by decide +kernel
theorem dt_Tr_findRows_118 : decode prog_12_method_2_code 118 = .ok (.iload_n 3, 1) := by decide +kernel
theorem dt_Tr_findRows_119 : decode prog_12_method_2_code 119 = .ok (.aload_n 1, 1) := by decide +kernel
theorem dt_Tr_findRows_120 : decode prog_12_method_2_code 120 = .ok (.getfield 31, 3) := by decide +kernel
theorem dt_Tr_findRows_123 : decode prog_12_method_2_code 123 = .ok (.invokevirtual 42, 3) := by decide +kernel
theorem dt_Tr_findRows_126 : decode prog_12_method_2_code 126 = .ok (.iinc 3 (-1), 3) := by decide +kernel
theorem dt_Tr_findRows_129 : decode prog_12_method_2_code 129 = .ok (.goto (-16), 3) := by decide +kernel
theorem dt_Tr_findRows_132 : decode prog_12_method_2_code 132 = .ok (.return_, 1) := by decide +kernel
set_option maxHeartbeats 4000000 in
set_option maxRecDepth 10000 in
theorem tm_Tr_findRows {N : Nat} {T : Nat → tm_S} {w : ab_W} {tr : Nat} {o : Nat} (hW : tm_W N T w) (h_tr : is_Tr T tr) (h_o : is_Ri T o) (ne_tr_o : tr + 6 ≤ o ∨ o + 13 ≤ tr) : ab_Mt g_G g_rs mt_Tr_findRows 3 0 0 [ab_R tr, ab_R o] w (tm_Qv N T (fun w2 => (∀ (p : Nat) (j : Int), ¬ (p = (tr + 1) ∨ p = (tr + 2) ∨ p = (tr + 3) ∨ p = (tr + 4) ∨ p = (tr + 5)) → tm_g w2 p j = tm_g w p j))) := by
  obtain ⟨trt0, trt1, trt2, trt3, trt4, trt5⟩ := id h_tr
  obtain ⟨ot0, ot1, ot2, ot3, ot4, ot5, ot6, ot7, ot8, ot9, ot10, ot11, ot12⟩ := id h_o
  have od := is_Ri.d h_o
  have hF0 : ∀ (p : Nat) (j : Int), ¬ (p = (tr + 1) ∨ p = (tr + 2) ∨ p = (tr + 3) ∨ p = (tr + 4) ∨ p = (tr + 5)) → tm_g w p j = tm_g w p j := fun _ _ _ => rfl
  refine ab_Mt.of rfl (Nat.le_of_ble_eq_true rfl) ?_
  show ab_Ev g_G g_rs mt_Tr_findRows _ _ _ 0 [some (ab_R tr), some (ab_R o), none, none, none] [] _ _
  refine ev_aload_n dt_Tr_findRows_0 rfl rfl ?_
  refine ev_aload_n dt_Tr_findRows_1 rfl rfl ?_
  refine tm_vv dt_Tr_findRows_2 (tm_Tr_sortSlots hW h_tr h_o (by omega)) kb_Tr_27 ⟨im_Tr_sortSlots, se_Tr_sortSlots⟩ rfl hW trt0 rfl (Nat.le_of_ble_eq_true rfl) (by decide) (fun w28 hWw28 hRw28 => ?_)
  have hfw28 := hRw28
  have hFw28 : ∀ (p : Nat) (j : Int), ¬ (p = (tr + 1) ∨ p = (tr + 2) ∨ p = (tr + 3) ∨ p = (tr + 4) ∨ p = (tr + 5)) → tm_g w28 p j = tm_g w p j := fun p j h => (hfw28 p j (by omega)).trans (hF0 p j h)
  refine ev_iconst dt_Tr_findRows_5 ?_
  refine ev_istore_n (l' := [_, _, _, _, _]) dt_Tr_findRows_6 rfl (Nat.le_of_ble_eq_true rfl) rfl ?_
  have L29 : ∀ (n : Nat) (i30 : Int)  (w31 : ab_W), tm_W N T w31 → (∀ (p : Nat) (j : Int), ¬ (p = (tr + 1) ∨ p = (tr + 2) ∨ p = (tr + 3) ∨ p = (tr + 4) ∨ p = (tr + 5)) → tm_g w31 p j = tm_g w p j) → 0 ≤ i30 → i30 ≤ 7 → 7 - i30 < (n : Int) → ab_Ev g_G g_rs mt_Tr_findRows 3 0 0 7 [some (ab_R tr), some (ab_R o), some (ab_I i30), none, none] [] w31 (tm_Qv N T (fun w2 => (∀ (p : Nat) (j : Int), ¬ (p = (tr + 1) ∨ p = (tr + 2) ∨ p = (tr + 3) ∨ p = (tr + 4) ∨ p = (tr + 5)) → tm_g w2 p j = tm_g w p j))) := by
    intro n
    induction n with
    | zero =>
      intro i30  w31 hWw31 hFw31 li30 ui30 mL29
      exfalso
      omega
    | succ nL29 ihL29 =>
      intro i30  w31 hWw31 hFw31 li30 ui30 mL29
      refine ev_iload_n dt_Tr_findRows_7 rfl rfl ?_
      refine ev_aload_n dt_Tr_findRows_8 rfl rfl ?_
      refine tm_getI (K := 7) dt_Tr_findRows_9 hWw31 ot0 fl_Tr_31 rfl rfl (fun v32 kv32 lv32 uv32 => ?_)
      have z33 := (hFw31 o 7 (by omega)).symm.trans kv32
      refine ev_icmp_ge (tgt := 86) dt_Tr_findRows_12 (by decide) (by omega) (by omega) (fun h34 => ?_) (fun h34 => ?_)
      · skip
        refine ev_iconst dt_Tr_findRows_86 ?_
        refine ev_aload_n dt_Tr_findRows_87 rfl rfl ?_
        refine tm_getK (K := 7) dt_Tr_findRows_88 hWw31 ot0 fl_Tr_31 rfl ((hFw31 o 7 (by omega)).trans z33) ?_
        refine tm_shl1 dt_Tr_findRows_91 (by omega) (by omega) (fun v35 x1 x2 x3 x4 => ?_)
        have hv35 : 1 ≤ v35 ∧ v35 ≤ 128 := by omega
        clear x1 x2 x3 x4
        refine ev_iconst dt_Tr_findRows_92 ?_
        refine ev_isub dt_Tr_findRows_93 ?_
        refine ev_istore_n (l' := [_, _, _, _, _]) dt_Tr_findRows_94 rfl (Nat.le_of_ble_eq_true rfl) rfl ?_
        refine ev_aload_n dt_Tr_findRows_95 rfl rfl ?_
        refine tm_getR dt_Tr_findRows_96 hWw31 trt0 fl_Tr_21 rfl ?_
        refine ev_iload_n dt_Tr_findRows_99 rfl rfl ?_
        refine ev_iconst dt_Tr_findRows_100 ?_
        refine tm_iastore dt_Tr_findRows_101 hWw31 trt4 (by omega) (by omega) (by omega) (by omega) (by omega) (fun w36 hWw36 kkw36 hfw36 => ?_)
        have hFw36 : ∀ (p : Nat) (j : Int), ¬ (p = (tr + 1) ∨ p = (tr + 2) ∨ p = (tr + 3) ∨ p = (tr + 4) ∨ p = (tr + 5)) → tm_g w36 p j = tm_g w p j := fun p j h => (hfw36 p j (by omega)).trans (hFw31 p j h)
        refine ev_aload_n dt_Tr_findRows_102 rfl rfl ?_
        refine tm_getR dt_Tr_findRows_103 hWw36 trt0 fl_Tr_24 rfl ?_
        refine ev_iload_n dt_Tr_findRows_106 rfl rfl ?_
        refine ev_iconst dt_Tr_findRows_107 ?_
        refine tm_iastore dt_Tr_findRows_108 hWw36 trt5 (by omega) (by omega) (by omega) (by omega) (by omega) (fun w37 hWw37 kkw37 hfw37 => ?_)
        have hFw37 : ∀ (p : Nat) (j : Int), ¬ (p = (tr + 1) ∨ p = (tr + 2) ∨ p = (tr + 3) ∨ p = (tr + 4) ∨ p = (tr + 5)) → tm_g w37 p j = tm_g w p j := fun p j h => (hfw37 p j (by omega)).trans (hFw36 p j h)
        refine ev_iload_n dt_Tr_findRows_109 rfl rfl ?_
        refine ev_iconst dt_Tr_findRows_110 ?_
        refine ev_isub dt_Tr_findRows_111 ?_
        refine ev_istore_n (l' := [_, _, _, _, _]) dt_Tr_findRows_112 rfl (Nat.le_of_ble_eq_true rfl) rfl ?_
        have L38 : ∀ (n : Nat) (i39 : Int)  (w40 : ab_W), tm_W N T w40 → (∀ (p : Nat) (j : Int), ¬ (p = (tr + 1) ∨ p = (tr + 2) ∨ p = (tr + 3) ∨ p = (tr + 4) ∨ p = (tr + 5)) → tm_g w40 p j = tm_g w p j) → (-1) ≤ i39 → i39 ≤ 126 → i39 - (-1) < (n : Int) → ab_Ev g_G g_rs mt_Tr_findRows 3 0 0 113 [some (ab_R tr), some (ab_R o), none, some (ab_I i39), none] [] w40 (tm_Qv N T (fun w2 => (∀ (p : Nat) (j : Int), ¬ (p = (tr + 1) ∨ p = (tr + 2) ∨ p = (tr + 3) ∨ p = (tr + 4) ∨ p = (tr + 5)) → tm_g w2 p j = tm_g w p j))) := by
          intro n
          induction n with
          | zero =>
            intro i39  w40 hWw40 hFw40 li39 ui39 mL38
            exfalso
            omega
          | succ nL38 ihL38 =>
            intro i39  w40 hWw40 hFw40 li39 ui39 mL38
            refine ev_iload_n dt_Tr_findRows_113 rfl rfl ?_
            refine ev_if_lt (tgt := 132) dt_Tr_findRows_114 (by decide) (by omega) (fun h41 => ?_) (fun h41 => ?_)
            · skip
              exact ev_return dt_Tr_findRows_132 rfl ⟨hWw40, rfl, hFw40⟩
            · skip
              refine ev_aload_n dt_Tr_findRows_117 rfl rfl ?_
              refine ev_iload_n dt_Tr_findRows_118 rfl rfl ?_
              refine ev_aload_n dt_Tr_findRows_119 rfl rfl ?_
              refine tm_getK (K := 7) dt_Tr_findRows_120 hWw40 ot0 fl_Tr_31 rfl ((hFw40 o 7 (by omega)).trans z33) ?_
              refine tm_vv dt_Tr_findRows_123 (tm_Tr_weighSet hWw40 h_tr (i39) (by omega) (by omega) (v32) (by omega) (by omega)) kb_Tr_42 ⟨im_Tr_weighSet, se_Tr_weighSet⟩ rfl hWw40 trt0 rfl (Nat.le_of_ble_eq_true rfl) (by decide) (fun w42 hWw42 hRw42 => ?_)
              have hfw42 := hRw42
              have hFw42 : ∀ (p : Nat) (j : Int), ¬ (p = (tr + 1) ∨ p = (tr + 2) ∨ p = (tr + 3) ∨ p = (tr + 4) ∨ p = (tr + 5)) → tm_g w42 p j = tm_g w p j := fun p j h => (hfw42 p j (by omega)).trans (hFw40 p j h)
              refine ev_iinc (l' := [_, _, _, _, _]) dt_Tr_findRows_126 rfl rfl ?_
              refine ev_goto (tgt := 113) dt_Tr_findRows_129 (by decide) ?_
              exact tm_loc (tm_le_s (tm_le_s (tm_le_n (tm_le_s (tm_le_n tm_le_0))))) (ihL38 ((i39 + (-1))) w42 hWw42 hFw42 (by omega) (by omega) (by omega))
        exact tm_loc (tm_le_s (tm_le_s (tm_le_n (tm_le_s (tm_le_n tm_le_0))))) (L38 ((((v35 - 1) - 1)) - (-1) + 1 : Int).toNat (((v35 - 1) - 1))  w37 hWw37 hFw37 (by omega) (by omega) (by omega))
      · skip
        refine ev_iconst dt_Tr_findRows_15 ?_
        refine ev_istore_n (l' := [_, _, _, _, _]) dt_Tr_findRows_16 rfl (Nat.le_of_ble_eq_true rfl) rfl ?_
        have L43 : ∀ (n : Nat) (i44 : Int)  (w45 : ab_W), tm_W N T w45 → (∀ (p : Nat) (j : Int), ¬ (p = (tr + 1) ∨ p = (tr + 2) ∨ p = (tr + 3) ∨ p = (tr + 4) ∨ p = (tr + 5)) → tm_g w45 p j = tm_g w p j) → 0 ≤ i44 → i44 ≤ 7 → 7 - i44 < (n : Int) → ab_Ev g_G g_rs mt_Tr_findRows 3 0 0 17 [some (ab_R tr), some (ab_R o), some (ab_I i30), some (ab_I i44), none] [] w45 (tm_Qv N T (fun w2 => (∀ (p : Nat) (j : Int), ¬ (p = (tr + 1) ∨ p = (tr + 2) ∨ p = (tr + 3) ∨ p = (tr + 4) ∨ p = (tr + 5)) → tm_g w2 p j = tm_g w p j))) := by
          intro n
          induction n with
          | zero =>
            intro i44  w45 hWw45 hFw45 li44 ui44 mL43
            exfalso
            omega
          | succ nL43 ihL43 =>
            intro i44  w45 hWw45 hFw45 li44 ui44 mL43
            refine ev_iload_n dt_Tr_findRows_17 rfl rfl ?_
            refine ev_aload_n dt_Tr_findRows_18 rfl rfl ?_
            refine tm_getK (K := 7) dt_Tr_findRows_19 hWw45 ot0 fl_Tr_31 rfl ((hFw45 o 7 (by omega)).trans z33) ?_
            refine ev_icmp_ge (tgt := 80) dt_Tr_findRows_22 (by decide) (by omega) (by omega) (fun h46 => ?_) (fun h46 => ?_)
            · skip
              refine ev_iinc (l' := [_, _, _, _, _]) dt_Tr_findRows_80 rfl rfl ?_
              refine ev_goto (tgt := 7) dt_Tr_findRows_83 (by decide) ?_
              exact tm_loc (tm_le_s (tm_le_s (tm_le_s (tm_le_n (tm_le_n tm_le_0))))) (ihL29 ((i30 + 1)) w45 hWw45 hFw45 (by omega) (by omega) (by omega))
            · skip
              refine ev_aload_n dt_Tr_findRows_25 rfl rfl ?_
              refine ev_iload_n dt_Tr_findRows_26 rfl rfl ?_
              refine ev_aload_n dt_Tr_findRows_27 rfl rfl ?_
              refine tm_getR dt_Tr_findRows_28 hWw45 trt0 fl_Tr_9 rfl ?_
              refine ev_iload_n dt_Tr_findRows_31 rfl rfl ?_
              refine tm_iaload dt_Tr_findRows_32 hWw45 trt1 (by omega) (by omega) (by omega) (fun v47 kv47 lv47 uv47 => ?_)
              refine tm_vp dt_Tr_findRows_33 (tm_Ri_dayIn hWw45 h_o (i30) (by omega) (by omega) (v47) (by omega) (by omega)) kb_Tr_37 ⟨im_Ri_dayIn, se_Ri_dayIn⟩ rfl hWw45 ot0 rfl (Nat.le_of_ble_eq_true rfl) (by decide) (fun v48 hv48 => ?_)
              refine ev_istore (l' := [_, _, _, _, _]) dt_Tr_findRows_36 (Nat.le_of_ble_eq_true rfl) rfl ?_
              refine ev_aload_n dt_Tr_findRows_38 rfl rfl ?_
              refine tm_getR dt_Tr_findRows_39 hWw45 trt0 fl_Tr_15 rfl ?_
              refine ev_iload_n dt_Tr_findRows_42 rfl rfl ?_
              refine ev_bipush dt_Tr_findRows_43 rfl ?_
              refine ev_imul dt_Tr_findRows_45 ?_
              refine ev_iload_n dt_Tr_findRows_46 rfl rfl ?_
              refine ev_iadd dt_Tr_findRows_47 ?_
              refine ev_iload dt_Tr_findRows_48 rfl ?_
              refine tm_iastore dt_Tr_findRows_50 hWw45 trt2 (by omega) (by omega) (by omega) (by omega) (by omega) (fun w49 hWw49 kkw49 hfw49 => ?_)
              have hFw49 : ∀ (p : Nat) (j : Int), ¬ (p = (tr + 1) ∨ p = (tr + 2) ∨ p = (tr + 3) ∨ p = (tr + 4) ∨ p = (tr + 5)) → tm_g w49 p j = tm_g w p j := fun p j h => (hfw49 p j (by omega)).trans (hFw45 p j h)
              refine ev_aload_n dt_Tr_findRows_51 rfl rfl ?_
              refine tm_getR dt_Tr_findRows_52 hWw49 trt0 fl_Tr_9 rfl ?_
              refine ev_iload_n dt_Tr_findRows_55 rfl rfl ?_
              refine tm_iaload dt_Tr_findRows_56 hWw49 trt1 (by omega) (by omega) (by omega) (fun v50 kv50 lv50 uv50 => ?_)
              refine ev_aload_n dt_Tr_findRows_57 rfl rfl ?_
              refine tm_getR dt_Tr_findRows_58 hWw49 ot0 fl_Tr_41 rfl ?_
              refine ev_iload_n dt_Tr_findRows_61 rfl rfl ?_
              refine tm_iaload dt_Tr_findRows_62 hWw49 ot1 (by omega) (by omega) (by omega) (fun v51 kv51 lv51 uv51 => ?_)
              refine ev_icmp_ne (tgt := 74) dt_Tr_findRows_63 (by decide) (by omega) (by omega) (fun h52 => ?_) (fun h52 => ?_)
              · skip
                refine ev_iinc (l' := [_, _, _, _, _]) dt_Tr_findRows_74 rfl rfl ?_
                refine ev_goto (tgt := 17) dt_Tr_findRows_77 (by decide) ?_
                exact tm_loc (tm_le_s (tm_le_s (tm_le_s (tm_le_s (tm_le_n tm_le_0))))) (ihL43 ((i44 + 1)) w49 hWw49 hFw49 (by omega) (by omega) (by omega))
              · skip
                refine ev_aload_n dt_Tr_findRows_66 rfl rfl ?_
                refine tm_getR dt_Tr_findRows_67 hWw49 trt0 fl_Tr_18 rfl ?_
                refine ev_iload_n dt_Tr_findRows_70 rfl rfl ?_
                refine ev_iload dt_Tr_findRows_71 rfl ?_
                refine tm_iastore dt_Tr_findRows_73 hWw49 trt3 (by omega) (by omega) (by omega) (by omega) (by omega) (fun w53 hWw53 kkw53 hfw53 => ?_)
                have hFw53 : ∀ (p : Nat) (j : Int), ¬ (p = (tr + 1) ∨ p = (tr + 2) ∨ p = (tr + 3) ∨ p = (tr + 4) ∨ p = (tr + 5)) → tm_g w53 p j = tm_g w p j := fun p j h => (hfw53 p j (by omega)).trans (hFw49 p j h)
                refine ev_iinc (l' := [_, _, _, _, _]) dt_Tr_findRows_74 rfl rfl ?_
                refine ev_goto (tgt := 17) dt_Tr_findRows_77 (by decide) ?_
                exact tm_loc (tm_le_s (tm_le_s (tm_le_s (tm_le_s (tm_le_n tm_le_0))))) (ihL43 ((i44 + 1)) w53 hWw53 hFw53 (by omega) (by omega) (by omega))
        exact tm_loc (tm_le_s (tm_le_s (tm_le_s (tm_le_s (tm_le_n tm_le_0))))) (L43 (7 - (0) + 1 : Int).toNat (0)  w31 hWw31 hFw31 (by omega) (by omega) (by omega))
  exact tm_loc (tm_le_s (tm_le_s (tm_le_s (tm_le_n (tm_le_n tm_le_0))))) (L29 (7 - (0) + 1 : Int).toNat (0)  w28 hWw28 hFw28 (by omega) (by omega) (by omega))
