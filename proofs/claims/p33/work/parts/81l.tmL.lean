theorem dt_Ac_forget_0 : decode prog_2_method_2_code 0 = .ok (.aload_n 0, 1) := by decide +kernel
theorem dt_Ac_forget_1 : decode prog_2_method_2_code 1 = .ok (.iconst 0, 1) := by decide +kernel
theorem dt_Ac_forget_2 : decode prog_2_method_2_code 2 = .ok (.putfield 19, 3) := by decide +kernel
theorem dt_Ac_forget_5 : decode prog_2_method_2_code 5 = .ok (.return_, 1) := by decide +kernel
set_option maxHeartbeats 4000000 in
set_option maxRecDepth 10000 in
theorem tm_Ac_forget {N : Nat} {T : Nat → tm_S} {w : ab_W} {ac : Nat} (hW : tm_W N T w) (h_ac : is_Ac T ac) : ab_Mt g_G g_rs mt_Ac_forget 0 0 0 [ab_R ac] w (tm_Qv N T (fun w2 => (∀ (p : Nat) (j : Int), ¬ ((p = ac ∧ (j = 3))) → tm_g w2 p j = tm_g w p j))) := by
  obtain ⟨act0, act1, act2, act3⟩ := id h_ac
  have hF0 : ∀ (p : Nat) (j : Int), ¬ ((p = ac ∧ (j = 3))) → tm_g w p j = tm_g w p j := fun _ _ _ => rfl
  refine ab_Mt.of rfl (Nat.le_of_ble_eq_true rfl) ?_
  show ab_Ev g_G g_rs mt_Ac_forget _ _ _ 0 [some (ab_R ac)] [] _ _
  refine ev_aload_n dt_Ac_forget_0 rfl rfl ?_
  refine ev_iconst dt_Ac_forget_1 ?_
  refine tm_putI (K := 3) dt_Ac_forget_2 hW act0 (fp_Ac_19 _) rfl rfl trivial (by omega) (by omega) (fun w1 hWw1 kkw1 hfw1 => ?_)
  have hFw1 : ∀ (p : Nat) (j : Int), ¬ ((p = ac ∧ (j = 3))) → tm_g w1 p j = tm_g w p j := fun p j h => (hfw1 p j (by omega)).trans (hF0 p j h)
  exact ev_return dt_Ac_forget_5 rfl ⟨hWw1, rfl, hFw1⟩
theorem dt_Ac_keep_0 : decode prog_2_method_3_code 0 = .ok (.aload_n 0, 1) := by decide +kernel
theorem dt_Ac_keep_1 : decode prog_2_method_3_code 1 = .ok (.getfield 9, 3) := by decide +kernel
theorem dt_Ac_keep_4 : decode prog_2_method_3_code 4 = .ok (.aload_n 0, 1) := by decide +kernel
theorem dt_Ac_keep_5 : decode prog_2_method_3_code 5 = .ok (.getfield 23, 3) := by decide +kernel
theorem dt_Ac_keep_8 : decode prog_2_method_3_code 8 = .ok (.iload_n 1, 1) := by decide +kernel
theorem dt_Ac_keep_9 : decode prog_2_method_3_code 9 = .ok (.iastore, 1) := by decide +kernel
theorem dt_Ac_keep_10 : decode prog_2_method_3_code 10 = .ok (.aload_n 0, 1) := by decide +kernel
theorem dt_Ac_keep_11 : decode prog_2_method_3_code 11 = .ok (.getfield 13, 3) := by decide +kernel
theorem dt_Ac_keep_14 : decode prog_2_method_3_code 14 = .ok (.aload_n 0, 1) := by decide +kernel
theorem dt_Ac_keep_15 : decode prog_2_method_3_code 15 = .ok (.getfield 23, 3) := by decide +kernel
theorem dt_Ac_keep_18 : decode prog_2_method_3_code 18 = .ok (.iload_n 2, 1) := by decide +kernel
theorem dt_Ac_keep_19 : decode prog_2_method_3_code 19 = .ok (.iastore, 1) := by decide +kernel
theorem dt_Ac_keep_20 : decode prog_2_method_3_code 20 = .ok (.aload_n 0, 1) := by decide +kernel
theorem dt_Ac_keep_21 : decode prog_2_method_3_code 21 = .ok (.getfield 16, 3) := by decide +kernel
theorem dt_Ac_keep_24 : decode prog_2_method_3_code 24 = .ok (.aload_n 0, 1) := by decide +kernel
theorem dt_Ac_keep_25 : decode prog_2_method_3_code 25 = .ok (.getfield 23, 3) := by decide +kernel
theorem dt_Ac_keep_28 : decode prog_2_method_3_code 28 = .ok (.iload_n 3, 1) := by decide +kernel
theorem dt_Ac_keep_29 : decode prog_2_method_3_code 29 = .ok (.iastore, 1) := by decide +kernel
theorem dt_Ac_keep_30 : decode prog_2_method_3_code 30 = .ok (.aload_n 0, 1) := by decide +kernel
theorem dt_Ac_keep_31 : decode prog_2_method_3_code 31 = .ok (.aload_n 0, 1) := by decide +kernel
theorem dt_Ac_keep_32 : decode prog_2_method_3_code 32 = .ok (.getfield 23, 3) := by decide +kernel
theorem dt_Ac_keep_35 : decode prog_2_method_3_code 35 = .ok (.iconst 1, 1) := by decide +kernel
theorem dt_Ac_keep_36 : decode prog_2_method_3_code 36 = .ok (.iadd, 1) := by decide +kernel
theorem dt_Ac_keep_37 : decode prog_2_method_3_code 37 = .ok (.bipush 20, 2) := by decide +kernel
theorem dt_Ac_keep_39 : decode prog_2_method_3_code 39 = .ok (.irem, 1) := by decide +kernel
theorem dt_Ac_keep_40 : decode prog_2_method_3_code 40 = .ok (.putfield 23, 3) := by decide +kernel
theorem dt_Ac_keep_43 : decode prog_2_method_3_code 43 = .ok (.aload_n 0, 1) := by decide +kernel
theorem dt_Ac_keep_44 : decode prog_2_method_3_code 44 = .ok (.aload_n 0, 1) := by decide +kernel
theorem dt_Ac_keep_45 : decode prog_2_method_3_code 45 = .ok (.getfield 19, 3) := by decide +kernel
theorem dt_Ac_keep_48 : decode prog_2_method_3_code 48 = .ok (.iconst 1, 1) := by decide +kernel
theorem dt_Ac_keep_49 : decode prog_2_method_3_code 49 = .ok (.iadd, 1) := by decide +kernel
theorem dt_Ac_keep_50 : decode prog_2_method_3_code 50 = .ok (.bipush 20, 2) := by decide +kernel
theorem dt_Ac_keep_52 : decode prog_2_method_3_code 52 = .ok (.invokestatic 26, 3) := by decide +kernel
theorem dt_Ac_keep_55 : decode prog_2_method_3_code 55 = .ok (.putfield 19, 3) := by decide +kernel
theorem dt_Ac_keep_58 : decode prog_2_method_3_code 58 = .ok (.return_, 1) := by decide +kernel
set_option maxHeartbeats 4000000 in
set_option maxRecDepth 10000 in
theorem tm_Ac_keep {N : Nat} {T : Nat → tm_S} {w : ab_W} {ac : Nat} (hW : tm_W N T w) (h_ac : is_Ac T ac) (a : Int) (l_a : 0 ≤ a) (u_a : a ≤ 3) (b : Int) (l_b : (-2147483648) ≤ b) (u_b : b ≤ 2147483647) (c : Int) (l_c : (-2147483648) ≤ c) (u_c : c ≤ 2147483647) (hA : ac_ok w ac) (hk1 : a = 1 → 0 ≤ b ∧ b ≤ 23) (hk2 : a = 2 → 0 ≤ b ∧ b ≤ 6 ∧ 0 ≤ c ∧ c ≤ 6) : ab_Mt g_G g_rs mt_Ac_keep 1 0 0 [ab_R ac, ab_I a, ab_I b, ab_I c] w (tm_Qv N T (fun w2 => (∀ (p : Nat) (j : Int), ¬ (p = (ac + 1) ∨ p = (ac + 2) ∨ p = (ac + 3) ∨ (p = ac ∧ (j = 4 ∨ j = 3))) → tm_g w2 p j = tm_g w p j) ∧ (ac_ok w2 ac))) := by
  obtain ⟨act0, act1, act2, act3⟩ := id h_ac
  have hF0 : ∀ (p : Nat) (j : Int), ¬ (p = (ac + 1) ∨ p = (ac + 2) ∨ p = (ac + 3) ∨ (p = ac ∧ (j = 4 ∨ j = 3))) → tm_g w p j = tm_g w p j := fun _ _ _ => rfl
  refine ab_Mt.of rfl (Nat.le_of_ble_eq_true rfl) ?_
  show ab_Ev g_G g_rs mt_Ac_keep _ _ _ 0 [some (ab_R ac), some (ab_I a), some (ab_I b), some (ab_I c)] [] _ _
  refine ev_aload_n dt_Ac_keep_0 rfl rfl ?_
  refine tm_getR dt_Ac_keep_1 hW act0 fl_Ac_9 rfl ?_
  refine ev_aload_n dt_Ac_keep_4 rfl rfl ?_
  refine tm_getI (K := 4) dt_Ac_keep_5 hW act0 fl_Ac_23 rfl rfl (fun v2 kv2 lv2 uv2 => ?_)
  refine ev_iload_n dt_Ac_keep_8 rfl rfl ?_
  refine tm_iastore dt_Ac_keep_9 hW act1 (by omega) (by omega) (by omega) (by omega) (by omega) (fun w3 hWw3 kkw3 hfw3 => ?_)
  have hFw3 : ∀ (p : Nat) (j : Int), ¬ (p = (ac + 1) ∨ p = (ac + 2) ∨ p = (ac + 3) ∨ (p = ac ∧ (j = 4 ∨ j = 3))) → tm_g w3 p j = tm_g w p j := fun p j h => (hfw3 p j (by omega)).trans (hF0 p j h)
  have z4 := (hfw3 ac 4 (by omega)).trans kv2
  refine ev_aload_n dt_Ac_keep_10 rfl rfl ?_
  refine tm_getR dt_Ac_keep_11 hWw3 act0 fl_Ac_13 rfl ?_
  refine ev_aload_n dt_Ac_keep_14 rfl rfl ?_
  refine tm_getK (K := 4) dt_Ac_keep_15 hWw3 act0 fl_Ac_23 rfl z4 ?_
  refine ev_iload_n dt_Ac_keep_18 rfl rfl ?_
  refine tm_iastore dt_Ac_keep_19 hWw3 act2 (by omega) (by omega) (by omega) (by omega) (by omega) (fun w5 hWw5 kkw5 hfw5 => ?_)
  have hFw5 : ∀ (p : Nat) (j : Int), ¬ (p = (ac + 1) ∨ p = (ac + 2) ∨ p = (ac + 3) ∨ (p = ac ∧ (j = 4 ∨ j = 3))) → tm_g w5 p j = tm_g w p j := fun p j h => (hfw5 p j (by omega)).trans (hFw3 p j h)
  have z6 := (hfw5 ac 4 (by omega)).trans z4
  refine ev_aload_n dt_Ac_keep_20 rfl rfl ?_
  refine tm_getR dt_Ac_keep_21 hWw5 act0 fl_Ac_16 rfl ?_
  refine ev_aload_n dt_Ac_keep_24 rfl rfl ?_
  refine tm_getK (K := 4) dt_Ac_keep_25 hWw5 act0 fl_Ac_23 rfl z6 ?_
  refine ev_iload_n dt_Ac_keep_28 rfl rfl ?_
  refine tm_iastore dt_Ac_keep_29 hWw5 act3 (by omega) (by omega) (by omega) (by omega) (by omega) (fun w7 hWw7 kkw7 hfw7 => ?_)
  have hFw7 : ∀ (p : Nat) (j : Int), ¬ (p = (ac + 1) ∨ p = (ac + 2) ∨ p = (ac + 3) ∨ (p = ac ∧ (j = 4 ∨ j = 3))) → tm_g w7 p j = tm_g w p j := fun p j h => (hfw7 p j (by omega)).trans (hFw5 p j h)
  have z8 := (hfw7 ac 4 (by omega)).trans z6
  refine ev_aload_n dt_Ac_keep_30 rfl rfl ?_
  refine ev_aload_n dt_Ac_keep_31 rfl rfl ?_
  refine tm_getK (K := 4) dt_Ac_keep_32 hWw7 act0 fl_Ac_23 rfl z8 ?_
  refine ev_iconst dt_Ac_keep_35 ?_
  refine ev_iadd dt_Ac_keep_36 ?_
  refine ev_bipush dt_Ac_keep_37 rfl ?_
  refine tm_irem dt_Ac_keep_39 (by omega) (by omega) (by omega) (fun v9 x1 x2 x3 x4 => ?_)
  have hv9 : 0 ≤ v9 ∧ v9 ≤ 19 := by omega
  clear x1 x2 x3 x4
  refine tm_putI (K := 4) dt_Ac_keep_40 hWw7 act0 (fp_Ac_23 _) rfl rfl trivial (by omega) (by omega) (fun w10 hWw10 kkw10 hfw10 => ?_)
  have hFw10 : ∀ (p : Nat) (j : Int), ¬ (p = (ac + 1) ∨ p = (ac + 2) ∨ p = (ac + 3) ∨ (p = ac ∧ (j = 4 ∨ j = 3))) → tm_g w10 p j = tm_g w p j := fun p j h => (hfw10 p j (by omega)).trans (hFw7 p j h)
  refine ev_aload_n dt_Ac_keep_43 rfl rfl ?_
  refine ev_aload_n dt_Ac_keep_44 rfl rfl ?_
  refine tm_getI (K := 3) dt_Ac_keep_45 hWw10 act0 fl_Ac_19 rfl rfl (fun v11 kv11 lv11 uv11 => ?_)
  refine ev_iconst dt_Ac_keep_48 ?_
  refine ev_iadd dt_Ac_keep_49 ?_
  refine ev_bipush dt_Ac_keep_50 rfl ?_
  refine tm_min (by omega) (by omega) dt_Ac_keep_52 mk_Ac_26 (Nat.le_of_ble_eq_true rfl) (by decide) (fun v12 x1 x2 x3 => ?_)
  have hv12 : 1 ≤ v12 ∧ v12 ≤ 20 := by omega
  clear x1 x2 x3
  refine tm_putI (K := 3) dt_Ac_keep_55 hWw10 act0 (fp_Ac_19 _) rfl rfl trivial (by omega) (by omega) (fun w13 hWw13 kkw13 hfw13 => ?_)
  have hFw13 : ∀ (p : Nat) (j : Int), ¬ (p = (ac + 1) ∨ p = (ac + 2) ∨ p = (ac + 3) ∨ (p = ac ∧ (j = 4 ∨ j = 3))) → tm_g w13 p j = tm_g w p j := fun p j h => (hfw13 p j (by omega)).trans (hFw10 p j h)
  have z14 := (hfw13 ac 4 (by omega)).trans kkw10
  exact ev_return dt_Ac_keep_58 rfl ⟨hWw13, rfl, ⟨hFw13, ac_keep hA (fun k hk => (((((hfw13 (ac + 1) k (by omega)).trans (hfw10 (ac + 1) k (by omega))).trans (hfw7 (ac + 1) k (by omega))).trans (hfw5 (ac + 1) k (by omega))).trans (hfw3 (ac + 1) k (by omega)))) (fun k hk => (((((hfw13 (ac + 2) k (by omega)).trans (hfw10 (ac + 2) k (by omega))).trans (hfw7 (ac + 2) k (by omega))).trans (hfw5 (ac + 2) k (by omega))).trans (hfw3 (ac + 2) k (by omega)))) (fun k hk => (((((hfw13 (ac + 3) k (by omega)).trans (hfw10 (ac + 3) k (by omega))).trans (hfw7 (ac + 3) k (by omega))).trans (hfw5 (ac + 3) k (by omega))).trans (hfw3 (ac + 3) k (by omega)))) (((((hfw13 (ac + 1) v2 (by omega)).trans (hfw10 (ac + 1) v2 (by omega))).trans (hfw7 (ac + 1) v2 (by omega))).trans (hfw5 (ac + 1) v2 (by omega))).trans kkw3) ((((hfw13 (ac + 2) v2 (by omega)).trans (hfw10 (ac + 2) v2 (by omega))).trans (hfw7 (ac + 2) v2 (by omega))).trans kkw5) (((hfw13 (ac + 3) v2 (by omega)).trans (hfw10 (ac + 3) v2 (by omega))).trans kkw7) hk1 hk2⟩⟩
theorem dt_Ac_undoLast_0 : decode prog_2_method_4_code 0 = .ok (.aload_n 0, 1) := by decide +kernel
theorem dt_Ac_undoLast_1 : decode prog_2_method_4_code 1 = .ok (.getfield 19, 3) := by decide +kernel
theorem dt_Ac_undoLast_4 : decode prog_2_method_4_code 4 = .ok (.ifCond .ne 5, 3) := by decide +kernel
theorem dt_Ac_undoLast_7 : decode prog_2_method_4_code 7 = .ok (.iconst 0, 1) := by decide +kernel
theorem dt_Ac_undoLast_8 : decode prog_2_method_4_code 8 = .ok (.ireturn, 1) := by decide +kernel
theorem dt_Ac_undoLast_9 : decode prog_2_method_4_code 9 = .ok (.aload_n 0, 1) := by decide +kernel
theorem dt_Ac_undoLast_10 : decode prog_2_method_4_code 10 = .ok (.dup, 1) := by decide +kernel
theorem dt_Ac_undoLast_11 : decode prog_2_method_4_code 11 = .ok (.getfield 19, 3) := by decide +kernel
theorem dt_Ac_undoLast_14 : decode prog_2_method_4_code 14 = .ok (.iconst 1, 1) := by decide +kernel
theorem dt_Ac_undoLast_15 : decode prog_2_method_4_code 15 = .ok (.isub, 1) := by decide +kernel
theorem dt_Ac_undoLast_16 : decode prog_2_method_4_code 16 = .ok (.putfield 19, 3) := by decide +kernel
theorem dt_Ac_undoLast_19 : decode prog_2_method_4_code 19 = .ok (.aload_n 0, 1) := by decide +kernel
theorem dt_Ac_undoLast_20 : decode prog_2_method_4_code 20 = .ok (.aload_n 0, 1) := by decide +kernel
theorem dt_Ac_undoLast_21 : decode prog_2_method_4_code 21 = .ok (.getfield 23, 3) := by decide +kernel
theorem dt_Ac_undoLast_24 : decode prog_2_method_4_code 24 = .ok (.bipush 20, 2) := by decide +kernel
theorem dt_Ac_undoLast_26 : decode prog_2_method_4_code 26 = .ok (.iadd, 1) := by decide +kernel
theorem dt_Ac_undoLast_27 : decode prog_2_method_4_code 27 = .ok (.iconst 1, 1) := by decide +kernel
theorem dt_Ac_undoLast_28 : decode prog_2_method_4_code 28 = .ok (.isub, 1) := by decide +kernel
theorem dt_Ac_undoLast_29 : decode prog_2_method_4_code 29 = .ok (.bipush 20, 2) := by decide +kernel
theorem dt_Ac_undoLast_31 : decode prog_2_method_4_code 31 = .ok (.irem, 1) := by decide +kernel
theorem dt_Ac_undoLast_32 : decode prog_2_method_4_code 32 = .ok (.putfield 23, 3) := by decide +kernel
theorem dt_Ac_undoLast_35 : decode prog_2_method_4_code 35 = .ok (.aload_n 0, 1) := by decide +kernel
theorem dt_Ac_undoLast_36 : decode prog_2_method_4_code 36 = .ok (.getfield 13, 3) := by decide +kernel
theorem dt_Ac_undoLast_39 : decode prog_2_method_4_code 39 = .ok (.aload_n 0, 1) := by decide +kernel
theorem dt_Ac_undoLast_40 : decode prog_2_method_4_code 40 = .ok (.getfield 23, 3) := by decide +kernel
theorem dt_Ac_undoLast_43 : decode prog_2_method_4_code 43 = .ok (.iaload, 1) := by decide +kernel
theorem dt_Ac_undoLast_44 : decode prog_2_method_4_code 44 = .ok (.istore_n 2, 1) := by decide +kernel
theorem dt_Ac_undoLast_45 : decode prog_2_method_4_code 45 = .ok (.aload_n 0, 1) := by decide +kernel
theorem dt_Ac_undoLast_46 : decode prog_2_method_4_code 46 = .ok (.getfield 16, 3) := by decide +kernel
theorem dt_Ac_undoLast_49 : decode prog_2_method_4_code 49 = .ok (.aload_n 0, 1) := by decide +kernel
theorem dt_Ac_undoLast_50 : decode prog_2_method_4_code 50 = .ok (.getfield 23, 3) := by decide +kernel
theorem dt_Ac_undoLast_53 : decode prog_2_method_4_code 53 = .ok (.iaload, 1) := by decide +kernel
theorem dt_Ac_undoLast_54 : decode prog_2_method_4_code 54 = .ok (.istore_n 3, 1) := by decide +kernel
theorem dt_Ac_undoLast_55 : decode prog_2_method_4_code 55 = .ok (.aload_n 0, 1) := by decide +kernel
theorem dt_Ac_undoLast_56 : decode prog_2_method_4_code 56 = .ok (.getfield 9, 3) := by decide +kernel
theorem dt_Ac_undoLast_59 : decode prog_2_method_4_code 59 = .ok (.aload_n 0, 1) := by decide +kernel
theorem dt_Ac_undoLast_60 : decode prog_2_method_4_code 60 = .ok (.getfield 23, 3) := by decide +kernel
theorem dt_Ac_undoLast_63 : decode prog_2_method_4_code 63 = .ok (.iaload, 1) := by decide +kernel
theorem dt_Ac_undoLast_64 : decode prog_2_method_4_code 64 = .ok (.tableswitch 64 0 2 #[28, 45, 55], 28) := by decide +kernel
theorem dt_Ac_undoLast_92 : decode prog_2_method_4_code 92 = .ok (.aload_n 1, 1) := by decide +kernel
theorem dt_Ac_undoLast_93 : decode prog_2_method_4_code 93 = .ok (.iload_n 2, 1) := by decide +kernel
theorem dt_Ac_undoLast_94 : decode prog_2_method_4_code 94 = .ok (.iload_n 3, 1) := by decide +kernel
theorem dt_Ac_undoLast_95 : decode prog_2_method_4_code 95 = .ok (.ifCond .eq 7, 3) := by decide +kernel
theorem dt_Ac_undoLast_98 : decode prog_2_method_4_code 98 = .ok (.iconst 1, 1) := by decide +kernel
theorem dt_Ac_undoLast_99 : decode prog_2_method_4_code 99 = .ok (.goto 4, 3) := by decide +kernel
theorem dt_Ac_undoLast_102 : decode prog_2_method_4_code 102 = .ok (.iconst 0, 1) := by decide +kernel
theorem dt_Ac_undoLast_103 : decode prog_2_method_4_code 103 = .ok (.invokevirtual 32, 3) := by decide +kernel
theorem dt_Ac_undoLast_106 : decode prog_2_method_4_code 106 = .ok (.goto 37, 3) := by decide +kernel
theorem dt_Ac_undoLast_109 : decode prog_2_method_4_code 109 = .ok (.aload_n 1, 1) := by decide +kernel
theorem dt_Ac_undoLast_110 : decode prog_2_method_4_code 110 = .ok (.getfield 38, 3) := by decide +kernel
theorem dt_Ac_undoLast_113 : decode prog_2_method_4_code 113 = .ok (.iload_n 2, 1) := by decide +kernel
theorem dt_Ac_undoLast_114 : decode prog_2_method_4_code 114 = .ok (.iload_n 3, 1) := by decide +kernel
theorem dt_Ac_undoLast_115 : decode prog_2_method_4_code 115 = .ok (.iastore, 1) := by decide +kernel
theorem dt_Ac_undoLast_116 : decode prog_2_method_4_code 116 = .ok (.goto 27, 3) := by decide +kernel
theorem dt_Ac_undoLast_119 : decode prog_2_method_4_code 119 = .ok (.aload_n 1, 1) := by decide +kernel
theorem dt_Ac_undoLast_120 : decode prog_2_method_4_code 120 = .ok (.iload_n 2, 1) := by decide +kernel
theorem dt_Ac_undoLast_121 : decode prog_2_method_4_code 121 = .ok (.iload_n 3, 1) := by decide +kernel
theorem dt_Ac_undoLast_122 : decode prog_2_method_4_code 122 = .ok (.invokevirtual 41, 3) := by decide +kernel
theorem dt_Ac_undoLast_125 : decode prog_2_method_4_code 125 = .ok (.goto 18, 3) := by decide +kernel
theorem dt_Ac_undoLast_128 : decode prog_2_method_4_code 128 = .ok (.aload_n 1, 1) := by decide +kernel
theorem dt_Ac_undoLast_129 : decode prog_2_method_4_code 129 = .ok (.iconst 0, 1) := by decide +kernel
theorem dt_Ac_undoLast_130 : decode prog_2_method_4_code 130 = .ok (.putfield 45, 3) := by decide +kernel
theorem dt_Ac_undoLast_133 : decode prog_2_method_4_code 133 = .ok (.aload_n 1, 1) := by decide +kernel
theorem dt_Ac_undoLast_134 : decode prog_2_method_4_code 134 = .ok (.dup, 1) := by decide +kernel
theorem dt_Ac_undoLast_135 : decode prog_2_method_4_code 135 = .ok (.getfield 49, 3) := by decide +kernel
theorem dt_Ac_undoLast_138 : decode prog_2_method_4_code 138 = .ok (.iconst 1, 1) := by decide +kernel
theorem dt_Ac_undoLast_139 : decode prog_2_method_4_code 139 = .ok (.isub, 1) := by decide +kernel
theorem dt_Ac_undoLast_140 : decode prog_2_method_4_code 140 = .ok (.putfield 49, 3) := by decide +kernel
theorem dt_Ac_undoLast_143 : decode prog_2_method_4_code 143 = .ok (.iconst 1, 1) := by decide +kernel
theorem dt_Ac_undoLast_144 : decode prog_2_method_4_code 144 = .ok (.ireturn, 1) := by decide +kernel
set_option maxHeartbeats 4000000 in
set_option maxRecDepth 10000 in
theorem tm_Ac_undoLast {N : Nat} {T : Nat → tm_S} {w : ab_W} {ac : Nat} {o : Nat} (hW : tm_W N T w) (h_ac : is_Ac T ac) (h_o : is_Ri T o) (ne_ac_o : ac + 4 ≤ o ∨ o + 13 ≤ ac) (hA : ac_ok w ac) : ab_Mt g_G g_rs mt_Ac_undoLast 2 0 0 [ab_R ac, ab_R o] w (tm_Qi N T (fun v w2 => (∀ (p : Nat) (j : Int), ¬ ((p = ac ∧ (j = 3 ∨ j = 4)) ∨ (p = o ∧ (j = 1 ∨ j = 2 ∨ j = 3 ∨ j = 4 ∨ j = 5)) ∨ p = (o + 7) ∨ p = (o + 6) ∨ p = (o + 1)) → tm_g w2 p j = tm_g w p j) ∧ (0 ≤ v ∧ v ≤ 1))) := by
  obtain ⟨act0, act1, act2, act3⟩ := id h_ac
  obtain ⟨ot0, ot1, ot2, ot3, ot4, ot5, ot6, ot7, ot8, ot9, ot10, ot11, ot12⟩ := id h_o
  have od := is_Ri.d h_o
  have hF0 : ∀ (p : Nat) (j : Int), ¬ ((p = ac ∧ (j = 3 ∨ j = 4)) ∨ (p = o ∧ (j = 1 ∨ j = 2 ∨ j = 3 ∨ j = 4 ∨ j = 5)) ∨ p = (o + 7) ∨ p = (o + 6) ∨ p = (o + 1)) → tm_g w p j = tm_g w p j := fun _ _ _ => rfl
  refine ab_Mt.of rfl (Nat.le_of_ble_eq_true rfl) ?_
  show ab_Ev g_G g_rs mt_Ac_undoLast _ _ _ 0 [some (ab_R ac), some (ab_R o), none, none] [] _ _
  refine ev_aload_n dt_Ac_undoLast_0 rfl rfl ?_
  refine tm_getI (K := 3) dt_Ac_undoLast_1 hW act0 fl_Ac_19 rfl rfl (fun v15 kv15 lv15 uv15 => ?_)
  refine ev_if_ne (tgt := 9) dt_Ac_undoLast_4 (by decide) (by omega) (fun h16 => ?_) (fun h16 => ?_)
  · skip
    refine ev_aload_n dt_Ac_undoLast_9 rfl rfl ?_
    refine ev_dup dt_Ac_undoLast_10 rfl ?_
    refine tm_getK (K := 3) dt_Ac_undoLast_11 hW act0 fl_Ac_19 rfl kv15 ?_
    refine ev_iconst dt_Ac_undoLast_14 ?_
    refine ev_isub dt_Ac_undoLast_15 ?_
    refine tm_putI (K := 3) dt_Ac_undoLast_16 hW act0 (fp_Ac_19 _) rfl rfl trivial (by omega) (by omega) (fun w17 hWw17 kkw17 hfw17 => ?_)
    have hFw17 : ∀ (p : Nat) (j : Int), ¬ ((p = ac ∧ (j = 3 ∨ j = 4)) ∨ (p = o ∧ (j = 1 ∨ j = 2 ∨ j = 3 ∨ j = 4 ∨ j = 5)) ∨ p = (o + 7) ∨ p = (o + 6) ∨ p = (o + 1)) → tm_g w17 p j = tm_g w p j := fun p j h => (hfw17 p j (by omega)).trans (hF0 p j h)
    refine ev_aload_n dt_Ac_undoLast_19 rfl rfl ?_
    refine ev_aload_n dt_Ac_undoLast_20 rfl rfl ?_
    refine tm_getI (K := 4) dt_Ac_undoLast_21 hWw17 act0 fl_Ac_23 rfl rfl (fun v18 kv18 lv18 uv18 => ?_)
    refine ev_bipush dt_Ac_undoLast_24 rfl ?_
    refine ev_iadd dt_Ac_undoLast_26 ?_
    refine ev_iconst dt_Ac_undoLast_27 ?_
    refine ev_isub dt_Ac_undoLast_28 ?_
    refine ev_bipush dt_Ac_undoLast_29 rfl ?_
    refine tm_irem dt_Ac_undoLast_31 (by omega) (by omega) (by omega) (fun v19 x1 x2 x3 x4 => ?_)
    have hv19 : 0 ≤ v19 ∧ v19 ≤ 19 := by omega
    clear x1 x2 x3 x4
    refine tm_putI (K := 4) dt_Ac_undoLast_32 hWw17 act0 (fp_Ac_23 _) rfl rfl trivial (by omega) (by omega) (fun w20 hWw20 kkw20 hfw20 => ?_)
    have hFw20 : ∀ (p : Nat) (j : Int), ¬ ((p = ac ∧ (j = 3 ∨ j = 4)) ∨ (p = o ∧ (j = 1 ∨ j = 2 ∨ j = 3 ∨ j = 4 ∨ j = 5)) ∨ p = (o + 7) ∨ p = (o + 6) ∨ p = (o + 1)) → tm_g w20 p j = tm_g w p j := fun p j h => (hfw20 p j (by omega)).trans (hFw17 p j h)
    have z21 := (hfw20 ac 3 (by omega)).trans kkw17
    refine ev_aload_n dt_Ac_undoLast_35 rfl rfl ?_
    refine tm_getR dt_Ac_undoLast_36 hWw20 act0 fl_Ac_13 rfl ?_
    refine ev_aload_n dt_Ac_undoLast_39 rfl rfl ?_
    refine tm_getK (K := 4) dt_Ac_undoLast_40 hWw20 act0 fl_Ac_23 rfl kkw20 ?_
    refine tm_iaload dt_Ac_undoLast_43 hWw20 act2 (by omega) (by omega) (by omega) (fun v22 kv22 lv22 uv22 => ?_)
    refine ev_istore_n (l' := [_, _, _, _]) dt_Ac_undoLast_44 rfl (Nat.le_of_ble_eq_true rfl) rfl ?_
    refine ev_aload_n dt_Ac_undoLast_45 rfl rfl ?_
    refine tm_getR dt_Ac_undoLast_46 hWw20 act0 fl_Ac_16 rfl ?_
    refine ev_aload_n dt_Ac_undoLast_49 rfl rfl ?_
    refine tm_getK (K := 4) dt_Ac_undoLast_50 hWw20 act0 fl_Ac_23 rfl kkw20 ?_
    refine tm_iaload dt_Ac_undoLast_53 hWw20 act3 (by omega) (by omega) (by omega) (fun v23 kv23 lv23 uv23 => ?_)
    refine ev_istore_n (l' := [_, _, _, _]) dt_Ac_undoLast_54 rfl (Nat.le_of_ble_eq_true rfl) rfl ?_
    refine ev_aload_n dt_Ac_undoLast_55 rfl rfl ?_
    refine tm_getR dt_Ac_undoLast_56 hWw20 act0 fl_Ac_9 rfl ?_
    refine ev_aload_n dt_Ac_undoLast_59 rfl rfl ?_
    refine tm_getK (K := 4) dt_Ac_undoLast_60 hWw20 act0 fl_Ac_23 rfl kkw20 ?_
    refine tm_iaload dt_Ac_undoLast_63 hWw20 act1 (by omega) (by omega) (by omega) (fun v24 kv24 lv24 uv24 => ?_)
    have hrel := hA _ (by omega) (by omega) _ _ _ ((hFw20 (ac + 1) _ (by omega)).symm.trans kv24) ((hFw20 (ac + 2) _ (by omega)).symm.trans kv22) ((hFw20 (ac + 3) _ (by omega)).symm.trans kv23)
    rcases (by omega : v24 = 0 ∨ v24 = 1 ∨ v24 = 2 ∨ 2 < v24) with c25 | c25 | c25 | c25
    · skip
      refine ev_tableIn (off := 28) (tgt := 92) dt_Ac_undoLast_64 (by omega) (by omega) (by omega) (by rw [c25]; rfl) (by decide) ?_
      refine ev_aload_n dt_Ac_undoLast_92 rfl rfl ?_
      refine ev_iload_n dt_Ac_undoLast_93 rfl rfl ?_
      refine ev_iload_n dt_Ac_undoLast_94 rfl rfl ?_
      refine ev_if_eq (tgt := 102) dt_Ac_undoLast_95 (by decide) (by omega) (fun h26 => ?_) (fun h26 => ?_)
      · skip
        refine ev_iconst dt_Ac_undoLast_102 ?_
        refine tm_vv dt_Ac_undoLast_103 (tm_Ri_takeHourBack hWw20 h_o (v22) (by omega) (by omega) (0) (by omega) (by omega)) kb_Ac_32 ⟨im_Ri_takeHourBack, se_Ri_takeHourBack⟩ rfl hWw20 ot0 rfl (Nat.le_of_ble_eq_true rfl) (by decide) (fun w27 hWw27 hRw27 => ?_)
        have hfw27 := hRw27
        have hFw27 : ∀ (p : Nat) (j : Int), ¬ ((p = ac ∧ (j = 3 ∨ j = 4)) ∨ (p = o ∧ (j = 1 ∨ j = 2 ∨ j = 3 ∨ j = 4 ∨ j = 5)) ∨ p = (o + 7) ∨ p = (o + 6) ∨ p = (o + 1)) → tm_g w27 p j = tm_g w p j := fun p j h => (hfw27 p j (by omega)).trans (hFw20 p j h)
        have z28 := (hfw27 ac 3 (by omega)).trans z21
        have z29 := (hfw27 ac 4 (by omega)).trans kkw20
        refine ev_goto (tgt := 143) dt_Ac_undoLast_106 (by decide) ?_
        refine ev_iconst dt_Ac_undoLast_143 ?_
        exact ev_zreturn dt_Ac_undoLast_144 rfl (by omega) ⟨hWw27, _, rfl, ⟨hFw27, by omega⟩⟩
      · skip
        refine ev_iconst dt_Ac_undoLast_98 ?_
        refine ev_goto (tgt := 103) dt_Ac_undoLast_99 (by decide) ?_
        refine tm_vv dt_Ac_undoLast_103 (tm_Ri_takeHourBack hWw20 h_o (v22) (by omega) (by omega) (1) (by omega) (by omega)) kb_Ac_32 ⟨im_Ri_takeHourBack, se_Ri_takeHourBack⟩ rfl hWw20 ot0 rfl (Nat.le_of_ble_eq_true rfl) (by decide) (fun w30 hWw30 hRw30 => ?_)
        have hfw30 := hRw30
        have hFw30 : ∀ (p : Nat) (j : Int), ¬ ((p = ac ∧ (j = 3 ∨ j = 4)) ∨ (p = o ∧ (j = 1 ∨ j = 2 ∨ j = 3 ∨ j = 4 ∨ j = 5)) ∨ p = (o + 7) ∨ p = (o + 6) ∨ p = (o + 1)) → tm_g w30 p j = tm_g w p j := fun p j h => (hfw30 p j (by omega)).trans (hFw20 p j h)
        have z31 := (hfw30 ac 3 (by omega)).trans z21
        have z32 := (hfw30 ac 4 (by omega)).trans kkw20
        refine ev_goto (tgt := 143) dt_Ac_undoLast_106 (by decide) ?_
        refine ev_iconst dt_Ac_undoLast_143 ?_
        exact ev_zreturn dt_Ac_undoLast_144 rfl (by omega) ⟨hWw30, _, rfl, ⟨hFw30, by omega⟩⟩
    · skip
      refine ev_tableIn (off := 45) (tgt := 109) dt_Ac_undoLast_64 (by omega) (by omega) (by omega) (by rw [c25]; rfl) (by decide) ?_
      refine ev_aload_n dt_Ac_undoLast_109 rfl rfl ?_
      refine tm_getR dt_Ac_undoLast_110 hWw20 ot0 fl_Ac_38 rfl ?_
      refine ev_iload_n dt_Ac_undoLast_113 rfl rfl ?_
      refine ev_iload_n dt_Ac_undoLast_114 rfl rfl ?_
      refine tm_iastore dt_Ac_undoLast_115 hWw20 ot6 (by omega) (by omega) (by omega) (by omega) (by omega) (fun w33 hWw33 kkw33 hfw33 => ?_)
      have hFw33 : ∀ (p : Nat) (j : Int), ¬ ((p = ac ∧ (j = 3 ∨ j = 4)) ∨ (p = o ∧ (j = 1 ∨ j = 2 ∨ j = 3 ∨ j = 4 ∨ j = 5)) ∨ p = (o + 7) ∨ p = (o + 6) ∨ p = (o + 1)) → tm_g w33 p j = tm_g w p j := fun p j h => (hfw33 p j (by omega)).trans (hFw20 p j h)
      have z34 := (hfw33 ac 3 (by omega)).trans z21
      have z35 := (hfw33 ac 4 (by omega)).trans kkw20
      refine ev_goto (tgt := 143) dt_Ac_undoLast_116 (by decide) ?_
      refine ev_iconst dt_Ac_undoLast_143 ?_
      exact ev_zreturn dt_Ac_undoLast_144 rfl (by omega) ⟨hWw33, _, rfl, ⟨hFw33, by omega⟩⟩
    · skip
      refine ev_tableIn (off := 55) (tgt := 119) dt_Ac_undoLast_64 (by omega) (by omega) (by omega) (by rw [c25]; rfl) (by decide) ?_
      refine ev_aload_n dt_Ac_undoLast_119 rfl rfl ?_
      refine ev_iload_n dt_Ac_undoLast_120 rfl rfl ?_
      refine ev_iload_n dt_Ac_undoLast_121 rfl rfl ?_
      refine tm_vv dt_Ac_undoLast_122 (tm_Ri_swapSlots hWw20 h_o (v22) (by omega) (by omega) (v23) (by omega) (by omega)) kb_Ac_41 ⟨im_Ri_swapSlots, se_Ri_swapSlots⟩ rfl hWw20 ot0 rfl (Nat.le_of_ble_eq_true rfl) (by decide) (fun w36 hWw36 hRw36 => ?_)
      have hfw36 := hRw36
      have hFw36 : ∀ (p : Nat) (j : Int), ¬ ((p = ac ∧ (j = 3 ∨ j = 4)) ∨ (p = o ∧ (j = 1 ∨ j = 2 ∨ j = 3 ∨ j = 4 ∨ j = 5)) ∨ p = (o + 7) ∨ p = (o + 6) ∨ p = (o + 1)) → tm_g w36 p j = tm_g w p j := fun p j h => (hfw36 p j (by omega)).trans (hFw20 p j h)
      have z37 := (hfw36 ac 3 (by omega)).trans z21
      have z38 := (hfw36 ac 4 (by omega)).trans kkw20
      refine ev_goto (tgt := 143) dt_Ac_undoLast_125 (by decide) ?_
      refine ev_iconst dt_Ac_undoLast_143 ?_
      exact ev_zreturn dt_Ac_undoLast_144 rfl (by omega) ⟨hWw36, _, rfl, ⟨hFw36, by omega⟩⟩
    · skip
      refine ev_tableOut (tgt := 128) dt_Ac_undoLast_64 (by omega) (by omega) (by decide) ?_
      refine ev_aload_n dt_Ac_undoLast_128 rfl rfl ?_
      refine ev_iconst dt_Ac_undoLast_129 ?_
      refine tm_putI (K := 4) dt_Ac_undoLast_130 hWw20 ot0 (fp_Ac_45 _) rfl rfl (by have h0 := True; first | (show _ = _ ∨ _ = _; omega) | omega) (by omega) (by omega) (fun w39 hWw39 kkw39 hfw39 => ?_)
      have hFw39 : ∀ (p : Nat) (j : Int), ¬ ((p = ac ∧ (j = 3 ∨ j = 4)) ∨ (p = o ∧ (j = 1 ∨ j = 2 ∨ j = 3 ∨ j = 4 ∨ j = 5)) ∨ p = (o + 7) ∨ p = (o + 6) ∨ p = (o + 1)) → tm_g w39 p j = tm_g w p j := fun p j h => (hfw39 p j (by omega)).trans (hFw20 p j h)
      have z40 := (hfw39 ac 3 (by omega)).trans z21
      have z41 := (hfw39 ac 4 (by omega)).trans kkw20
      refine ev_aload_n dt_Ac_undoLast_133 rfl rfl ?_
      refine ev_dup dt_Ac_undoLast_134 rfl ?_
      refine tm_getI (K := 5) dt_Ac_undoLast_135 hWw39 ot0 fl_Ac_49 rfl rfl (fun v42 kv42 lv42 uv42 => ?_)
      refine ev_iconst dt_Ac_undoLast_138 ?_
      refine ev_isub dt_Ac_undoLast_139 ?_
      refine tm_any (fun v43 hv43 _ => ?_)
      refine tm_putI (K := 5) dt_Ac_undoLast_140 hWw39 ot0 (fp_Ac_49 _) rfl rfl trivial (by omega) (by omega) (fun w44 hWw44 kkw44 hfw44 => ?_)
      have hFw44 : ∀ (p : Nat) (j : Int), ¬ ((p = ac ∧ (j = 3 ∨ j = 4)) ∨ (p = o ∧ (j = 1 ∨ j = 2 ∨ j = 3 ∨ j = 4 ∨ j = 5)) ∨ p = (o + 7) ∨ p = (o + 6) ∨ p = (o + 1)) → tm_g w44 p j = tm_g w p j := fun p j h => (hfw44 p j (by omega)).trans (hFw39 p j h)
      have z45 := (hfw44 ac 3 (by omega)).trans z40
      have z46 := (hfw44 ac 4 (by omega)).trans z41
      have z47 := (hfw44 o 4 (by omega)).trans kkw39
      refine ev_iconst dt_Ac_undoLast_143 ?_
      exact ev_zreturn dt_Ac_undoLast_144 rfl (by omega) ⟨hWw44, _, rfl, ⟨hFw44, by omega⟩⟩
  · skip
    refine ev_iconst dt_Ac_undoLast_7 ?_
    exact ev_zreturn dt_Ac_undoLast_8 rfl (by omega) ⟨hW, _, rfl, ⟨hF0, by omega⟩⟩
