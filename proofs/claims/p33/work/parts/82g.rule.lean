theorem dt_Ar_copyOf_0 : decode prog_22_method_123_code 0 = .ok (.iload_n 1, 1) := by decide +kernel
theorem dt_Ar_copyOf_1 : decode prog_22_method_123_code 1 = .ok (.aload_n 0, 1) := by decide +kernel
theorem dt_Ar_copyOf_2 : decode prog_22_method_123_code 2 = .ok (.arraylength, 1) := by decide +kernel
theorem dt_Ar_copyOf_3 : decode prog_22_method_123_code 3 = .ok (.if_icmp .ne 11, 3) := by decide +kernel
theorem dt_Ar_copyOf_6 : decode prog_22_method_123_code 6 = .ok (.aload_n 0, 1) := by decide +kernel
theorem dt_Ar_copyOf_7 : decode prog_22_method_123_code 7 = .ok (.invokevirtual 316, 3) := by decide +kernel
theorem dt_Ar_copyOf_10 : decode prog_22_method_123_code 10 = .ok (.checkcast 317, 3) := by decide +kernel
theorem dt_Ar_copyOf_13 : decode prog_22_method_123_code 13 = .ok (.areturn, 1) := by decide +kernel
theorem dt_Ar_copyOf_14 : decode prog_22_method_123_code 14 = .ok (.iload_n 1, 1) := by decide +kernel
theorem dt_Ar_copyOf_15 : decode prog_22_method_123_code 15 = .ok (.newarray .int, 2) := by decide +kernel
theorem dt_Ar_copyOf_17 : decode prog_22_method_123_code 17 = .ok (.astore_n 2, 1) := by decide +kernel
theorem dt_Ar_copyOf_18 : decode prog_22_method_123_code 18 = .ok (.aload_n 0, 1) := by decide +kernel
theorem dt_Ar_copyOf_19 : decode prog_22_method_123_code 19 = .ok (.iconst 0, 1) := by decide +kernel
theorem dt_Ar_copyOf_20 : decode prog_22_method_123_code 20 = .ok (.aload_n 2, 1) := by decide +kernel
theorem dt_Ar_copyOf_21 : decode prog_22_method_123_code 21 = .ok (.iconst 0, 1) := by decide +kernel
theorem dt_Ar_copyOf_22 : decode prog_22_method_123_code 22 = .ok (.aload_n 0, 1) := by decide +kernel
theorem dt_Ar_copyOf_23 : decode prog_22_method_123_code 23 = .ok (.arraylength, 1) := by decide +kernel
theorem dt_Ar_copyOf_24 : decode prog_22_method_123_code 24 = .ok (.iload_n 1, 1) := by decide +kernel
theorem dt_Ar_copyOf_25 : decode prog_22_method_123_code 25 = .ok (.invokestatic 304, 3) := by decide +kernel
theorem dt_Ar_copyOf_28 : decode prog_22_method_123_code 28 = .ok (.invokestatic 150, 3) := by decide +kernel
theorem dt_Ar_copyOf_31 : decode prog_22_method_123_code 31 = .ok (.aload_n 2, 1) := by decide +kernel
theorem dt_Ar_copyOf_32 : decode prog_22_method_123_code 32 = .ok (.areturn, 1) := by decide +kernel
theorem dt_Ru_codeRead_0 : decode prog_10_method_3_code 0 = .ok (.aload_n 0, 1) := by decide +kernel
theorem dt_Ru_codeRead_1 : decode prog_10_method_3_code 1 = .ok (.getfield 9, 3) := by decide +kernel
theorem dt_Ru_codeRead_4 : decode prog_10_method_3_code 4 = .ok (.aload_n 0, 1) := by decide +kernel
theorem dt_Ru_codeRead_5 : decode prog_10_method_3_code 5 = .ok (.getfield 23, 3) := by decide +kernel
theorem dt_Ru_codeRead_8 : decode prog_10_method_3_code 8 = .ok (.invokestatic 59, 3) := by decide +kernel
theorem dt_Ru_codeRead_11 : decode prog_10_method_3_code 11 = .ok (.areturn, 1) := by decide +kernel
theorem dt_Ro_init_0 : decode prog_9_method_1_code 0 = .ok (.aload_n 0, 1) := by decide +kernel
theorem dt_Ro_init_1 : decode prog_9_method_1_code 1 = .ok (.invokespecial 1, 3) := by decide +kernel
theorem dt_Ro_init_4 : decode prog_9_method_1_code 4 = .ok (.aload_n 0, 1) := by decide +kernel
theorem dt_Ro_init_5 : decode prog_9_method_1_code 5 = .ok (.aload_n 1, 1) := by decide +kernel
theorem dt_Ro_init_6 : decode prog_9_method_1_code 6 = .ok (.putfield 7, 3) := by decide +kernel
theorem dt_Ro_init_9 : decode prog_9_method_1_code 9 = .ok (.return_, 1) := by decide +kernel
theorem mk_Ar_304 : ab_mk g_G "java/util/Arrays" 304 Lib.Math.min.name Lib.Math.min.code 2 .int := ⟨g_memT (g_t3 112 rfl) rfl, g_memT (g_t3 113 rfl) rfl, g_memT (g_t1 18 rfl) rfl, g_memT (g_t3 114 rfl) rfl⟩
theorem cw_clone : Cond.castable "[I" "java/lang/Cloneable" ∈ g_G.2.2.1 := g_memM (g_t3 110 rfl) rfl
theorem ab_okL_ri {n i : Nat} {x : Int} (h : i < n) : ab_okL n [some (ab_R i), some (ab_I x), none] := by
  intro k v hk
  match k with
  | 0 => cases hk; exact Or.inl h
  | 1 => cases hk; trivial
  | 2 => cases hk
  | k + 3 => cases hk
set_option maxRecDepth 10000 in
theorem tm_RoInit {w : ab_W} {q c : Nat} {v0 : ab_V} (hc : w[q]? = some (ab_ob 6 [v0])) : ab_Mt g_G g_rs mt_Ro_init 1 0 0 [ab_R q, ab_R c] w (ab_is none (w.set q (ab_ob 6 [ab_R c]))) := by
  refine ab_Mt.of rfl (Nat.le_of_ble_eq_true rfl) ?_
  show ab_Ev g_G g_rs mt_Ro_init _ _ _ 0 [some (ab_R q), some (ab_R c)] [] _ _
  refine ev_aload_n dt_Ro_init_0 rfl rfl ?_
  refine ev_objInit dt_Ro_init_1 oi_Ro (Nat.le_of_ble_eq_true rfl) (by decide) ?_
  refine ev_aload_n dt_Ro_init_4 rfl rfl ?_
  refine ev_aload_n dt_Ro_init_5 rfl rfl ?_
  refine ev_putfield dt_Ro_init_6 hc fp_Ro_7 (Nat.le_of_ble_eq_true rfl) trivial ?_
  exact ev_return dt_Ro_init_9 rfl ⟨rfl, rfl⟩
theorem dt_Tu_rule_0 : decode prog_1_method_5_code 0 = .ok (.aload_n 0, 1) := by decide +kernel
theorem dt_Tu_rule_1 : decode prog_1_method_5_code 1 = .ok (.getfield 105, 3) := by decide +kernel
theorem dt_Tu_rule_4 : decode prog_1_method_5_code 4 = .ok (.bipush 6, 2) := by decide +kernel
theorem dt_Tu_rule_6 : decode prog_1_method_5_code 6 = .ok (.if_icmp .lt 5, 3) := by decide +kernel
theorem dt_Tu_rule_9 : decode prog_1_method_5_code 9 = .ok (.iconst (-1), 1) := by decide +kernel
theorem dt_Tu_rule_10 : decode prog_1_method_5_code 10 = .ok (.ireturn, 1) := by decide +kernel
theorem dt_Tu_rule_11 : decode prog_1_method_5_code 11 = .ok (.aload_n 0, 1) := by decide +kernel
theorem dt_Tu_rule_12 : decode prog_1_method_5_code 12 = .ok (.getfield 50, 3) := by decide +kernel
theorem dt_Tu_rule_15 : decode prog_1_method_5_code 15 = .ok (.aload_n 0, 1) := by decide +kernel
theorem dt_Tu_rule_16 : decode prog_1_method_5_code 16 = .ok (.getfield 10, 3) := by decide +kernel
theorem dt_Tu_rule_19 : decode prog_1_method_5_code 19 = .ok (.invokevirtual 108, 3) := by decide +kernel
theorem dt_Tu_rule_22 : decode prog_1_method_5_code 22 = .ok (.istore_n 1, 1) := by decide +kernel
theorem dt_Tu_rule_23 : decode prog_1_method_5_code 23 = .ok (.aload_n 0, 1) := by decide +kernel
theorem dt_Tu_rule_24 : decode prog_1_method_5_code 24 = .ok (.getfield 10, 3) := by decide +kernel
theorem dt_Tu_rule_27 : decode prog_1_method_5_code 27 = .ok (.iconst 0, 1) := by decide +kernel
theorem dt_Tu_rule_28 : decode prog_1_method_5_code 28 = .ok (.putfield 82, 3) := by decide +kernel
theorem dt_Tu_rule_31 : decode prog_1_method_5_code 31 = .ok (.iload_n 1, 1) := by decide +kernel
theorem dt_Tu_rule_32 : decode prog_1_method_5_code 32 = .ok (.ifCond .eq 8, 3) := by decide +kernel
theorem dt_Tu_rule_35 : decode prog_1_method_5_code 35 = .ok (.bipush (-2), 2) := by decide +kernel
theorem dt_Tu_rule_37 : decode prog_1_method_5_code 37 = .ok (.iload_n 1, 1) := by decide +kernel
theorem dt_Tu_rule_38 : decode prog_1_method_5_code 38 = .ok (.isub, 1) := by decide +kernel
theorem dt_Tu_rule_39 : decode prog_1_method_5_code 39 = .ok (.ireturn, 1) := by decide +kernel
theorem dt_Tu_rule_40 : decode prog_1_method_5_code 40 = .ok (.aload_n 0, 1) := by decide +kernel
theorem dt_Tu_rule_41 : decode prog_1_method_5_code 41 = .ok (.getfield 36, 3) := by decide +kernel
theorem dt_Tu_rule_44 : decode prog_1_method_5_code 44 = .ok (.aload_n 0, 1) := by decide +kernel
theorem dt_Tu_rule_45 : decode prog_1_method_5_code 45 = .ok (.getfield 105, 3) := by decide +kernel
theorem dt_Tu_rule_48 : decode prog_1_method_5_code 48 = .ok (.new 34, 3) := by decide +kernel
theorem dt_Tu_rule_51 : decode prog_1_method_5_code 51 = .ok (.dup, 1) := by decide +kernel
theorem dt_Tu_rule_52 : decode prog_1_method_5_code 52 = .ok (.aload_n 0, 1) := by decide +kernel
theorem dt_Tu_rule_53 : decode prog_1_method_5_code 53 = .ok (.getfield 50, 3) := by decide +kernel
theorem dt_Tu_rule_56 : decode prog_1_method_5_code 56 = .ok (.invokevirtual 111, 3) := by decide +kernel
theorem dt_Tu_rule_59 : decode prog_1_method_5_code 59 = .ok (.invokespecial 115, 3) := by decide +kernel
theorem dt_Tu_rule_62 : decode prog_1_method_5_code 62 = .ok (.aastore, 1) := by decide +kernel
theorem dt_Tu_rule_63 : decode prog_1_method_5_code 63 = .ok (.aload_n 0, 1) := by decide +kernel
theorem dt_Tu_rule_64 : decode prog_1_method_5_code 64 = .ok (.dup, 1) := by decide +kernel
theorem dt_Tu_rule_65 : decode prog_1_method_5_code 65 = .ok (.getfield 105, 3) := by decide +kernel
theorem dt_Tu_rule_68 : decode prog_1_method_5_code 68 = .ok (.iconst 1, 1) := by decide +kernel
theorem dt_Tu_rule_69 : decode prog_1_method_5_code 69 = .ok (.iadd, 1) := by decide +kernel
theorem dt_Tu_rule_70 : decode prog_1_method_5_code 70 = .ok (.putfield 105, 3) := by decide +kernel
theorem dt_Tu_rule_73 : decode prog_1_method_5_code 73 = .ok (.aload_n 0, 1) := by decide +kernel
theorem dt_Tu_rule_74 : decode prog_1_method_5_code 74 = .ok (.getfield 105, 3) := by decide +kernel
theorem dt_Tu_rule_77 : decode prog_1_method_5_code 77 = .ok (.iconst 1, 1) := by decide +kernel
theorem dt_Tu_rule_78 : decode prog_1_method_5_code 78 = .ok (.isub, 1) := by decide +kernel
theorem dt_Tu_rule_79 : decode prog_1_method_5_code 79 = .ok (.ireturn, 1) := by decide +kernel