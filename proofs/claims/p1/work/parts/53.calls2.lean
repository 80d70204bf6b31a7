theorem de_Ta_putBytes_0 : decode prog_11_method_2_code 0 = .ok (.bipush 24, 2) := by decide +kernel
theorem de_Ta_putBytes_2 : decode prog_11_method_2_code 2 = .ok (.istore_n 2, 1) := by decide +kernel
theorem de_Ta_putBytes_3 : decode prog_11_method_2_code 3 = .ok (.iload_n 2, 1) := by decide +kernel
theorem de_Ta_putBytes_4 : decode prog_11_method_2_code 4 = .ok (.ifCond .lt 42, 3) := by decide +kernel
theorem de_Ta_putBytes_7 : decode prog_11_method_2_code 7 = .ok (.aload_n 0, 1) := by decide +kernel
theorem de_Ta_putBytes_8 : decode prog_11_method_2_code 8 = .ok (.getfield 21, 3) := by decide +kernel
theorem de_Ta_putBytes_11 : decode prog_11_method_2_code 11 = .ok (.sipush 400, 3) := by decide +kernel
theorem de_Ta_putBytes_14 : decode prog_11_method_2_code 14 = .ok (.if_icmp .ge 32, 3) := by decide +kernel
theorem de_Ta_putBytes_17 : decode prog_11_method_2_code 17 = .ok (.aload_n 0, 1) := by decide +kernel
theorem de_Ta_putBytes_18 : decode prog_11_method_2_code 18 = .ok (.getfield 9, 3) := by decide +kernel
theorem de_Ta_putBytes_21 : decode prog_11_method_2_code 21 = .ok (.aload_n 0, 1) := by decide +kernel
theorem de_Ta_putBytes_22 : decode prog_11_method_2_code 22 = .ok (.getfield 21, 3) := by decide +kernel
theorem de_Ta_putBytes_25 : decode prog_11_method_2_code 25 = .ok (.iload_n 1, 1) := by decide +kernel
theorem de_Ta_putBytes_26 : decode prog_11_method_2_code 26 = .ok (.iload_n 2, 1) := by decide +kernel
theorem de_Ta_putBytes_27 : decode prog_11_method_2_code 27 = .ok (.iushr, 1) := by decide +kernel
theorem de_Ta_putBytes_28 : decode prog_11_method_2_code 28 = .ok (.i2b, 1) := by decide +kernel
theorem de_Ta_putBytes_29 : decode prog_11_method_2_code 29 = .ok (.bastore, 1) := by decide +kernel
theorem de_Ta_putBytes_30 : decode prog_11_method_2_code 30 = .ok (.aload_n 0, 1) := by decide +kernel
theorem de_Ta_putBytes_31 : decode prog_11_method_2_code 31 = .ok (.dup, 1) := by decide +kernel
theorem de_Ta_putBytes_32 : decode prog_11_method_2_code 32 = .ok (.getfield 21, 3) := by decide +kernel
theorem de_Ta_putBytes_35 : decode prog_11_method_2_code 35 = .ok (.iconst 1, 1) := by decide +kernel
theorem de_Ta_putBytes_36 : decode prog_11_method_2_code 36 = .ok (.iadd, 1) := by decide +kernel
theorem de_Ta_putBytes_37 : decode prog_11_method_2_code 37 = .ok (.putfield 21, 3) := by decide +kernel
theorem de_Ta_putBytes_40 : decode prog_11_method_2_code 40 = .ok (.iinc 2 (-8), 3) := by decide +kernel
theorem de_Ta_putBytes_43 : decode prog_11_method_2_code 43 = .ok (.goto (-40), 3) := by decide +kernel
theorem de_Ta_putBytes_46 : decode prog_11_method_2_code 46 = .ok (.return_, 1) := by decide +kernel
set_option maxHeartbeats 4000000 in
set_option maxRecDepth 20000 in
theorem pb_0 (f : Int → Int) (v0 : Int) (hv0 : ab_in v0) : ab_Mt g_G g_rs mt_Ta_putBytes 1 0 0 [ab_R (1), ab_I (v0)] (fw_0.set 2 (ab_ai 1 400 (f))) (fun r w2 => r = none ∧ ∃ g0, w2 = ((fw_0.set 1 (ab_ob 8 [ab_R (2), ab_I (4), ab_I (0), ab_R (ab_sb + 0), ab_I (0), ab_I (0), ab_I (0), ab_I (0), ab_I (0)])).set 2 (ab_ai 1 400 (g0)))) := by
  refine ab_Mt.of rfl (Nat.le_of_ble_eq_true rfl) ?_
  show ab_Ev g_G g_rs mt_Ta_putBytes _ _ _ 0 [some (ab_R (1)), some (ab_I (v0)), none] [] _ _
  refine ev_bipush de_Ta_putBytes_0 rfl ?_
  refine ev_istore_n (l' := [_, _, _]) de_Ta_putBytes_2 rfl (Nat.le_of_ble_eq_true rfl) rfl ?_
  refine ev_iload_n de_Ta_putBytes_3 rfl rfl ?_
  refine ev_if_lt (tgt := 46) de_Ta_putBytes_4 (by decide) (by decide) (fun h => absurd h (by decide)) (fun _ => ?_)
  refine ev_aload_n de_Ta_putBytes_7 rfl rfl ?_
  refine ev_getfield de_Ta_putBytes_8 rfl fl_Ta_21 rfl ?_
  refine ev_sipush de_Ta_putBytes_11 rfl ?_
  refine ev_icmp_ge (tgt := 46) de_Ta_putBytes_14 (by decide) (by decide) (by decide) (fun h => absurd h (by decide)) (fun _ => ?_)
  refine ev_aload_n de_Ta_putBytes_17 rfl rfl ?_
  refine ev_getfield de_Ta_putBytes_18 rfl fl_Ta_9 rfl ?_
  refine ev_aload_n de_Ta_putBytes_21 rfl rfl ?_
  refine ev_getfield de_Ta_putBytes_22 rfl fl_Ta_21 rfl ?_
  refine ev_iload_n de_Ta_putBytes_25 rfl rfl ?_
  refine ev_iload_n de_Ta_putBytes_26 rfl rfl ?_
  refine ev_iushr de_Ta_putBytes_27 (by omega) (by decide) (by decide) ?_
  refine ev_i2b de_Ta_putBytes_28 ?_
  refine ev_bastore de_Ta_putBytes_29 rfl (by decide) (by decide) (by decide) ?_
  refine ev_world (w' := (fw_0.set 2 (ab_ai 1 400 (_)))) rfl ?_
  refine ev_aload_n de_Ta_putBytes_30 rfl rfl ?_
  refine ev_dup de_Ta_putBytes_31 rfl ?_
  refine ev_getfield de_Ta_putBytes_32 rfl fl_Ta_21 rfl ?_
  refine ev_iconst de_Ta_putBytes_35 ?_
  refine ev_iadd de_Ta_putBytes_36 ?_
  refine ev_top (b := ab_I (1)) rfl ?_
  refine ev_putfield de_Ta_putBytes_37 rfl (fp_Ta_21 _) (Nat.le_of_ble_eq_true rfl) trivial ?_
  refine ev_world (w' := ((fw_0.set 1 (ab_ob 8 [ab_R (2), ab_I (1), ab_I (0), ab_R (ab_sb + 0), ab_I (0), ab_I (0), ab_I (0), ab_I (0), ab_I (0)])).set 2 (ab_ai 1 400 (_)))) rfl ?_
  refine ev_iinc (l' := [_, _, _]) de_Ta_putBytes_40 rfl rfl ?_
  refine ev_loc (l2 := [some (ab_R (1)), some (ab_I (v0)), some (ab_I (16))]) rfl ?_
  refine ev_goto (tgt := 3) de_Ta_putBytes_43 (by decide) ?_
  refine ev_iload_n de_Ta_putBytes_3 rfl rfl ?_
  refine ev_if_lt (tgt := 46) de_Ta_putBytes_4 (by decide) (by decide) (fun h => absurd h (by decide)) (fun _ => ?_)
  refine ev_aload_n de_Ta_putBytes_7 rfl rfl ?_
  refine ev_getfield de_Ta_putBytes_8 rfl fl_Ta_21 rfl ?_
  refine ev_sipush de_Ta_putBytes_11 rfl ?_
  refine ev_icmp_ge (tgt := 46) de_Ta_putBytes_14 (by decide) (by decide) (by decide) (fun h => absurd h (by decide)) (fun _ => ?_)
  refine ev_aload_n de_Ta_putBytes_17 rfl rfl ?_
  refine ev_getfield de_Ta_putBytes_18 rfl fl_Ta_9 rfl ?_
  refine ev_aload_n de_Ta_putBytes_21 rfl rfl ?_
  refine ev_getfield de_Ta_putBytes_22 rfl fl_Ta_21 rfl ?_
  refine ev_iload_n de_Ta_putBytes_25 rfl rfl ?_
  refine ev_iload_n de_Ta_putBytes_26 rfl rfl ?_
  refine ev_iushr de_Ta_putBytes_27 (by omega) (by decide) (by decide) ?_
  refine ev_i2b de_Ta_putBytes_28 ?_
  refine ev_bastore de_Ta_putBytes_29 rfl (by decide) (by decide) (by decide) ?_
  refine ev_world (w' := ((fw_0.set 1 (ab_ob 8 [ab_R (2), ab_I (1), ab_I (0), ab_R (ab_sb + 0), ab_I (0), ab_I (0), ab_I (0), ab_I (0), ab_I (0)])).set 2 (ab_ai 1 400 (_)))) rfl ?_
  refine ev_aload_n de_Ta_putBytes_30 rfl rfl ?_
  refine ev_dup de_Ta_putBytes_31 rfl ?_
  refine ev_getfield de_Ta_putBytes_32 rfl fl_Ta_21 rfl ?_
  refine ev_iconst de_Ta_putBytes_35 ?_
  refine ev_iadd de_Ta_putBytes_36 ?_
  refine ev_top (b := ab_I (2)) rfl ?_
  refine ev_putfield de_Ta_putBytes_37 rfl (fp_Ta_21 _) (Nat.le_of_ble_eq_true rfl) trivial ?_
  refine ev_world (w' := ((fw_0.set 1 (ab_ob 8 [ab_R (2), ab_I (2), ab_I (0), ab_R (ab_sb + 0), ab_I (0), ab_I (0), ab_I (0), ab_I (0), ab_I (0)])).set 2 (ab_ai 1 400 (_)))) rfl ?_
  refine ev_iinc (l' := [_, _, _]) de_Ta_putBytes_40 rfl rfl ?_
  refine ev_loc (l2 := [some (ab_R (1)), some (ab_I (v0)), some (ab_I (8))]) rfl ?_
  refine ev_goto (tgt := 3) de_Ta_putBytes_43 (by decide) ?_
  refine ev_iload_n de_Ta_putBytes_3 rfl rfl ?_
  refine ev_if_lt (tgt := 46) de_Ta_putBytes_4 (by decide) (by decide) (fun h => absurd h (by decide)) (fun _ => ?_)
  refine ev_aload_n de_Ta_putBytes_7 rfl rfl ?_
  refine ev_getfield de_Ta_putBytes_8 rfl fl_Ta_21 rfl ?_
  refine ev_sipush de_Ta_putBytes_11 rfl ?_
  refine ev_icmp_ge (tgt := 46) de_Ta_putBytes_14 (by decide) (by decide) (by decide) (fun h => absurd h (by decide)) (fun _ => ?_)
  refine ev_aload_n de_Ta_putBytes_17 rfl rfl ?_
  refine ev_getfield de_Ta_putBytes_18 rfl fl_Ta_9 rfl ?_
  refine ev_aload_n de_Ta_putBytes_21 rfl rfl ?_
  refine ev_getfield de_Ta_putBytes_22 rfl fl_Ta_21 rfl ?_
  refine ev_iload_n de_Ta_putBytes_25 rfl rfl ?_
  refine ev_iload_n de_Ta_putBytes_26 rfl rfl ?_
  refine ev_iushr de_Ta_putBytes_27 (by omega) (by decide) (by decide) ?_
  refine ev_i2b de_Ta_putBytes_28 ?_
  refine ev_bastore de_Ta_putBytes_29 rfl (by decide) (by decide) (by decide) ?_
  refine ev_world (w' := ((fw_0.set 1 (ab_ob 8 [ab_R (2), ab_I (2), ab_I (0), ab_R (ab_sb + 0), ab_I (0), ab_I (0), ab_I (0), ab_I (0), ab_I (0)])).set 2 (ab_ai 1 400 (_)))) rfl ?_
  refine ev_aload_n de_Ta_putBytes_30 rfl rfl ?_
  refine ev_dup de_Ta_putBytes_31 rfl ?_
  refine ev_getfield de_Ta_putBytes_32 rfl fl_Ta_21 rfl ?_
  refine ev_iconst de_Ta_putBytes_35 ?_
  refine ev_iadd de_Ta_putBytes_36 ?_
  refine ev_top (b := ab_I (3)) rfl ?_
  refine ev_putfield de_Ta_putBytes_37 rfl (fp_Ta_21 _) (Nat.le_of_ble_eq_true rfl) trivial ?_
  refine ev_world (w' := ((fw_0.set 1 (ab_ob 8 [ab_R (2), ab_I (3), ab_I (0), ab_R (ab_sb + 0), ab_I (0), ab_I (0), ab_I (0), ab_I (0), ab_I (0)])).set 2 (ab_ai 1 400 (_)))) rfl ?_
  refine ev_iinc (l' := [_, _, _]) de_Ta_putBytes_40 rfl rfl ?_
  refine ev_loc (l2 := [some (ab_R (1)), some (ab_I (v0)), some (ab_I (0))]) rfl ?_
  refine ev_goto (tgt := 3) de_Ta_putBytes_43 (by decide) ?_
  refine ev_iload_n de_Ta_putBytes_3 rfl rfl ?_
  refine ev_if_lt (tgt := 46) de_Ta_putBytes_4 (by decide) (by decide) (fun h => absurd h (by decide)) (fun _ => ?_)
  refine ev_aload_n de_Ta_putBytes_7 rfl rfl ?_
  refine ev_getfield de_Ta_putBytes_8 rfl fl_Ta_21 rfl ?_
  refine ev_sipush de_Ta_putBytes_11 rfl ?_
  refine ev_icmp_ge (tgt := 46) de_Ta_putBytes_14 (by decide) (by decide) (by decide) (fun h => absurd h (by decide)) (fun _ => ?_)
  refine ev_aload_n de_Ta_putBytes_17 rfl rfl ?_
  refine ev_getfield de_Ta_putBytes_18 rfl fl_Ta_9 rfl ?_
  refine ev_aload_n de_Ta_putBytes_21 rfl rfl ?_
  refine ev_getfield de_Ta_putBytes_22 rfl fl_Ta_21 rfl ?_
  refine ev_iload_n de_Ta_putBytes_25 rfl rfl ?_
  refine ev_iload_n de_Ta_putBytes_26 rfl rfl ?_
  refine ev_iushr de_Ta_putBytes_27 (by omega) (by decide) (by decide) ?_
  refine ev_i2b de_Ta_putBytes_28 ?_
  refine ev_bastore de_Ta_putBytes_29 rfl (by decide) (by decide) (by decide) ?_
  refine ev_world (w' := ((fw_0.set 1 (ab_ob 8 [ab_R (2), ab_I (3), ab_I (0), ab_R (ab_sb + 0), ab_I (0), ab_I (0), ab_I (0), ab_I (0), ab_I (0)])).set 2 (ab_ai 1 400 (_)))) rfl ?_
  refine ev_aload_n de_Ta_putBytes_30 rfl rfl ?_
  refine ev_dup de_Ta_putBytes_31 rfl ?_
  refine ev_getfield de_Ta_putBytes_32 rfl fl_Ta_21 rfl ?_
  refine ev_iconst de_Ta_putBytes_35 ?_
  refine ev_iadd de_Ta_putBytes_36 ?_
  refine ev_top (b := ab_I (4)) rfl ?_
  refine ev_putfield de_Ta_putBytes_37 rfl (fp_Ta_21 _) (Nat.le_of_ble_eq_true rfl) trivial ?_
  refine ev_world (w' := ((fw_0.set 1 (ab_ob 8 [ab_R (2), ab_I (4), ab_I (0), ab_R (ab_sb + 0), ab_I (0), ab_I (0), ab_I (0), ab_I (0), ab_I (0)])).set 2 (ab_ai 1 400 (_)))) rfl ?_
  refine ev_iinc (l' := [_, _, _]) de_Ta_putBytes_40 rfl rfl ?_
  refine ev_loc (l2 := [some (ab_R (1)), some (ab_I (v0)), some (ab_I ((-8)))]) rfl ?_
  refine ev_goto (tgt := 3) de_Ta_putBytes_43 (by decide) ?_
  refine ev_iload_n de_Ta_putBytes_3 rfl rfl ?_
  refine ev_if_lt (tgt := 46) de_Ta_putBytes_4 (by decide) (by decide) (fun _ => ?_) (fun h => absurd h (by decide))
  exact ev_return de_Ta_putBytes_46 rfl ⟨rfl, _, rfl⟩
set_option maxHeartbeats 4000000 in
set_option maxRecDepth 20000 in
theorem pb_4 (f : Int → Int) (v0 : Int) (hv0 : ab_in v0) : ab_Mt g_G g_rs mt_Ta_putBytes 1 0 0 [ab_R (1), ab_I (v0)] ((fw_0.set 1 (ab_ob 8 [ab_R (2), ab_I (4), ab_I (0), ab_R (ab_sb + 0), ab_I (0), ab_I (0), ab_I (0), ab_I (0), ab_I (0)])).set 2 (ab_ai 1 400 (f))) (fun r w2 => r = none ∧ ∃ g0, w2 = ((fw_0.set 1 (ab_ob 8 [ab_R (2), ab_I (8), ab_I (0), ab_R (ab_sb + 0), ab_I (0), ab_I (0), ab_I (0), ab_I (0), ab_I (0)])).set 2 (ab_ai 1 400 (g0)))) := by
  refine ab_Mt.of rfl (Nat.le_of_ble_eq_true rfl) ?_
  show ab_Ev g_G g_rs mt_Ta_putBytes _ _ _ 0 [some (ab_R (1)), some (ab_I (v0)), none] [] _ _
  refine ev_bipush de_Ta_putBytes_0 rfl ?_
  refine ev_istore_n (l' := [_, _, _]) de_Ta_putBytes_2 rfl (Nat.le_of_ble_eq_true rfl) rfl ?_
  refine ev_iload_n de_Ta_putBytes_3 rfl rfl ?_
  refine ev_if_lt (tgt := 46) de_Ta_putBytes_4 (by decide) (by decide) (fun h => absurd h (by decide)) (fun _ => ?_)
  refine ev_aload_n de_Ta_putBytes_7 rfl rfl ?_
  refine ev_getfield de_Ta_putBytes_8 rfl fl_Ta_21 rfl ?_
  refine ev_sipush de_Ta_putBytes_11 rfl ?_
  refine ev_icmp_ge (tgt := 46) de_Ta_putBytes_14 (by decide) (by decide) (by decide) (fun h => absurd h (by decide)) (fun _ => ?_)
  refine ev_aload_n de_Ta_putBytes_17 rfl rfl ?_
  refine ev_getfield de_Ta_putBytes_18 rfl fl_Ta_9 rfl ?_
  refine ev_aload_n de_Ta_putBytes_21 rfl rfl ?_
  refine ev_getfield de_Ta_putBytes_22 rfl fl_Ta_21 rfl ?_
  refine ev_iload_n de_Ta_putBytes_25 rfl rfl ?_
  refine ev_iload_n de_Ta_putBytes_26 rfl rfl ?_
  refine ev_iushr de_Ta_putBytes_27 (by omega) (by decide) (by decide) ?_
  refine ev_i2b de_Ta_putBytes_28 ?_
  refine ev_bastore de_Ta_putBytes_29 rfl (by decide) (by decide) (by decide) ?_
  refine ev_world (w' := ((fw_0.set 1 (ab_ob 8 [ab_R (2), ab_I (4), ab_I (0), ab_R (ab_sb + 0), ab_I (0), ab_I (0), ab_I (0), ab_I (0), ab_I (0)])).set 2 (ab_ai 1 400 (_)))) rfl ?_
  refine ev_aload_n de_Ta_putBytes_30 rfl rfl ?_
  refine ev_dup de_Ta_putBytes_31 rfl ?_
  refine ev_getfield de_Ta_putBytes_32 rfl fl_Ta_21 rfl ?_
  refine ev_iconst de_Ta_putBytes_35 ?_
  refine ev_iadd de_Ta_putBytes_36 ?_
  refine ev_top (b := ab_I (5)) rfl ?_
  refine ev_putfield de_Ta_putBytes_37 rfl (fp_Ta_21 _) (Nat.le_of_ble_eq_true rfl) trivial ?_
  refine ev_world (w' := ((fw_0.set 1 (ab_ob 8 [ab_R (2), ab_I (5), ab_I (0), ab_R (ab_sb + 0), ab_I (0), ab_I (0), ab_I (0), ab_I (0), ab_I (0)])).set 2 (ab_ai 1 400 (_)))) rfl ?_
  refine ev_iinc (l' := [_, _, _]) de_Ta_putBytes_40 rfl rfl ?_
  refine ev_loc (l2 := [some (ab_R (1)), some (ab_I (v0)), some (ab_I (16))]) rfl ?_
  refine ev_goto (tgt := 3) de_Ta_putBytes_43 (by decide) ?_
  refine ev_iload_n de_Ta_putBytes_3 rfl rfl ?_
  refine ev_if_lt (tgt := 46) de_Ta_putBytes_4 (by decide) (by decide) (fun h => absurd h (by decide)) (fun _ => ?_)
  refine ev_aload_n de_Ta_putBytes_7 rfl rfl ?_
  refine ev_getfield de_Ta_putBytes_8 rfl fl_Ta_21 rfl ?_
  refine ev_sipush de_Ta_putBytes_11 rfl ?_
  refine ev_icmp_ge (tgt := 46) de_Ta_putBytes_14 (by decide) (by decide) (by decide) (fun h => absurd h (by decide)) (fun _ => ?_)
  refine ev_aload_n de_Ta_putBytes_17 rfl rfl ?_
  refine ev_getfield de_Ta_putBytes_18 rfl fl_Ta_9 rfl ?_
  refine ev_aload_n de_Ta_putBytes_21 rfl rfl ?_
  refine ev_getfield de_Ta_putBytes_22 rfl fl_Ta_21 rfl ?_
  refine ev_iload_n de_Ta_putBytes_25 rfl rfl ?_
  refine ev_iload_n de_Ta_putBytes_26 rfl rfl ?_
  refine ev_iushr de_Ta_putBytes_27 (by omega) (by decide) (by decide) ?_
  refine ev_i2b de_Ta_putBytes_28 ?_
  refine ev_bastore de_Ta_putBytes_29 rfl (by decide) (by decide) (by decide) ?_
  refine ev_world (w' := ((fw_0.set 1 (ab_ob 8 [ab_R (2), ab_I (5), ab_I (0), ab_R (ab_sb + 0), ab_I (0), ab_I (0), ab_I (0), ab_I (0), ab_I (0)])).set 2 (ab_ai 1 400 (_)))) rfl ?_
  refine ev_aload_n de_Ta_putBytes_30 rfl rfl ?_
  refine ev_dup de_Ta_putBytes_31 rfl ?_
  refine ev_getfield de_Ta_putBytes_32 rfl fl_Ta_21 rfl ?_
  refine ev_iconst de_Ta_putBytes_35 ?_
  refine ev_iadd de_Ta_putBytes_36 ?_
  refine ev_top (b := ab_I (6)) rfl ?_
  refine ev_putfield de_Ta_putBytes_37 rfl (fp_Ta_21 _) (Nat.le_of_ble_eq_true rfl) trivial ?_
  refine ev_world (w' := ((fw_0.set 1 (ab_ob 8 [ab_R (2), ab_I (6), ab_I (0), ab_R (ab_sb + 0), ab_I (0), ab_I (0), ab_I (0), ab_I (0), ab_I (0)])).set 2 (ab_ai 1 400 (_)))) rfl ?_
  refine ev_iinc (l' := [_, _, _]) de_Ta_putBytes_40 rfl rfl ?_
  refine ev_loc (l2 := [some (ab_R (1)), some (ab_I (v0)), some (ab_I (8))]) rfl ?_
  refine ev_goto (tgt := 3) de_Ta_putBytes_43 (by decide) ?_
  refine ev_iload_n de_Ta_putBytes_3 rfl rfl ?_
  refine ev_if_lt (tgt := 46) de_Ta_putBytes_4 (by decide) (by decide) (fun h => absurd h (by decide)) (fun _ => ?_)
  refine ev_aload_n de_Ta_putBytes_7 rfl rfl ?_
  refine ev_getfield de_Ta_putBytes_8 rfl fl_Ta_21 rfl ?_
  refine ev_sipush de_Ta_putBytes_11 rfl ?_
  refine ev_icmp_ge (tgt := 46) de_Ta_putBytes_14 (by decide) (by decide) (by decide) (fun h => absurd h (by decide)) (fun _ => ?_)
  refine ev_aload_n de_Ta_putBytes_17 rfl rfl ?_
  refine ev_getfield de_Ta_putBytes_18 rfl fl_Ta_9 rfl ?_
  refine ev_aload_n de_Ta_putBytes_21 rfl rfl ?_
  refine ev_getfield de_Ta_putBytes_22 rfl fl_Ta_21 rfl ?_
  refine ev_iload_n de_Ta_putBytes_25 rfl rfl ?_
  refine ev_iload_n de_Ta_putBytes_26 rfl rfl ?_
  refine ev_iushr de_Ta_putBytes_27 (by omega) (by decide) (by decide) ?_
  refine ev_i2b de_Ta_putBytes_28 ?_
  refine ev_bastore de_Ta_putBytes_29 rfl (by decide) (by decide) (by decide) ?_
  refine ev_world (w' := ((fw_0.set 1 (ab_ob 8 [ab_R (2), ab_I (6), ab_I (0), ab_R (ab_sb + 0), ab_I (0), ab_I (0), ab_I (0), ab_I (0), ab_I (0)])).set 2 (ab_ai 1 400 (_)))) rfl ?_
  refine ev_aload_n de_Ta_putBytes_30 rfl rfl ?_
  refine ev_dup de_Ta_putBytes_31 rfl ?_
  refine ev_getfield de_Ta_putBytes_32 rfl fl_Ta_21 rfl ?_
  refine ev_iconst de_Ta_putBytes_35 ?_
  refine ev_iadd de_Ta_putBytes_36 ?_
  refine ev_top (b := ab_I (7)) rfl ?_
  refine ev_putfield de_Ta_putBytes_37 rfl (fp_Ta_21 _) (Nat.le_of_ble_eq_true rfl) trivial ?_
  refine ev_world (w' := ((fw_0.set 1 (ab_ob 8 [ab_R (2), ab_I (7), ab_I (0), ab_R (ab_sb + 0), ab_I (0), ab_I (0), ab_I (0), ab_I (0), ab_I (0)])).set 2 (ab_ai 1 400 (_)))) rfl ?_
  refine ev_iinc (l' := [_, _, _]) de_Ta_putBytes_40 rfl rfl ?_
  refine ev_loc (l2 := [some (ab_R (1)), some (ab_I (v0)), some (ab_I (0))]) rfl ?_
  refine ev_goto (tgt := 3) de_Ta_putBytes_43 (by decide) ?_
  refine ev_iload_n de_Ta_putBytes_3 rfl rfl ?_
  refine ev_if_lt (tgt := 46) de_Ta_putBytes_4 (by decide) (by decide) (fun h => absurd h (by decide)) (fun _ => ?_)
  refine ev_aload_n de_Ta_putBytes_7 rfl rfl ?_
  refine ev_getfield de_Ta_putBytes_8 rfl fl_Ta_21 rfl ?_
  refine ev_sipush de_Ta_putBytes_11 rfl ?_
  refine ev_icmp_ge (tgt := 46) de_Ta_putBytes_14 (by decide) (by decide) (by decide) (fun h => absurd h (by decide)) (fun _ => ?_)
  refine ev_aload_n de_Ta_putBytes_17 rfl rfl ?_
  refine ev_getfield de_Ta_putBytes_18 rfl fl_Ta_9 rfl ?_
  refine ev_aload_n de_Ta_putBytes_21 rfl rfl ?_
  refine ev_getfield de_Ta_putBytes_22 rfl fl_Ta_21 rfl ?_
  refine ev_iload_n de_Ta_putBytes_25 rfl rfl ?_
  refine ev_iload_n de_Ta_putBytes_26 rfl rfl ?_
  refine ev_iushr de_Ta_putBytes_27 (by omega) (by decide) (by decide) ?_
  refine ev_i2b de_Ta_putBytes_28 ?_
  refine ev_bastore de_Ta_putBytes_29 rfl (by decide) (by decide) (by decide) ?_
  refine ev_world (w' := ((fw_0.set 1 (ab_ob 8 [ab_R (2), ab_I (7), ab_I (0), ab_R (ab_sb + 0), ab_I (0), ab_I (0), ab_I (0), ab_I (0), ab_I (0)])).set 2 (ab_ai 1 400 (_)))) rfl ?_
  refine ev_aload_n de_Ta_putBytes_30 rfl rfl ?_
  refine ev_dup de_Ta_putBytes_31 rfl ?_
  refine ev_getfield de_Ta_putBytes_32 rfl fl_Ta_21 rfl ?_
  refine ev_iconst de_Ta_putBytes_35 ?_
  refine ev_iadd de_Ta_putBytes_36 ?_
  refine ev_top (b := ab_I (8)) rfl ?_
  refine ev_putfield de_Ta_putBytes_37 rfl (fp_Ta_21 _) (Nat.le_of_ble_eq_true rfl) trivial ?_
  refine ev_world (w' := ((fw_0.set 1 (ab_ob 8 [ab_R (2), ab_I (8), ab_I (0), ab_R (ab_sb + 0), ab_I (0), ab_I (0), ab_I (0), ab_I (0), ab_I (0)])).set 2 (ab_ai 1 400 (_)))) rfl ?_
  refine ev_iinc (l' := [_, _, _]) de_Ta_putBytes_40 rfl rfl ?_
  refine ev_loc (l2 := [some (ab_R (1)), some (ab_I (v0)), some (ab_I ((-8)))]) rfl ?_
  refine ev_goto (tgt := 3) de_Ta_putBytes_43 (by decide) ?_
  refine ev_iload_n de_Ta_putBytes_3 rfl rfl ?_
  refine ev_if_lt (tgt := 46) de_Ta_putBytes_4 (by decide) (by decide) (fun _ => ?_) (fun h => absurd h (by decide))
  exact ev_return de_Ta_putBytes_46 rfl ⟨rfl, _, rfl⟩
set_option maxHeartbeats 4000000 in
set_option maxRecDepth 20000 in
theorem pb_8 (f : Int → Int) (v0 : Int) (hv0 : ab_in v0) : ab_Mt g_G g_rs mt_Ta_putBytes 1 0 0 [ab_R (1), ab_I (v0)] ((fw_0.set 1 (ab_ob 8 [ab_R (2), ab_I (8), ab_I (0), ab_R (ab_sb + 0), ab_I (0), ab_I (0), ab_I (0), ab_I (0), ab_I (0)])).set 2 (ab_ai 1 400 (f))) (fun r w2 => r = none ∧ ∃ g0, w2 = ((fw_0.set 1 (ab_ob 8 [ab_R (2), ab_I (12), ab_I (0), ab_R (ab_sb + 0), ab_I (0), ab_I (0), ab_I (0), ab_I (0), ab_I (0)])).set 2 (ab_ai 1 400 (g0)))) := by
  refine ab_Mt.of rfl (Nat.le_of_ble_eq_true rfl) ?_
  show ab_Ev g_G g_rs mt_Ta_putBytes _ _ _ 0 [some (ab_R (1)), some (ab_I (v0)), none] [] _ _
  refine ev_bipush de_Ta_putBytes_0 rfl ?_
  refine ev_istore_n (l' := [_, _, _]) de_Ta_putBytes_2 rfl (Nat.le_of_ble_eq_true rfl) rfl ?_
  refine ev_iload_n de_Ta_putBytes_3 rfl rfl ?_
  refine ev_if_lt (tgt := 46) de_Ta_putBytes_4 (by decide) (by decide) (fun h => absurd h (by decide)) (fun _ => ?_)
  refine ev_aload_n de_Ta_putBytes_7 rfl rfl ?_
  refine ev_getfield de_Ta_putBytes_8 rfl fl_Ta_21 rfl ?_
  refine ev_sipush de_Ta_putBytes_11 rfl ?_
  refine ev_icmp_ge (tgt := 46) de_Ta_putBytes_14 (by decide) (by decide) (by decide) (fun h => absurd h (by decide)) (fun _ => ?_)
  refine ev_aload_n de_Ta_putBytes_17 rfl rfl ?_
  refine ev_getfield de_Ta_putBytes_18 rfl fl_Ta_9 rfl ?_
  refine ev_aload_n de_Ta_putBytes_21 rfl rfl ?_
  refine ev_getfield de_Ta_putBytes_22 rfl fl_Ta_21 rfl ?_
  refine ev_iload_n de_Ta_putBytes_25 rfl rfl ?_
  refine ev_iload_n de_Ta_putBytes_26 rfl rfl ?_
  refine ev_iushr de_Ta_putBytes_27 (by omega) (by decide) (by decide) ?_
  refine ev_i2b de_Ta_putBytes_28 ?_
  refine ev_bastore de_Ta_putBytes_29 rfl (by decide) (by decide) (by decide) ?_
  refine ev_world (w' := ((fw_0.set 1 (ab_ob 8 [ab_R (2), ab_I (8), ab_I (0), ab_R (ab_sb + 0), ab_I (0), ab_I (0), ab_I (0), ab_I (0), ab_I (0)])).set 2 (ab_ai 1 400 (_)))) rfl ?_
  refine ev_aload_n de_Ta_putBytes_30 rfl rfl ?_
  refine ev_dup de_Ta_putBytes_31 rfl ?_
  refine ev_getfield de_Ta_putBytes_32 rfl fl_Ta_21 rfl ?_
  refine ev_iconst de_Ta_putBytes_35 ?_
  refine ev_iadd de_Ta_putBytes_36 ?_
  refine ev_top (b := ab_I (9)) rfl ?_
  refine ev_putfield de_Ta_putBytes_37 rfl (fp_Ta_21 _) (Nat.le_of_ble_eq_true rfl) trivial ?_
  refine ev_world (w' := ((fw_0.set 1 (ab_ob 8 [ab_R (2), ab_I (9), ab_I (0), ab_R (ab_sb + 0), ab_I (0), ab_I (0), ab_I (0), ab_I (0), ab_I (0)])).set 2 (ab_ai 1 400 (_)))) rfl ?_
  refine ev_iinc (l' := [_, _, _]) de_Ta_putBytes_40 rfl rfl ?_
  refine ev_loc (l2 := [some (ab_R (1)), some (ab_I (v0)), some (ab_I (16))]) rfl ?_
  refine ev_goto (tgt := 3) de_Ta_putBytes_43 (by decide) ?_
  refine ev_iload_n de_Ta_putBytes_3 rfl rfl ?_
  refine ev_if_lt (tgt := 46) de_Ta_putBytes_4 (by decide) (by decide) (fun h => absurd h (by decide)) (fun _ => ?_)
  refine ev_aload_n de_Ta_putBytes_7 rfl rfl ?_
  refine ev_getfield de_Ta_putBytes_8 rfl fl_Ta_21 rfl ?_
  refine ev_sipush de_Ta_putBytes_11 rfl ?_
  refine ev_icmp_ge (tgt := 46) de_Ta_putBytes_14 (by decide) (by decide) (by decide) (fun h => absurd h (by decide)) (fun _ => ?_)
  refine ev_aload_n de_Ta_putBytes_17 rfl rfl ?_
  refine ev_getfield de_Ta_putBytes_18 rfl fl_Ta_9 rfl ?_
  refine ev_aload_n de_Ta_putBytes_21 rfl rfl ?_
  refine ev_getfield de_Ta_putBytes_22 rfl fl_Ta_21 rfl ?_
  refine ev_iload_n de_Ta_putBytes_25 rfl rfl ?_
  refine ev_iload_n de_Ta_putBytes_26 rfl rfl ?_
  refine ev_iushr de_Ta_putBytes_27 (by omega) (by decide) (by decide) ?_
  refine ev_i2b de_Ta_putBytes_28 ?_
  refine ev_bastore de_Ta_putBytes_29 rfl (by decide) (by decide) (by decide) ?_
  refine ev_world (w' := ((fw_0.set 1 (ab_ob 8 [ab_R (2), ab_I (9), ab_I (0), ab_R (ab_sb + 0), ab_I (0), ab_I (0), ab_I (0), ab_I (0), ab_I (0)])).set 2 (ab_ai 1 400 (_)))) rfl ?_
  refine ev_aload_n de_Ta_putBytes_30 rfl rfl ?_
  refine ev_dup de_Ta_putBytes_31 rfl ?_
  refine ev_getfield de_Ta_putBytes_32 rfl fl_Ta_21 rfl ?_
  refine ev_iconst de_Ta_putBytes_35 ?_
  refine ev_iadd de_Ta_putBytes_36 ?_
  refine ev_top (b := ab_I (10)) rfl ?_
  refine ev_putfield de_Ta_putBytes_37 rfl (fp_Ta_21 _) (Nat.le_of_ble_eq_true rfl) trivial ?_
  refine ev_world (w' := ((fw_0.set 1 (ab_ob 8 [ab_R (2), ab_I (10), ab_I (0), ab_R (ab_sb + 0), ab_I (0), ab_I (0), ab_I (0), ab_I (0), ab_I (0)])).set 2 (ab_ai 1 400 (_)))) rfl ?_
  refine ev_iinc (l' := [_, _, _]) de_Ta_putBytes_40 rfl rfl ?_
  refine ev_loc (l2 := [some (ab_R (1)), some (ab_I (v0)), some (ab_I (8))]) rfl ?_
  refine ev_goto (tgt := 3) de_Ta_putBytes_43 (by decide) ?_
  refine ev_iload_n de_Ta_putBytes_3 rfl rfl ?_
  refine ev_if_lt (tgt := 46) de_Ta_putBytes_4 (by decide) (by decide) (fun h => absurd h (by decide)) (fun _ => ?_)
  refine ev_aload_n de_Ta_putBytes_7 rfl rfl ?_
  refine ev_getfield de_Ta_putBytes_8 rfl fl_Ta_21 rfl ?_
  refine ev_sipush de_Ta_putBytes_11 rfl ?_
  refine ev_icmp_ge (tgt := 46) de_Ta_putBytes_14 (by decide) (by decide) (by decide) (fun h => absurd h (by decide)) (fun _ => ?_)
  refine ev_aload_n de_Ta_putBytes_17 rfl rfl ?_
  refine ev_getfield de_Ta_putBytes_18 rfl fl_Ta_9 rfl ?_
  refine ev_aload_n de_Ta_putBytes_21 rfl rfl ?_
  refine ev_getfield de_Ta_putBytes_22 rfl fl_Ta_21 rfl ?_
  refine ev_iload_n de_Ta_putBytes_25 rfl rfl ?_
  refine ev_iload_n de_Ta_putBytes_26 rfl rfl ?_
  refine ev_iushr de_Ta_putBytes_27 (by omega) (by decide) (by decide) ?_
  refine ev_i2b de_Ta_putBytes_28 ?_
  refine ev_bastore de_Ta_putBytes_29 rfl (by decide) (by decide) (by decide) ?_
  refine ev_world (w' := ((fw_0.set 1 (ab_ob 8 [ab_R (2), ab_I (10), ab_I (0), ab_R (ab_sb + 0), ab_I (0), ab_I (0), ab_I (0), ab_I (0), ab_I (0)])).set 2 (ab_ai 1 400 (_)))) rfl ?_
  refine ev_aload_n de_Ta_putBytes_30 rfl rfl ?_
  refine ev_dup de_Ta_putBytes_31 rfl ?_
  refine ev_getfield de_Ta_putBytes_32 rfl fl_Ta_21 rfl ?_
  refine ev_iconst de_Ta_putBytes_35 ?_
  refine ev_iadd de_Ta_putBytes_36 ?_
  refine ev_top (b := ab_I (11)) rfl ?_
  refine ev_putfield de_Ta_putBytes_37 rfl (fp_Ta_21 _) (Nat.le_of_ble_eq_true rfl) trivial ?_
  refine ev_world (w' := ((fw_0.set 1 (ab_ob 8 [ab_R (2), ab_I (11), ab_I (0), ab_R (ab_sb + 0), ab_I (0), ab_I (0), ab_I (0), ab_I (0), ab_I (0)])).set 2 (ab_ai 1 400 (_)))) rfl ?_
  refine ev_iinc (l' := [_, _, _]) de_Ta_putBytes_40 rfl rfl ?_
  refine ev_loc (l2 := [some (ab_R (1)), some (ab_I (v0)), some (ab_I (0))]) rfl ?_
  refine ev_goto (tgt := 3) de_Ta_putBytes_43 (by decide) ?_
  refine ev_iload_n de_Ta_putBytes_3 rfl rfl ?_
  refine ev_if_lt (tgt := 46) de_Ta_putBytes_4 (by decide) (by decide) (fun h => absurd h (by decide)) (fun _ => ?_)
  refine ev_aload_n de_Ta_putBytes_7 rfl rfl ?_
  refine ev_getfield de_Ta_putBytes_8 rfl fl_Ta_21 rfl ?_
  refine ev_sipush de_Ta_putBytes_11 rfl ?_
  refine ev_icmp_ge (tgt := 46) de_Ta_putBytes_14 (by decide) (by decide) (by decide) (fun h => absurd h (by decide)) (fun _ => ?_)
  refine ev_aload_n de_Ta_putBytes_17 rfl rfl ?_
  refine ev_getfield de_Ta_putBytes_18 rfl fl_Ta_9 rfl ?_
  refine ev_aload_n de_Ta_putBytes_21 rfl rfl ?_
  refine ev_getfield de_Ta_putBytes_22 rfl fl_Ta_21 rfl ?_
  refine ev_iload_n de_Ta_putBytes_25 rfl rfl ?_
  refine ev_iload_n de_Ta_putBytes_26 rfl rfl ?_
  refine ev_iushr de_Ta_putBytes_27 (by omega) (by decide) (by decide) ?_
  refine ev_i2b de_Ta_putBytes_28 ?_
  refine ev_bastore de_Ta_putBytes_29 rfl (by decide) (by decide) (by decide) ?_
  refine ev_world (w' := ((fw_0.set 1 (ab_ob 8 [ab_R (2), ab_I (11), ab_I (0), ab_R (ab_sb + 0), ab_I (0), ab_I (0), ab_I (0), ab_I (0), ab_I (0)])).set 2 (ab_ai 1 400 (_)))) rfl ?_
  refine ev_aload_n de_Ta_putBytes_30 rfl rfl ?_
  refine ev_dup de_Ta_putBytes_31 rfl ?_
  refine ev_getfield de_Ta_putBytes_32 rfl fl_Ta_21 rfl ?_
  refine ev_iconst de_Ta_putBytes_35 ?_
  refine ev_iadd de_Ta_putBytes_36 ?_
  refine ev_top (b := ab_I (12)) rfl ?_
  refine ev_putfield de_Ta_putBytes_37 rfl (fp_Ta_21 _) (Nat.le_of_ble_eq_true rfl) trivial ?_
  refine ev_world (w' := ((fw_0.set 1 (ab_ob 8 [ab_R (2), ab_I (12), ab_I (0), ab_R (ab_sb + 0), ab_I (0), ab_I (0), ab_I (0), ab_I (0), ab_I (0)])).set 2 (ab_ai 1 400 (_)))) rfl ?_
  refine ev_iinc (l' := [_, _, _]) de_Ta_putBytes_40 rfl rfl ?_
  refine ev_loc (l2 := [some (ab_R (1)), some (ab_I (v0)), some (ab_I ((-8)))]) rfl ?_
  refine ev_goto (tgt := 3) de_Ta_putBytes_43 (by decide) ?_
  refine ev_iload_n de_Ta_putBytes_3 rfl rfl ?_
  refine ev_if_lt (tgt := 46) de_Ta_putBytes_4 (by decide) (by decide) (fun _ => ?_) (fun h => absurd h (by decide))
  exact ev_return de_Ta_putBytes_46 rfl ⟨rfl, _, rfl⟩
set_option maxHeartbeats 4000000 in
set_option maxRecDepth 20000 in
theorem pb_12 (f : Int → Int) (v0 : Int) (hv0 : ab_in v0) : ab_Mt g_G g_rs mt_Ta_putBytes 1 0 0 [ab_R (1), ab_I (v0)] ((fw_0.set 1 (ab_ob 8 [ab_R (2), ab_I (12), ab_I (0), ab_R (ab_sb + 0), ab_I (0), ab_I (0), ab_I (0), ab_I (0), ab_I (0)])).set 2 (ab_ai 1 400 (f))) (fun r w2 => r = none ∧ ∃ g0, w2 = ((fw_0.set 1 (ab_ob 8 [ab_R (2), ab_I (16), ab_I (0), ab_R (ab_sb + 0), ab_I (0), ab_I (0), ab_I (0), ab_I (0), ab_I (0)])).set 2 (ab_ai 1 400 (g0)))) := by
  refine ab_Mt.of rfl (Nat.le_of_ble_eq_true rfl) ?_
  show ab_Ev g_G g_rs mt_Ta_putBytes _ _ _ 0 [some (ab_R (1)), some (ab_I (v0)), none] [] _ _
  refine ev_bipush de_Ta_putBytes_0 rfl ?_
  refine ev_istore_n (l' := [_, _, _]) de_Ta_putBytes_2 rfl (Nat.le_of_ble_eq_true rfl) rfl ?_
  refine ev_iload_n de_Ta_putBytes_3 rfl rfl ?_
  refine ev_if_lt (tgt := 46) de_Ta_putBytes_4 (by decide) (by decide) (fun h => absurd h (by decide)) (fun _ => ?_)
  refine ev_aload_n de_Ta_putBytes_7 rfl rfl ?_
  refine ev_getfield de_Ta_putBytes_8 rfl fl_Ta_21 rfl ?_
  refine ev_sipush de_Ta_putBytes_11 rfl ?_
  refine ev_icmp_ge (tgt := 46) de_Ta_putBytes_14 (by decide) (by decide) (by decide) (fun h => absurd h (by decide)) (fun _ => ?_)
  refine ev_aload_n de_Ta_putBytes_17 rfl rfl ?_
  refine ev_getfield de_Ta_putBytes_18 rfl fl_Ta_9 rfl ?_
  refine ev_aload_n de_Ta_putBytes_21 rfl rfl ?_
  refine ev_getfield de_Ta_putBytes_22 rfl fl_Ta_21 rfl ?_
  refine ev_iload_n de_Ta_putBytes_25 rfl rfl ?_
  refine ev_iload_n de_Ta_putBytes_26 rfl rfl ?_
  refine ev_iushr de_Ta_putBytes_27 (by omega) (by decide) (by decide) ?_
  refine ev_i2b de_Ta_putBytes_28 ?_
  refine ev_bastore de_Ta_putBytes_29 rfl (by decide) (by decide) (by decide) ?_
  refine ev_world (w' := ((fw_0.set 1 (ab_ob 8 [ab_R (2), ab_I (12), ab_I (0), ab_R (ab_sb + 0), ab_I (0), ab_I (0), ab_I (0), ab_I (0), ab_I (0)])).set 2 (ab_ai 1 400 (_)))) rfl ?_
  refine ev_aload_n de_Ta_putBytes_30 rfl rfl ?_
  refine ev_dup de_Ta_putBytes_31 rfl ?_
  refine ev_getfield de_Ta_putBytes_32 rfl fl_Ta_21 rfl ?_
  refine ev_iconst de_Ta_putBytes_35 ?_
  refine ev_iadd de_Ta_putBytes_36 ?_
  refine ev_top (b := ab_I (13)) rfl ?_
  refine ev_putfield de_Ta_putBytes_37 rfl (fp_Ta_21 _) (Nat.le_of_ble_eq_true rfl) trivial ?_
  refine ev_world (w' := ((fw_0.set 1 (ab_ob 8 [ab_R (2), ab_I (13), ab_I (0), ab_R (ab_sb + 0), ab_I (0), ab_I (0), ab_I (0), ab_I (0), ab_I (0)])).set 2 (ab_ai 1 400 (_)))) rfl ?_
  refine ev_iinc (l' := [_, _, _]) de_Ta_putBytes_40 rfl rfl ?_
  refine ev_loc (l2 := [some (ab_R (1)), some (ab_I (v0)), some (ab_I (16))]) rfl ?_
  refine ev_goto (tgt := 3) de_Ta_putBytes_43 (by decide) ?_
  refine ev_iload_n de_Ta_putBytes_3 rfl rfl ?_
  refine ev_if_lt (tgt := 46) de_Ta_putBytes_4 (by decide) (by decide) (fun h => absurd h (by decide)) (fun _ => ?_)
  refine ev_aload_n de_Ta_putBytes_7 rfl rfl ?_
  refine ev_getfield de_Ta_putBytes_8 rfl fl_Ta_21 rfl ?_
  refine ev_sipush de_Ta_putBytes_11 rfl ?_
  refine ev_icmp_ge (tgt := 46) de_Ta_putBytes_14 (by decide) (by decide) (by decide) (fun h => absurd h (by decide)) (fun _ => ?_)
  refine ev_aload_n de_Ta_putBytes_17 rfl rfl ?_
  refine ev_getfield de_Ta_putBytes_18 rfl fl_Ta_9 rfl ?_
  refine ev_aload_n de_Ta_putBytes_21 rfl rfl ?_
  refine ev_getfield de_Ta_putBytes_22 rfl fl_Ta_21 rfl ?_
  refine ev_iload_n de_Ta_putBytes_25 rfl rfl ?_
  refine ev_iload_n de_Ta_putBytes_26 rfl rfl ?_
  refine ev_iushr de_Ta_putBytes_27 (by omega) (by decide) (by decide) ?_
  refine ev_i2b de_Ta_putBytes_28 ?_
  refine ev_bastore de_Ta_putBytes_29 rfl (by decide) (by decide) (by decide) ?_
  refine ev_world (w' := ((fw_0.set 1 (ab_ob 8 [ab_R (2), ab_I (13), ab_I (0), ab_R (ab_sb + 0), ab_I (0), ab_I (0), ab_I (0), ab_I (0), ab_I (0)])).set 2 (ab_ai 1 400 (_)))) rfl ?_
  refine ev_aload_n de_Ta_putBytes_30 rfl rfl ?_
  refine ev_dup de_Ta_putBytes_31 rfl ?_
  refine ev_getfield de_Ta_putBytes_32 rfl fl_Ta_21 rfl ?_
  refine ev_iconst de_Ta_putBytes_35 ?_
  refine ev_iadd de_Ta_putBytes_36 ?_
  refine ev_top (b := ab_I (14)) rfl ?_
  refine ev_putfield de_Ta_putBytes_37 rfl (fp_Ta_21 _) (Nat.le_of_ble_eq_true rfl) trivial ?_
  refine ev_world (w' := ((fw_0.set 1 (ab_ob 8 [ab_R (2), ab_I (14), ab_I (0), ab_R (ab_sb + 0), ab_I (0), ab_I (0), ab_I (0), ab_I (0), ab_I (0)])).set 2 (ab_ai 1 400 (_)))) rfl ?_
  refine ev_iinc (l' := [_, _, _]) de_Ta_putBytes_40 rfl rfl ?_
  refine ev_loc (l2 := [some (ab_R (1)), some (ab_I (v0)), some (ab_I (8))]) rfl ?_
  refine ev_goto (tgt := 3) de_Ta_putBytes_43 (by decide) ?_
  refine ev_iload_n de_Ta_putBytes_3 rfl rfl ?_
  refine ev_if_lt (tgt := 46) de_Ta_putBytes_4 (by decide) (by decide) (fun h => absurd h (by decide)) (fun _ => ?_)
  refine ev_aload_n de_Ta_putBytes_7 rfl rfl ?_
  refine ev_getfield de_Ta_putBytes_8 rfl fl_Ta_21 rfl ?_
  refine ev_sipush de_Ta_putBytes_11 rfl ?_
  refine ev_icmp_ge (tgt := 46) de_Ta_putBytes_14 (by decide) (by decide) (by decide) (fun h => absurd h (by decide)) (fun _ => ?_)
  refine ev_aload_n de_Ta_putBytes_17 rfl rfl ?_
  refine ev_getfield de_Ta_putBytes_18 rfl fl_Ta_9 rfl ?_
  refine ev_aload_n de_Ta_putBytes_21 rfl rfl ?_
  refine ev_getfield de_Ta_putBytes_22 rfl fl_Ta_21 rfl ?_
  refine ev_iload_n de_Ta_putBytes_25 rfl rfl ?_
  refine ev_iload_n de_Ta_putBytes_26 rfl rfl ?_
  refine ev_iushr de_Ta_putBytes_27 (by omega) (by decide) (by decide) ?_
  refine ev_i2b de_Ta_putBytes_28 ?_
  refine ev_bastore de_Ta_putBytes_29 rfl (by decide) (by decide) (by decide) ?_
  refine ev_world (w' := ((fw_0.set 1 (ab_ob 8 [ab_R (2), ab_I (14), ab_I (0), ab_R (ab_sb + 0), ab_I (0), ab_I (0), ab_I (0), ab_I (0), ab_I (0)])).set 2 (ab_ai 1 400 (_)))) rfl ?_
  refine ev_aload_n de_Ta_putBytes_30 rfl rfl ?_
  refine ev_dup de_Ta_putBytes_31 rfl ?_
  refine ev_getfield de_Ta_putBytes_32 rfl fl_Ta_21 rfl ?_
  refine ev_iconst de_Ta_putBytes_35 ?_
  refine ev_iadd de_Ta_putBytes_36 ?_
  refine ev_top (b := ab_I (15)) rfl ?_
  refine ev_putfield de_Ta_putBytes_37 rfl (fp_Ta_21 _) (Nat.le_of_ble_eq_true rfl) trivial ?_
  refine ev_world (w' := ((fw_0.set 1 (ab_ob 8 [ab_R (2), ab_I (15), ab_I (0), ab_R (ab_sb + 0), ab_I (0), ab_I (0), ab_I (0), ab_I (0), ab_I (0)])).set 2 (ab_ai 1 400 (_)))) rfl ?_
  refine ev_iinc (l' := [_, _, _]) de_Ta_putBytes_40 rfl rfl ?_
  refine ev_loc (l2 := [some (ab_R (1)), some (ab_I (v0)), some (ab_I (0))]) rfl ?_
  refine ev_goto (tgt := 3) de_Ta_putBytes_43 (by decide) ?_
  refine ev_iload_n de_Ta_putBytes_3 rfl rfl ?_
  refine ev_if_lt (tgt := 46) de_Ta_putBytes_4 (by decide) (by decide) (fun h => absurd h (by decide)) (fun _ => ?_)
  refine ev_aload_n de_Ta_putBytes_7 rfl rfl ?_
  refine ev_getfield de_Ta_putBytes_8 rfl fl_Ta_21 rfl ?_
  refine ev_sipush de_Ta_putBytes_11 rfl ?_
  refine ev_icmp_ge (tgt := 46) de_Ta_putBytes_14 (by decide) (by decide) (by decide) (fun h => absurd h (by decide)) (fun _ => ?_)
  refine ev_aload_n de_Ta_putBytes_17 rfl rfl ?_
  refine ev_getfield de_Ta_putBytes_18 rfl fl_Ta_9 rfl ?_
  refine ev_aload_n de_Ta_putBytes_21 rfl rfl ?_
  refine ev_getfield de_Ta_putBytes_22 rfl fl_Ta_21 rfl ?_
  refine ev_iload_n de_Ta_putBytes_25 rfl rfl ?_
  refine ev_iload_n de_Ta_putBytes_26 rfl rfl ?_
  refine ev_iushr de_Ta_putBytes_27 (by omega) (by decide) (by decide) ?_
  refine ev_i2b de_Ta_putBytes_28 ?_
  refine ev_bastore de_Ta_putBytes_29 rfl (by decide) (by decide) (by decide) ?_
  refine ev_world (w' := ((fw_0.set 1 (ab_ob 8 [ab_R (2), ab_I (15), ab_I (0), ab_R (ab_sb + 0), ab_I (0), ab_I (0), ab_I (0), ab_I (0), ab_I (0)])).set 2 (ab_ai 1 400 (_)))) rfl ?_
  refine ev_aload_n de_Ta_putBytes_30 rfl rfl ?_
  refine ev_dup de_Ta_putBytes_31 rfl ?_
  refine ev_getfield de_Ta_putBytes_32 rfl fl_Ta_21 rfl ?_
  refine ev_iconst de_Ta_putBytes_35 ?_
  refine ev_iadd de_Ta_putBytes_36 ?_
  refine ev_top (b := ab_I (16)) rfl ?_
  refine ev_putfield de_Ta_putBytes_37 rfl (fp_Ta_21 _) (Nat.le_of_ble_eq_true rfl) trivial ?_
  refine ev_world (w' := ((fw_0.set 1 (ab_ob 8 [ab_R (2), ab_I (16), ab_I (0), ab_R (ab_sb + 0), ab_I (0), ab_I (0), ab_I (0), ab_I (0), ab_I (0)])).set 2 (ab_ai 1 400 (_)))) rfl ?_
  refine ev_iinc (l' := [_, _, _]) de_Ta_putBytes_40 rfl rfl ?_
  refine ev_loc (l2 := [some (ab_R (1)), some (ab_I (v0)), some (ab_I ((-8)))]) rfl ?_
  refine ev_goto (tgt := 3) de_Ta_putBytes_43 (by decide) ?_
  refine ev_iload_n de_Ta_putBytes_3 rfl rfl ?_
  refine ev_if_lt (tgt := 46) de_Ta_putBytes_4 (by decide) (by decide) (fun _ => ?_) (fun h => absurd h (by decide))
  exact ev_return de_Ta_putBytes_46 rfl ⟨rfl, _, rfl⟩
set_option maxHeartbeats 4000000 in
set_option maxRecDepth 20000 in
theorem pb_16 (f : Int → Int) (v0 : Int) (hv0 : ab_in v0) : ab_Mt g_G g_rs mt_Ta_putBytes 1 0 0 [ab_R (1), ab_I (v0)] ((fw_0.set 1 (ab_ob 8 [ab_R (2), ab_I (16), ab_I (0), ab_R (ab_sb + 0), ab_I (0), ab_I (0), ab_I (0), ab_I (0), ab_I (0)])).set 2 (ab_ai 1 400 (f))) (fun r w2 => r = none ∧ ∃ g0, w2 = ((fw_0.set 1 (ab_ob 8 [ab_R (2), ab_I (20), ab_I (0), ab_R (ab_sb + 0), ab_I (0), ab_I (0), ab_I (0), ab_I (0), ab_I (0)])).set 2 (ab_ai 1 400 (g0)))) := by
  refine ab_Mt.of rfl (Nat.le_of_ble_eq_true rfl) ?_
  show ab_Ev g_G g_rs mt_Ta_putBytes _ _ _ 0 [some (ab_R (1)), some (ab_I (v0)), none] [] _ _
  refine ev_bipush de_Ta_putBytes_0 rfl ?_
  refine ev_istore_n (l' := [_, _, _]) de_Ta_putBytes_2 rfl (Nat.le_of_ble_eq_true rfl) rfl ?_
  refine ev_iload_n de_Ta_putBytes_3 rfl rfl ?_
  refine ev_if_lt (tgt := 46) de_Ta_putBytes_4 (by decide) (by decide) (fun h => absurd h (by decide)) (fun _ => ?_)
  refine ev_aload_n de_Ta_putBytes_7 rfl rfl ?_
  refine ev_getfield de_Ta_putBytes_8 rfl fl_Ta_21 rfl ?_
  refine ev_sipush de_Ta_putBytes_11 rfl ?_
  refine ev_icmp_ge (tgt := 46) de_Ta_putBytes_14 (by decide) (by decide) (by decide) (fun h => absurd h (by decide)) (fun _ => ?_)
  refine ev_aload_n de_Ta_putBytes_17 rfl rfl ?_
  refine ev_getfield de_Ta_putBytes_18 rfl fl_Ta_9 rfl ?_
  refine ev_aload_n de_Ta_putBytes_21 rfl rfl ?_
  refine ev_getfield de_Ta_putBytes_22 rfl fl_Ta_21 rfl ?_
  refine ev_iload_n de_Ta_putBytes_25 rfl rfl ?_
  refine ev_iload_n de_Ta_putBytes_26 rfl rfl ?_
  refine ev_iushr de_Ta_putBytes_27 (by omega) (by decide) (by decide) ?_
  refine ev_i2b de_Ta_putBytes_28 ?_
  refine ev_bastore de_Ta_putBytes_29 rfl (by decide) (by decide) (by decide) ?_
  refine ev_world (w' := ((fw_0.set 1 (ab_ob 8 [ab_R (2), ab_I (16), ab_I (0), ab_R (ab_sb + 0), ab_I (0), ab_I (0), ab_I (0), ab_I (0), ab_I (0)])).set 2 (ab_ai 1 400 (_)))) rfl ?_
  refine ev_aload_n de_Ta_putBytes_30 rfl rfl ?_
  refine ev_dup de_Ta_putBytes_31 rfl ?_
  refine ev_getfield de_Ta_putBytes_32 rfl fl_Ta_21 rfl ?_
  refine ev_iconst de_Ta_putBytes_35 ?_
  refine ev_iadd de_Ta_putBytes_36 ?_
  refine ev_top (b := ab_I (17)) rfl ?_
  refine ev_putfield de_Ta_putBytes_37 rfl (fp_Ta_21 _) (Nat.le_of_ble_eq_true rfl) trivial ?_
  refine ev_world (w' := ((fw_0.set 1 (ab_ob 8 [ab_R (2), ab_I (17), ab_I (0), ab_R (ab_sb + 0), ab_I (0), ab_I (0), ab_I (0), ab_I (0), ab_I (0)])).set 2 (ab_ai 1 400 (_)))) rfl ?_
  refine ev_iinc (l' := [_, _, _]) de_Ta_putBytes_40 rfl rfl ?_
  refine ev_loc (l2 := [some (ab_R (1)), some (ab_I (v0)), some (ab_I (16))]) rfl ?_
  refine ev_goto (tgt := 3) de_Ta_putBytes_43 (by decide) ?_
  refine ev_iload_n de_Ta_putBytes_3 rfl rfl ?_
  refine ev_if_lt (tgt := 46) de_Ta_putBytes_4 (by decide) (by decide) (fun h => absurd h (by decide)) (fun _ => ?_)
  refine ev_aload_n de_Ta_putBytes_7 rfl rfl ?_
  refine ev_getfield de_Ta_putBytes_8 rfl fl_Ta_21 rfl ?_
  refine ev_sipush de_Ta_putBytes_11 rfl ?_
  refine ev_icmp_ge (tgt := 46) de_Ta_putBytes_14 (by decide) (by decide) (by decide) (fun h => absurd h (by decide)) (fun _ => ?_)
  refine ev_aload_n de_Ta_putBytes_17 rfl rfl ?_
  refine ev_getfield de_Ta_putBytes_18 rfl fl_Ta_9 rfl ?_
  refine ev_aload_n de_Ta_putBytes_21 rfl rfl ?_
  refine ev_getfield de_Ta_putBytes_22 rfl fl_Ta_21 rfl ?_
  refine ev_iload_n de_Ta_putBytes_25 rfl rfl ?_
  refine ev_iload_n de_Ta_putBytes_26 rfl rfl ?_
  refine ev_iushr de_Ta_putBytes_27 (by omega) (by decide) (by decide) ?_
  refine ev_i2b de_Ta_putBytes_28 ?_
  refine ev_bastore de_Ta_putBytes_29 rfl (by decide) (by decide) (by decide) ?_
  refine ev_world (w' := ((fw_0.set 1 (ab_ob 8 [ab_R (2), ab_I (17), ab_I (0), ab_R (ab_sb + 0), ab_I (0), ab_I (0), ab_I (0), ab_I (0), ab_I (0)])).set 2 (ab_ai 1 400 (_)))) rfl ?_
  refine ev_aload_n de_Ta_putBytes_30 rfl rfl ?_
  refine ev_dup de_Ta_putBytes_31 rfl ?_
  refine ev_getfield de_Ta_putBytes_32 rfl fl_Ta_21 rfl ?_
  refine ev_iconst de_Ta_putBytes_35 ?_
  refine ev_iadd de_Ta_putBytes_36 ?_
  refine ev_top (b := ab_I (18)) rfl ?_
  refine ev_putfield de_Ta_putBytes_37 rfl (fp_Ta_21 _) (Nat.le_of_ble_eq_true rfl) trivial ?_
  refine ev_world (w' := ((fw_0.set 1 (ab_ob 8 [ab_R (2), ab_I (18), ab_I (0), ab_R (ab_sb + 0), ab_I (0), ab_I (0), ab_I (0), ab_I (0), ab_I (0)])).set 2 (ab_ai 1 400 (_)))) rfl ?_
  refine ev_iinc (l' := [_, _, _]) de_Ta_putBytes_40 rfl rfl ?_
  refine ev_loc (l2 := [some (ab_R (1)), some (ab_I (v0)), some (ab_I (8))]) rfl ?_
  refine ev_goto (tgt := 3) de_Ta_putBytes_43 (by decide) ?_
  refine ev_iload_n de_Ta_putBytes_3 rfl rfl ?_
  refine ev_if_lt (tgt := 46) de_Ta_putBytes_4 (by decide) (by decide) (fun h => absurd h (by decide)) (fun _ => ?_)
  refine ev_aload_n de_Ta_putBytes_7 rfl rfl ?_
  refine ev_getfield de_Ta_putBytes_8 rfl fl_Ta_21 rfl ?_
  refine ev_sipush de_Ta_putBytes_11 rfl ?_
  refine ev_icmp_ge (tgt := 46) de_Ta_putBytes_14 (by decide) (by decide) (by decide) (fun h => absurd h (by decide)) (fun _ => ?_)
  refine ev_aload_n de_Ta_putBytes_17 rfl rfl ?_
  refine ev_getfield de_Ta_putBytes_18 rfl fl_Ta_9 rfl ?_
  refine ev_aload_n de_Ta_putBytes_21 rfl rfl ?_
  refine ev_getfield de_Ta_putBytes_22 rfl fl_Ta_21 rfl ?_
  refine ev_iload_n de_Ta_putBytes_25 rfl rfl ?_
  refine ev_iload_n de_Ta_putBytes_26 rfl rfl ?_
  refine ev_iushr de_Ta_putBytes_27 (by omega) (by decide) (by decide) ?_
  refine ev_i2b de_Ta_putBytes_28 ?_
  refine ev_bastore de_Ta_putBytes_29 rfl (by decide) (by decide) (by decide) ?_
  refine ev_world (w' := ((fw_0.set 1 (ab_ob 8 [ab_R (2), ab_I (18), ab_I (0), ab_R (ab_sb + 0), ab_I (0), ab_I (0), ab_I (0), ab_I (0), ab_I (0)])).set 2 (ab_ai 1 400 (_)))) rfl ?_
  refine ev_aload_n de_Ta_putBytes_30 rfl rfl ?_
  refine ev_dup de_Ta_putBytes_31 rfl ?_
  refine ev_getfield de_Ta_putBytes_32 rfl fl_Ta_21 rfl ?_
  refine ev_iconst de_Ta_putBytes_35 ?_
  refine ev_iadd de_Ta_putBytes_36 ?_
  refine ev_top (b := ab_I (19)) rfl ?_
  refine ev_putfield de_Ta_putBytes_37 rfl (fp_Ta_21 _) (Nat.le_of_ble_eq_true rfl) trivial ?_
  refine ev_world (w' := ((fw_0.set 1 (ab_ob 8 [ab_R (2), ab_I (19), ab_I (0), ab_R (ab_sb + 0), ab_I (0), ab_I (0), ab_I (0), ab_I (0), ab_I (0)])).set 2 (ab_ai 1 400 (_)))) rfl ?_
  refine ev_iinc (l' := [_, _, _]) de_Ta_putBytes_40 rfl rfl ?_
  refine ev_loc (l2 := [some (ab_R (1)), some (ab_I (v0)), some (ab_I (0))]) rfl ?_
  refine ev_goto (tgt := 3) de_Ta_putBytes_43 (by decide) ?_
  refine ev_iload_n de_Ta_putBytes_3 rfl rfl ?_
  refine ev_if_lt (tgt := 46) de_Ta_putBytes_4 (by decide) (by decide) (fun h => absurd h (by decide)) (fun _ => ?_)
  refine ev_aload_n de_Ta_putBytes_7 rfl rfl ?_
  refine ev_getfield de_Ta_putBytes_8 rfl fl_Ta_21 rfl ?_
  refine ev_sipush de_Ta_putBytes_11 rfl ?_
  refine ev_icmp_ge (tgt := 46) de_Ta_putBytes_14 (by decide) (by decide) (by decide) (fun h => absurd h (by decide)) (fun _ => ?_)
  refine ev_aload_n de_Ta_putBytes_17 rfl rfl ?_
  refine ev_getfield de_Ta_putBytes_18 rfl fl_Ta_9 rfl ?_
  refine ev_aload_n de_Ta_putBytes_21 rfl rfl ?_
  refine ev_getfield de_Ta_putBytes_22 rfl fl_Ta_21 rfl ?_
  refine ev_iload_n de_Ta_putBytes_25 rfl rfl ?_
  refine ev_iload_n de_Ta_putBytes_26 rfl rfl ?_
  refine ev_iushr de_Ta_putBytes_27 (by omega) (by decide) (by decide) ?_
  refine ev_i2b de_Ta_putBytes_28 ?_
  refine ev_bastore de_Ta_putBytes_29 rfl (by decide) (by decide) (by decide) ?_
  refine ev_world (w' := ((fw_0.set 1 (ab_ob 8 [ab_R (2), ab_I (19), ab_I (0), ab_R (ab_sb + 0), ab_I (0), ab_I (0), ab_I (0), ab_I (0), ab_I (0)])).set 2 (ab_ai 1 400 (_)))) rfl ?_
  refine ev_aload_n de_Ta_putBytes_30 rfl rfl ?_
  refine ev_dup de_Ta_putBytes_31 rfl ?_
  refine ev_getfield de_Ta_putBytes_32 rfl fl_Ta_21 rfl ?_
  refine ev_iconst de_Ta_putBytes_35 ?_
  refine ev_iadd de_Ta_putBytes_36 ?_
  refine ev_top (b := ab_I (20)) rfl ?_
  refine ev_putfield de_Ta_putBytes_37 rfl (fp_Ta_21 _) (Nat.le_of_ble_eq_true rfl) trivial ?_
  refine ev_world (w' := ((fw_0.set 1 (ab_ob 8 [ab_R (2), ab_I (20), ab_I (0), ab_R (ab_sb + 0), ab_I (0), ab_I (0), ab_I (0), ab_I (0), ab_I (0)])).set 2 (ab_ai 1 400 (_)))) rfl ?_
  refine ev_iinc (l' := [_, _, _]) de_Ta_putBytes_40 rfl rfl ?_
  refine ev_loc (l2 := [some (ab_R (1)), some (ab_I (v0)), some (ab_I ((-8)))]) rfl ?_
  refine ev_goto (tgt := 3) de_Ta_putBytes_43 (by decide) ?_
  refine ev_iload_n de_Ta_putBytes_3 rfl rfl ?_
  refine ev_if_lt (tgt := 46) de_Ta_putBytes_4 (by decide) (by decide) (fun _ => ?_) (fun h => absurd h (by decide))
  exact ev_return de_Ta_putBytes_46 rfl ⟨rfl, _, rfl⟩
theorem de_Tu_feed_0 : decode prog_1_method_2_code 0 = .ok (.aload_n 0, 1) := by decide +kernel
theorem de_Tu_feed_1 : decode prog_1_method_2_code 1 = .ok (.getfield 10, 3) := by decide +kernel
theorem de_Tu_feed_4 : decode prog_1_method_2_code 4 = .ok (.getfield 82, 3) := by decide +kernel
theorem de_Tu_feed_7 : decode prog_1_method_2_code 7 = .ok (.bipush 20, 2) := by decide +kernel
theorem de_Tu_feed_9 : decode prog_1_method_2_code 9 = .ok (.iadd, 1) := by decide +kernel
theorem de_Tu_feed_10 : decode prog_1_method_2_code 10 = .ok (.sipush 400, 3) := by decide +kernel
theorem de_Tu_feed_13 : decode prog_1_method_2_code 13 = .ok (.if_icmp .le 5, 3) := by decide +kernel
theorem de_Tu_feed_18 : decode prog_1_method_2_code 18 = .ok (.aload_n 0, 1) := by decide +kernel
theorem de_Tu_feed_19 : decode prog_1_method_2_code 19 = .ok (.getfield 10, 3) := by decide +kernel
theorem de_Tu_feed_22 : decode prog_1_method_2_code 22 = .ok (.iload_n 1, 1) := by decide +kernel
theorem de_Tu_feed_23 : decode prog_1_method_2_code 23 = .ok (.invokevirtual 86, 3) := by decide +kernel
theorem de_Tu_feed_26 : decode prog_1_method_2_code 26 = .ok (.aload_n 0, 1) := by decide +kernel
theorem de_Tu_feed_27 : decode prog_1_method_2_code 27 = .ok (.getfield 10, 3) := by decide +kernel
theorem de_Tu_feed_30 : decode prog_1_method_2_code 30 = .ok (.iload_n 2, 1) := by decide +kernel
theorem de_Tu_feed_31 : decode prog_1_method_2_code 31 = .ok (.invokevirtual 86, 3) := by decide +kernel
theorem de_Tu_feed_34 : decode prog_1_method_2_code 34 = .ok (.aload_n 0, 1) := by decide +kernel
theorem de_Tu_feed_35 : decode prog_1_method_2_code 35 = .ok (.getfield 10, 3) := by decide +kernel
theorem de_Tu_feed_38 : decode prog_1_method_2_code 38 = .ok (.iload_n 3, 1) := by decide +kernel
theorem de_Tu_feed_39 : decode prog_1_method_2_code 39 = .ok (.invokevirtual 86, 3) := by decide +kernel
theorem de_Tu_feed_42 : decode prog_1_method_2_code 42 = .ok (.aload_n 0, 1) := by decide +kernel
theorem de_Tu_feed_43 : decode prog_1_method_2_code 43 = .ok (.getfield 10, 3) := by decide +kernel
theorem de_Tu_feed_46 : decode prog_1_method_2_code 46 = .ok (.iload 4, 2) := by decide +kernel
theorem de_Tu_feed_48 : decode prog_1_method_2_code 48 = .ok (.invokevirtual 86, 3) := by decide +kernel
theorem de_Tu_feed_51 : decode prog_1_method_2_code 51 = .ok (.aload_n 0, 1) := by decide +kernel
theorem de_Tu_feed_52 : decode prog_1_method_2_code 52 = .ok (.getfield 10, 3) := by decide +kernel
theorem de_Tu_feed_55 : decode prog_1_method_2_code 55 = .ok (.iload 5, 2) := by decide +kernel
theorem de_Tu_feed_57 : decode prog_1_method_2_code 57 = .ok (.invokevirtual 86, 3) := by decide +kernel
theorem de_Tu_feed_60 : decode prog_1_method_2_code 60 = .ok (.aload_n 0, 1) := by decide +kernel
theorem de_Tu_feed_61 : decode prog_1_method_2_code 61 = .ok (.getfield 10, 3) := by decide +kernel
theorem de_Tu_feed_64 : decode prog_1_method_2_code 64 = .ok (.getfield 82, 3) := by decide +kernel
theorem de_Tu_feed_67 : decode prog_1_method_2_code 67 = .ok (.ireturn, 1) := by decide +kernel
set_option maxHeartbeats 4000000 in
set_option maxRecDepth 20000 in
theorem xx_feed (v0 : Int) (hv0 : ab_in v0) (v1 : Int) (hv1 : ab_in v1) (v2 : Int) (hv2 : ab_in v2) (v3 : Int) (hv3 : ab_in v3) (v4 : Int) (hv4 : ab_in v4) : ab_Mt g_G g_rs mt_Tu_feed 2 0 0 [ab_R (0), ab_I (v0), ab_I (v1), ab_I (v2), ab_I (v3), ab_I (v4)] fw_0 (fun r w2 => r = some (ab_I 20) ∧ ∃ g0, w2 = ((fw_0.set 1 (ab_ob 8 [ab_R (2), ab_I (20), ab_I (0), ab_R (ab_sb + 0), ab_I (0), ab_I (0), ab_I (0), ab_I (0), ab_I (0)])).set 2 (ab_ai 1 400 (g0)))) := by
  refine ab_Mt.of rfl (Nat.le_of_ble_eq_true rfl) ?_
  show ab_Ev g_G g_rs mt_Tu_feed _ _ _ 0 [some (ab_R (0)), some (ab_I (v0)), some (ab_I (v1)), some (ab_I (v2)), some (ab_I (v3)), some (ab_I (v4))] [] _ _
  refine ev_aload_n de_Tu_feed_0 rfl rfl ?_
  refine ev_getfield de_Tu_feed_1 rfl fl_Tu_10 rfl ?_
  refine ev_getfield de_Tu_feed_4 rfl fl_Tu_82 rfl ?_
  refine ev_bipush de_Tu_feed_7 rfl ?_
  refine ev_iadd de_Tu_feed_9 ?_
  refine ev_top (b := ab_I (20)) rfl ?_
  refine ev_sipush de_Tu_feed_10 rfl ?_
  refine ev_icmp_le (tgt := 18) de_Tu_feed_13 (by decide) (by decide) (by decide) (fun _ => ?_) (fun h => absurd h (by decide))
  refine ev_aload_n de_Tu_feed_18 rfl rfl ?_
  refine ev_getfield de_Tu_feed_19 rfl fl_Tu_10 rfl ?_
  refine ev_iload_n de_Tu_feed_22 rfl rfl ?_
  refine ev_world (w' := (fw_0.set 2 (ab_ai 1 400 (fun _ => 0)))) rfl ?_
  refine ev_vnE (ci := 8) (W := fun f1 => ((fw_0.set 1 (ab_ob 8 [ab_R (2), ab_I (4), ab_I (0), ab_R (ab_sb + 0), ab_I (0), ab_I (0), ab_I (0), ab_I (0), ab_I (0)])).set 2 (ab_ai 1 400 (f1)))) de_Tu_feed_23 (pb_0 (fun _ => 0) v0 hv0) kb_Tu_86 ⟨im_Ta_putBytes, se_Ta_putBytes⟩ rfl rfl rfl (Nat.le_of_ble_eq_true rfl) (by decide) (fun _ => rfl) (fun f1 => ?_)
  refine ev_aload_n de_Tu_feed_26 rfl rfl ?_
  refine ev_getfield de_Tu_feed_27 rfl fl_Tu_10 rfl ?_
  refine ev_iload_n de_Tu_feed_30 rfl rfl ?_
  refine ev_vnE (ci := 8) (W := fun f2 => ((fw_0.set 1 (ab_ob 8 [ab_R (2), ab_I (8), ab_I (0), ab_R (ab_sb + 0), ab_I (0), ab_I (0), ab_I (0), ab_I (0), ab_I (0)])).set 2 (ab_ai 1 400 (f2)))) de_Tu_feed_31 (pb_4 (f1) v1 hv1) kb_Tu_86 ⟨im_Ta_putBytes, se_Ta_putBytes⟩ rfl rfl rfl (Nat.le_of_ble_eq_true rfl) (by decide) (fun _ => rfl) (fun f2 => ?_)
  refine ev_aload_n de_Tu_feed_34 rfl rfl ?_
  refine ev_getfield de_Tu_feed_35 rfl fl_Tu_10 rfl ?_
  refine ev_iload_n de_Tu_feed_38 rfl rfl ?_
  refine ev_vnE (ci := 8) (W := fun f3 => ((fw_0.set 1 (ab_ob 8 [ab_R (2), ab_I (12), ab_I (0), ab_R (ab_sb + 0), ab_I (0), ab_I (0), ab_I (0), ab_I (0), ab_I (0)])).set 2 (ab_ai 1 400 (f3)))) de_Tu_feed_39 (pb_8 (f2) v2 hv2) kb_Tu_86 ⟨im_Ta_putBytes, se_Ta_putBytes⟩ rfl rfl rfl (Nat.le_of_ble_eq_true rfl) (by decide) (fun _ => rfl) (fun f3 => ?_)
  refine ev_aload_n de_Tu_feed_42 rfl rfl ?_
  refine ev_getfield de_Tu_feed_43 rfl fl_Tu_10 rfl ?_
  refine ev_iload de_Tu_feed_46 rfl ?_
  refine ev_vnE (ci := 8) (W := fun f4 => ((fw_0.set 1 (ab_ob 8 [ab_R (2), ab_I (16), ab_I (0), ab_R (ab_sb + 0), ab_I (0), ab_I (0), ab_I (0), ab_I (0), ab_I (0)])).set 2 (ab_ai 1 400 (f4)))) de_Tu_feed_48 (pb_12 (f3) v3 hv3) kb_Tu_86 ⟨im_Ta_putBytes, se_Ta_putBytes⟩ rfl rfl rfl (Nat.le_of_ble_eq_true rfl) (by decide) (fun _ => rfl) (fun f4 => ?_)
  refine ev_aload_n de_Tu_feed_51 rfl rfl ?_
  refine ev_getfield de_Tu_feed_52 rfl fl_Tu_10 rfl ?_
  refine ev_iload de_Tu_feed_55 rfl ?_
  refine ev_vnE (ci := 8) (W := fun f5 => ((fw_0.set 1 (ab_ob 8 [ab_R (2), ab_I (20), ab_I (0), ab_R (ab_sb + 0), ab_I (0), ab_I (0), ab_I (0), ab_I (0), ab_I (0)])).set 2 (ab_ai 1 400 (f5)))) de_Tu_feed_57 (pb_16 (f4) v4 hv4) kb_Tu_86 ⟨im_Ta_putBytes, se_Ta_putBytes⟩ rfl rfl rfl (Nat.le_of_ble_eq_true rfl) (by decide) (fun _ => rfl) (fun f5 => ?_)
  refine ev_aload_n de_Tu_feed_60 rfl rfl ?_
  refine ev_getfield de_Tu_feed_61 rfl fl_Tu_10 rfl ?_
  refine ev_getfield de_Tu_feed_64 rfl fl_Tu_82 rfl ?_
  exact ev_ireturn de_Tu_feed_67 rfl ⟨rfl, _, rfl⟩
theorem de_Mo_four_0 : decode prog_14_method_5_code 0 = .ok (.bipush 24, 2) := by decide +kernel
theorem de_Mo_four_2 : decode prog_14_method_5_code 2 = .ok (.istore_n 2, 1) := by decide +kernel
theorem de_Mo_four_3 : decode prog_14_method_5_code 3 = .ok (.iload_n 2, 1) := by decide +kernel
theorem de_Mo_four_4 : decode prog_14_method_5_code 4 = .ok (.ifCond .lt 32, 3) := by decide +kernel
theorem de_Mo_four_7 : decode prog_14_method_5_code 7 = .ok (.aload_n 0, 1) := by decide +kernel
theorem de_Mo_four_8 : decode prog_14_method_5_code 8 = .ok (.getfield 7, 3) := by decide +kernel
theorem de_Mo_four_11 : decode prog_14_method_5_code 11 = .ok (.aload_n 0, 1) := by decide +kernel
theorem de_Mo_four_12 : decode prog_14_method_5_code 12 = .ok (.getfield 76, 3) := by decide +kernel
theorem de_Mo_four_15 : decode prog_14_method_5_code 15 = .ok (.iload_n 1, 1) := by decide +kernel
theorem de_Mo_four_16 : decode prog_14_method_5_code 16 = .ok (.iload_n 2, 1) := by decide +kernel
theorem de_Mo_four_17 : decode prog_14_method_5_code 17 = .ok (.ishr, 1) := by decide +kernel
theorem de_Mo_four_18 : decode prog_14_method_5_code 18 = .ok (.i2b, 1) := by decide +kernel
theorem de_Mo_four_19 : decode prog_14_method_5_code 19 = .ok (.bastore, 1) := by decide +kernel
theorem de_Mo_four_20 : decode prog_14_method_5_code 20 = .ok (.aload_n 0, 1) := by decide +kernel
theorem de_Mo_four_21 : decode prog_14_method_5_code 21 = .ok (.dup, 1) := by decide +kernel
theorem de_Mo_four_22 : decode prog_14_method_5_code 22 = .ok (.getfield 76, 3) := by decide +kernel
theorem de_Mo_four_25 : decode prog_14_method_5_code 25 = .ok (.iconst 1, 1) := by decide +kernel
theorem de_Mo_four_26 : decode prog_14_method_5_code 26 = .ok (.iadd, 1) := by decide +kernel
theorem de_Mo_four_27 : decode prog_14_method_5_code 27 = .ok (.putfield 76, 3) := by decide +kernel
theorem de_Mo_four_30 : decode prog_14_method_5_code 30 = .ok (.iinc 2 (-8), 3) := by decide +kernel
theorem de_Mo_four_33 : decode prog_14_method_5_code 33 = .ok (.goto (-30), 3) := by decide +kernel
theorem de_Mo_four_36 : decode prog_14_method_5_code 36 = .ok (.return_, 1) := by decide +kernel
set_option maxHeartbeats 4000000 in
set_option maxRecDepth 20000 in
theorem qb_0 (f : Int → Int) (g : Int → Int) (v0 : Int) (hv0 : ab_in v0) : ab_Mt g_G g_rs mt_Mo_four 1 0 0 [ab_R (107), ab_I (v0)] (((fw_0.set 1 (ab_ob 8 [ab_R (2), ab_I (20), ab_I (0), ab_R (ab_sb + 0), ab_I (0), ab_I (0), ab_I (0), ab_I (0), ab_I (0)])).set 2 (ab_ai 1 400 (g))).set 108 (ab_ai 1 400 (f))) (fun r w2 => r = none ∧ ∃ g0, w2 = ((((fw_0.set 1 (ab_ob 8 [ab_R (2), ab_I (20), ab_I (0), ab_R (ab_sb + 0), ab_I (0), ab_I (0), ab_I (0), ab_I (0), ab_I (0)])).set 2 (ab_ai 1 400 (g))).set 107 (ab_ob 11 [ab_R (108), ab_I (4), ab_I (0), ab_R (109), ab_R (110), ab_R (111), ab_R (112), ab_R (113), ab_I (0), ab_I (0), ab_I (0), ab_I (0), ab_I (0), ab_I (0), ab_I (0), ab_R (114), ab_I (0), ab_R (115), ab_I (0), ab_R (116), ab_R (117), ab_I (0), ab_R (118), ab_I (0), ab_R (119), ab_R (120), ab_R (121), ab_R (122), ab_R (123), ab_R (124), ab_R (125), ab_I (0), ab_I (0), ab_J (0), ab_R (126), ab_R (127), ab_R (128)])).set 108 (ab_ai 1 400 (g0)))) := by
  refine ab_Mt.of rfl (Nat.le_of_ble_eq_true rfl) ?_
  show ab_Ev g_G g_rs mt_Mo_four _ _ _ 0 [some (ab_R (107)), some (ab_I (v0)), none] [] _ _
  refine ev_bipush de_Mo_four_0 rfl ?_
  refine ev_istore_n (l' := [_, _, _]) de_Mo_four_2 rfl (Nat.le_of_ble_eq_true rfl) rfl ?_
  refine ev_iload_n de_Mo_four_3 rfl rfl ?_
  refine ev_if_lt (tgt := 36) de_Mo_four_4 (by decide) (by decide) (fun h => absurd h (by decide)) (fun _ => ?_)
  refine ev_aload_n de_Mo_four_7 rfl rfl ?_
  refine ev_getfield de_Mo_four_8 rfl fl_Mo_7 rfl ?_
  refine ev_aload_n de_Mo_four_11 rfl rfl ?_
  refine ev_getfield de_Mo_four_12 rfl fl_Mo_76 rfl ?_
  refine ev_iload_n de_Mo_four_15 rfl rfl ?_
  refine ev_iload_n de_Mo_four_16 rfl rfl ?_
  refine ev_ishr de_Mo_four_17 (by omega) (by decide) (by decide) ?_
  refine ev_i2b de_Mo_four_18 ?_
  refine ev_bastore de_Mo_four_19 rfl (by decide) (by decide) (by decide) ?_
  refine ev_world (w' := (((fw_0.set 1 (ab_ob 8 [ab_R (2), ab_I (20), ab_I (0), ab_R (ab_sb + 0), ab_I (0), ab_I (0), ab_I (0), ab_I (0), ab_I (0)])).set 2 (ab_ai 1 400 (g))).set 108 (ab_ai 1 400 (_)))) rfl ?_
  refine ev_aload_n de_Mo_four_20 rfl rfl ?_
  refine ev_dup de_Mo_four_21 rfl ?_
  refine ev_getfield de_Mo_four_22 rfl fl_Mo_76 rfl ?_
  refine ev_iconst de_Mo_four_25 ?_
  refine ev_iadd de_Mo_four_26 ?_
  refine ev_top (b := ab_I (1)) rfl ?_
  refine ev_putfield de_Mo_four_27 rfl (fp_Mo_76 _) (Nat.le_of_ble_eq_true rfl) trivial ?_
  refine ev_world (w' := ((((fw_0.set 1 (ab_ob 8 [ab_R (2), ab_I (20), ab_I (0), ab_R (ab_sb + 0), ab_I (0), ab_I (0), ab_I (0), ab_I (0), ab_I (0)])).set 2 (ab_ai 1 400 (g))).set 107 (ab_ob 11 [ab_R (108), ab_I (1), ab_I (0), ab_R (109), ab_R (110), ab_R (111), ab_R (112), ab_R (113), ab_I (0), ab_I (0), ab_I (0), ab_I (0), ab_I (0), ab_I (0), ab_I (0), ab_R (114), ab_I (0), ab_R (115), ab_I (0), ab_R (116), ab_R (117), ab_I (0), ab_R (118), ab_I (0), ab_R (119), ab_R (120), ab_R (121), ab_R (122), ab_R (123), ab_R (124), ab_R (125), ab_I (0), ab_I (0), ab_J (0), ab_R (126), ab_R (127), ab_R (128)])).set 108 (ab_ai 1 400 (_)))) rfl ?_
  refine ev_iinc (l' := [_, _, _]) de_Mo_four_30 rfl rfl ?_
  refine ev_loc (l2 := [some (ab_R (107)), some (ab_I (v0)), some (ab_I (16))]) rfl ?_
  refine ev_goto (tgt := 3) de_Mo_four_33 (by decide) ?_
  refine ev_iload_n de_Mo_four_3 rfl rfl ?_
  refine ev_if_lt (tgt := 36) de_Mo_four_4 (by decide) (by decide) (fun h => absurd h (by decide)) (fun _ => ?_)
  refine ev_aload_n de_Mo_four_7 rfl rfl ?_
  refine ev_getfield de_Mo_four_8 rfl fl_Mo_7 rfl ?_
  refine ev_aload_n de_Mo_four_11 rfl rfl ?_
  refine ev_getfield de_Mo_four_12 rfl fl_Mo_76 rfl ?_
  refine ev_iload_n de_Mo_four_15 rfl rfl ?_
  refine ev_iload_n de_Mo_four_16 rfl rfl ?_
  refine ev_ishr de_Mo_four_17 (by omega) (by decide) (by decide) ?_
  refine ev_i2b de_Mo_four_18 ?_
  refine ev_bastore de_Mo_four_19 rfl (by decide) (by decide) (by decide) ?_
  refine ev_world (w' := ((((fw_0.set 1 (ab_ob 8 [ab_R (2), ab_I (20), ab_I (0), ab_R (ab_sb + 0), ab_I (0), ab_I (0), ab_I (0), ab_I (0), ab_I (0)])).set 2 (ab_ai 1 400 (g))).set 107 (ab_ob 11 [ab_R (108), ab_I (1), ab_I (0), ab_R (109), ab_R (110), ab_R (111), ab_R (112), ab_R (113), ab_I (0), ab_I (0), ab_I (0), ab_I (0), ab_I (0), ab_I (0), ab_I (0), ab_R (114), ab_I (0), ab_R (115), ab_I (0), ab_R (116), ab_R (117), ab_I (0), ab_R (118), ab_I (0), ab_R (119), ab_R (120), ab_R (121), ab_R (122), ab_R (123), ab_R (124), ab_R (125), ab_I (0), ab_I (0), ab_J (0), ab_R (126), ab_R (127), ab_R (128)])).set 108 (ab_ai 1 400 (_)))) rfl ?_
  refine ev_aload_n de_Mo_four_20 rfl rfl ?_
  refine ev_dup de_Mo_four_21 rfl ?_
  refine ev_getfield de_Mo_four_22 rfl fl_Mo_76 rfl ?_
  refine ev_iconst de_Mo_four_25 ?_
  refine ev_iadd de_Mo_four_26 ?_
  refine ev_top (b := ab_I (2)) rfl ?_
  refine ev_putfield de_Mo_four_27 rfl (fp_Mo_76 _) (Nat.le_of_ble_eq_true rfl) trivial ?_
  refine ev_world (w' := ((((fw_0.set 1 (ab_ob 8 [ab_R (2), ab_I (20), ab_I (0), ab_R (ab_sb + 0), ab_I (0), ab_I (0), ab_I (0), ab_I (0), ab_I (0)])).set 2 (ab_ai 1 400 (g))).set 107 (ab_ob 11 [ab_R (108), ab_I (2), ab_I (0), ab_R (109), ab_R (110), ab_R (111), ab_R (112), ab_R (113), ab_I (0), ab_I (0), ab_I (0), ab_I (0), ab_I (0), ab_I (0), ab_I (0), ab_R (114), ab_I (0), ab_R (115), ab_I (0), ab_R (116), ab_R (117), ab_I (0), ab_R (118), ab_I (0), ab_R (119), ab_R (120), ab_R (121), ab_R (122), ab_R (123), ab_R (124), ab_R (125), ab_I (0), ab_I (0), ab_J (0), ab_R (126), ab_R (127), ab_R (128)])).set 108 (ab_ai 1 400 (_)))) rfl ?_
  refine ev_iinc (l' := [_, _, _]) de_Mo_four_30 rfl rfl ?_
  refine ev_loc (l2 := [some (ab_R (107)), some (ab_I (v0)), some (ab_I (8))]) rfl ?_
  refine ev_goto (tgt := 3) de_Mo_four_33 (by decide) ?_
  refine ev_iload_n de_Mo_four_3 rfl rfl ?_
  refine ev_if_lt (tgt := 36) de_Mo_four_4 (by decide) (by decide) (fun h => absurd h (by decide)) (fun _ => ?_)
  refine ev_aload_n de_Mo_four_7 rfl rfl ?_
  refine ev_getfield de_Mo_four_8 rfl fl_Mo_7 rfl ?_
  refine ev_aload_n de_Mo_four_11 rfl rfl ?_
  refine ev_getfield de_Mo_four_12 rfl fl_Mo_76 rfl ?_
  refine ev_iload_n de_Mo_four_15 rfl rfl ?_
  refine ev_iload_n de_Mo_four_16 rfl rfl ?_
  refine ev_ishr de_Mo_four_17 (by omega) (by decide) (by decide) ?_
  refine ev_i2b de_Mo_four_18 ?_
  refine ev_bastore de_Mo_four_19 rfl (by decide) (by decide) (by decide) ?_
  refine ev_world (w' := ((((fw_0.set 1 (ab_ob 8 [ab_R (2), ab_I (20), ab_I (0), ab_R (ab_sb + 0), ab_I (0), ab_I (0), ab_I (0), ab_I (0), ab_I (0)])).set 2 (ab_ai 1 400 (g))).set 107 (ab_ob 11 [ab_R (108), ab_I (2), ab_I (0), ab_R (109), ab_R (110), ab_R (111), ab_R (112), ab_R (113), ab_I (0), ab_I (0), ab_I (0), ab_I (0), ab_I (0), ab_I (0), ab_I (0), ab_R (114), ab_I (0), ab_R (115), ab_I (0), ab_R (116), ab_R (117), ab_I (0), ab_R (118), ab_I (0), ab_R (119), ab_R (120), ab_R (121), ab_R (122), ab_R (123), ab_R (124), ab_R (125), ab_I (0), ab_I (0), ab_J (0), ab_R (126), ab_R (127), ab_R (128)])).set 108 (ab_ai 1 400 (_)))) rfl ?_
  refine ev_aload_n de_Mo_four_20 rfl rfl ?_
  refine ev_dup de_Mo_four_21 rfl ?_
  refine ev_getfield de_Mo_four_22 rfl fl_Mo_76 rfl ?_
  refine ev_iconst de_Mo_four_25 ?_
  refine ev_iadd de_Mo_four_26 ?_
  refine ev_top (b := ab_I (3)) rfl ?_
  refine ev_putfield de_Mo_four_27 rfl (fp_Mo_76 _) (Nat.le_of_ble_eq_true rfl) trivial ?_
  refine ev_world (w' := ((((fw_0.set 1 (ab_ob 8 [ab_R (2), ab_I (20), ab_I (0), ab_R (ab_sb + 0), ab_I (0), ab_I (0), ab_I (0), ab_I (0), ab_I (0)])).set 2 (ab_ai 1 400 (g))).set 107 (ab_ob 11 [ab_R (108), ab_I (3), ab_I (0), ab_R (109), ab_R (110), ab_R (111), ab_R (112), ab_R (113), ab_I (0), ab_I (0), ab_I (0), ab_I (0), ab_I (0), ab_I (0), ab_I (0), ab_R (114), ab_I (0), ab_R (115), ab_I (0), ab_R (116), ab_R (117), ab_I (0), ab_R (118), ab_I (0), ab_R (119), ab_R (120), ab_R (121), ab_R (122), ab_R (123), ab_R (124), ab_R (125), ab_I (0), ab_I (0), ab_J (0), ab_R (126), ab_R (127), ab_R (128)])).set 108 (ab_ai 1 400 (_)))) rfl ?_
  refine ev_iinc (l' := [_, _, _]) de_Mo_four_30 rfl rfl ?_
  refine ev_loc (l2 := [some (ab_R (107)), some (ab_I (v0)), some (ab_I (0))]) rfl ?_
  refine ev_goto (tgt := 3) de_Mo_four_33 (by decide) ?_
  refine ev_iload_n de_Mo_four_3 rfl rfl ?_
  refine ev_if_lt (tgt := 36) de_Mo_four_4 (by decide) (by decide) (fun h => absurd h (by decide)) (fun _ => ?_)
  refine ev_aload_n de_Mo_four_7 rfl rfl ?_
  refine ev_getfield de_Mo_four_8 rfl fl_Mo_7 rfl ?_
  refine ev_aload_n de_Mo_four_11 rfl rfl ?_
  refine ev_getfield de_Mo_four_12 rfl fl_Mo_76 rfl ?_
  refine ev_iload_n de_Mo_four_15 rfl rfl ?_
  refine ev_iload_n de_Mo_four_16 rfl rfl ?_
  refine ev_ishr de_Mo_four_17 (by omega) (by decide) (by decide) ?_
  refine ev_i2b de_Mo_four_18 ?_
  refine ev_bastore de_Mo_four_19 rfl (by decide) (by decide) (by decide) ?_
  refine ev_world (w' := ((((fw_0.set 1 (ab_ob 8 [ab_R (2), ab_I (20), ab_I (0), ab_R (ab_sb + 0), ab_I (0), ab_I (0), ab_I (0), ab_I (0), ab_I (0)])).set 2 (ab_ai 1 400 (g))).set 107 (ab_ob 11 [ab_R (108), ab_I (3), ab_I (0), ab_R (109), ab_R (110), ab_R (111), ab_R (112), ab_R (113), ab_I (0), ab_I (0), ab_I (0), ab_I (0), ab_I (0), ab_I (0), ab_I (0), ab_R (114), ab_I (0), ab_R (115), ab_I (0), ab_R (116), ab_R (117), ab_I (0), ab_R (118), ab_I (0), ab_R (119), ab_R (120), ab_R (121), ab_R (122), ab_R (123), ab_R (124), ab_R (125), ab_I (0), ab_I (0), ab_J (0), ab_R (126), ab_R (127), ab_R (128)])).set 108 (ab_ai 1 400 (_)))) rfl ?_
  refine ev_aload_n de_Mo_four_20 rfl rfl ?_
  refine ev_dup de_Mo_four_21 rfl ?_
  refine ev_getfield de_Mo_four_22 rfl fl_Mo_76 rfl ?_
  refine ev_iconst de_Mo_four_25 ?_
  refine ev_iadd de_Mo_four_26 ?_
  refine ev_top (b := ab_I (4)) rfl ?_
  refine ev_putfield de_Mo_four_27 rfl (fp_Mo_76 _) (Nat.le_of_ble_eq_true rfl) trivial ?_
  refine ev_world (w' := ((((fw_0.set 1 (ab_ob 8 [ab_R (2), ab_I (20), ab_I (0), ab_R (ab_sb + 0), ab_I (0), ab_I (0), ab_I (0), ab_I (0), ab_I (0)])).set 2 (ab_ai 1 400 (g))).set 107 (ab_ob 11 [ab_R (108), ab_I (4), ab_I (0), ab_R (109), ab_R (110), ab_R (111), ab_R (112), ab_R (113), ab_I (0), ab_I (0), ab_I (0), ab_I (0), ab_I (0), ab_I (0), ab_I (0), ab_R (114), ab_I (0), ab_R (115), ab_I (0), ab_R (116), ab_R (117), ab_I (0), ab_R (118), ab_I (0), ab_R (119), ab_R (120), ab_R (121), ab_R (122), ab_R (123), ab_R (124), ab_R (125), ab_I (0), ab_I (0), ab_J (0), ab_R (126), ab_R (127), ab_R (128)])).set 108 (ab_ai 1 400 (_)))) rfl ?_
  refine ev_iinc (l' := [_, _, _]) de_Mo_four_30 rfl rfl ?_
  refine ev_loc (l2 := [some (ab_R (107)), some (ab_I (v0)), some (ab_I ((-8)))]) rfl ?_
  refine ev_goto (tgt := 3) de_Mo_four_33 (by decide) ?_
  refine ev_iload_n de_Mo_four_3 rfl rfl ?_
  refine ev_if_lt (tgt := 36) de_Mo_four_4 (by decide) (by decide) (fun _ => ?_) (fun h => absurd h (by decide))
  exact ev_return de_Mo_four_36 rfl ⟨rfl, _, rfl⟩
set_option maxHeartbeats 4000000 in
set_option maxRecDepth 20000 in
theorem qb_4 (f : Int → Int) (g : Int → Int) (v0 : Int) (hv0 : ab_in v0) : ab_Mt g_G g_rs mt_Mo_four 1 0 0 [ab_R (107), ab_I (v0)] ((((fw_0.set 1 (ab_ob 8 [ab_R (2), ab_I (20), ab_I (0), ab_R (ab_sb + 0), ab_I (0), ab_I (0), ab_I (0), ab_I (0), ab_I (0)])).set 2 (ab_ai 1 400 (g))).set 107 (ab_ob 11 [ab_R (108), ab_I (4), ab_I (0), ab_R (109), ab_R (110), ab_R (111), ab_R (112), ab_R (113), ab_I (0), ab_I (0), ab_I (0), ab_I (0), ab_I (0), ab_I (0), ab_I (0), ab_R (114), ab_I (0), ab_R (115), ab_I (0), ab_R (116), ab_R (117), ab_I (0), ab_R (118), ab_I (0), ab_R (119), ab_R (120), ab_R (121), ab_R (122), ab_R (123), ab_R (124), ab_R (125), ab_I (0), ab_I (0), ab_J (0), ab_R (126), ab_R (127), ab_R (128)])).set 108 (ab_ai 1 400 (f))) (fun r w2 => r = none ∧ ∃ g0, w2 = ((((fw_0.set 1 (ab_ob 8 [ab_R (2), ab_I (20), ab_I (0), ab_R (ab_sb + 0), ab_I (0), ab_I (0), ab_I (0), ab_I (0), ab_I (0)])).set 2 (ab_ai 1 400 (g))).set 107 (ab_ob 11 [ab_R (108), ab_I (8), ab_I (0), ab_R (109), ab_R (110), ab_R (111), ab_R (112), ab_R (113), ab_I (0), ab_I (0), ab_I (0), ab_I (0), ab_I (0), ab_I (0), ab_I (0), ab_R (114), ab_I (0), ab_R (115), ab_I (0), ab_R (116), ab_R (117), ab_I (0), ab_R (118), ab_I (0), ab_R (119), ab_R (120), ab_R (121), ab_R (122), ab_R (123), ab_R (124), ab_R (125), ab_I (0), ab_I (0), ab_J (0), ab_R (126), ab_R (127), ab_R (128)])).set 108 (ab_ai 1 400 (g0)))) := by
  refine ab_Mt.of rfl (Nat.le_of_ble_eq_true rfl) ?_
  show ab_Ev g_G g_rs mt_Mo_four _ _ _ 0 [some (ab_R (107)), some (ab_I (v0)), none] [] _ _
  refine ev_bipush de_Mo_four_0 rfl ?_
  refine ev_istore_n (l' := [_, _, _]) de_Mo_four_2 rfl (Nat.le_of_ble_eq_true rfl) rfl ?_
  refine ev_iload_n de_Mo_four_3 rfl rfl ?_
  refine ev_if_lt (tgt := 36) de_Mo_four_4 (by decide) (by decide) (fun h => absurd h (by decide)) (fun _ => ?_)
  refine ev_aload_n de_Mo_four_7 rfl rfl ?_
  refine ev_getfield de_Mo_four_8 rfl fl_Mo_7 rfl ?_
  refine ev_aload_n de_Mo_four_11 rfl rfl ?_
  refine ev_getfield de_Mo_four_12 rfl fl_Mo_76 rfl ?_
  refine ev_iload_n de_Mo_four_15 rfl rfl ?_
  refine ev_iload_n de_Mo_four_16 rfl rfl ?_
  refine ev_ishr de_Mo_four_17 (by omega) (by decide) (by decide) ?_
  refine ev_i2b de_Mo_four_18 ?_
  refine ev_bastore de_Mo_four_19 rfl (by decide) (by decide) (by decide) ?_
  refine ev_world (w' := ((((fw_0.set 1 (ab_ob 8 [ab_R (2), ab_I (20), ab_I (0), ab_R (ab_sb + 0), ab_I (0), ab_I (0), ab_I (0), ab_I (0), ab_I (0)])).set 2 (ab_ai 1 400 (g))).set 107 (ab_ob 11 [ab_R (108), ab_I (4), ab_I (0), ab_R (109), ab_R (110), ab_R (111), ab_R (112), ab_R (113), ab_I (0), ab_I (0), ab_I (0), ab_I (0), ab_I (0), ab_I (0), ab_I (0), ab_R (114), ab_I (0), ab_R (115), ab_I (0), ab_R (116), ab_R (117), ab_I (0), ab_R (118), ab_I (0), ab_R (119), ab_R (120), ab_R (121), ab_R (122), ab_R (123), ab_R (124), ab_R (125), ab_I (0), ab_I (0), ab_J (0), ab_R (126), ab_R (127), ab_R (128)])).set 108 (ab_ai 1 400 (_)))) rfl ?_
  refine ev_aload_n de_Mo_four_20 rfl rfl ?_
  refine ev_dup de_Mo_four_21 rfl ?_
  refine ev_getfield de_Mo_four_22 rfl fl_Mo_76 rfl ?_
  refine ev_iconst de_Mo_four_25 ?_
  refine ev_iadd de_Mo_four_26 ?_
  refine ev_top (b := ab_I (5)) rfl ?_
  refine ev_putfield de_Mo_four_27 rfl (fp_Mo_76 _) (Nat.le_of_ble_eq_true rfl) trivial ?_
  refine ev_world (w' := ((((fw_0.set 1 (ab_ob 8 [ab_R (2), ab_I (20), ab_I (0), ab_R (ab_sb + 0), ab_I (0), ab_I (0), ab_I (0), ab_I (0), ab_I (0)])).set 2 (ab_ai 1 400 (g))).set 107 (ab_ob 11 [ab_R (108), ab_I (5), ab_I (0), ab_R (109), ab_R (110), ab_R (111), ab_R (112), ab_R (113), ab_I (0), ab_I (0), ab_I (0), ab_I (0), ab_I (0), ab_I (0), ab_I (0), ab_R (114), ab_I (0), ab_R (115), ab_I (0), ab_R (116), ab_R (117), ab_I (0), ab_R (118), ab_I (0), ab_R (119), ab_R (120), ab_R (121), ab_R (122), ab_R (123), ab_R (124), ab_R (125), ab_I (0), ab_I (0), ab_J (0), ab_R (126), ab_R (127), ab_R (128)])).set 108 (ab_ai 1 400 (_)))) rfl ?_
  refine ev_iinc (l' := [_, _, _]) de_Mo_four_30 rfl rfl ?_
  refine ev_loc (l2 := [some (ab_R (107)), some (ab_I (v0)), some (ab_I (16))]) rfl ?_
  refine ev_goto (tgt := 3) de_Mo_four_33 (by decide) ?_
  refine ev_iload_n de_Mo_four_3 rfl rfl ?_
  refine ev_if_lt (tgt := 36) de_Mo_four_4 (by decide) (by decide) (fun h => absurd h (by decide)) (fun _ => ?_)
  refine ev_aload_n de_Mo_four_7 rfl rfl ?_
  refine ev_getfield de_Mo_four_8 rfl fl_Mo_7 rfl ?_
  refine ev_aload_n de_Mo_four_11 rfl rfl ?_
  refine ev_getfield de_Mo_four_12 rfl fl_Mo_76 rfl ?_
  refine ev_iload_n de_Mo_four_15 rfl rfl ?_
  refine ev_iload_n de_Mo_four_16 rfl rfl ?_
  refine ev_ishr de_Mo_four_17 (by omega) (by decide) (by decide) ?_
  refine ev_i2b de_Mo_four_18 ?_
  refine ev_bastore de_Mo_four_19 rfl (by decide) (by decide) (by decide) ?_
  refine ev_world (w' := ((((fw_0.set 1 (ab_ob 8 [ab_R (2), ab_I (20), ab_I (0), ab_R (ab_sb + 0), ab_I (0), ab_I (0), ab_I (0), ab_I (0), ab_I (0)])).set 2 (ab_ai 1 400 (g))).set 107 (ab_ob 11 [ab_R (108), ab_I (5), ab_I (0), ab_R (109), ab_R (110), ab_R (111), ab_R (112), ab_R (113), ab_I (0), ab_I (0), ab_I (0), ab_I (0), ab_I (0), ab_I (0), ab_I (0), ab_R (114), ab_I (0), ab_R (115), ab_I (0), ab_R (116), ab_R (117), ab_I (0), ab_R (118), ab_I (0), ab_R (119), ab_R (120), ab_R (121), ab_R (122), ab_R (123), ab_R (124), ab_R (125), ab_I (0), ab_I (0), ab_J (0), ab_R (126), ab_R (127), ab_R (128)])).set 108 (ab_ai 1 400 (_)))) rfl ?_
  refine ev_aload_n de_Mo_four_20 rfl rfl ?_
  refine ev_dup de_Mo_four_21 rfl ?_
  refine ev_getfield de_Mo_four_22 rfl fl_Mo_76 rfl ?_
  refine ev_iconst de_Mo_four_25 ?_
  refine ev_iadd de_Mo_four_26 ?_
  refine ev_top (b := ab_I (6)) rfl ?_
  refine ev_putfield de_Mo_four_27 rfl (fp_Mo_76 _) (Nat.le_of_ble_eq_true rfl) trivial ?_
  refine ev_world (w' := ((((fw_0.set 1 (ab_ob 8 [ab_R (2), ab_I (20), ab_I (0), ab_R (ab_sb + 0), ab_I (0), ab_I (0), ab_I (0), ab_I (0), ab_I (0)])).set 2 (ab_ai 1 400 (g))).set 107 (ab_ob 11 [ab_R (108), ab_I (6), ab_I (0), ab_R (109), ab_R (110), ab_R (111), ab_R (112), ab_R (113), ab_I (0), ab_I (0), ab_I (0), ab_I (0), ab_I (0), ab_I (0), ab_I (0), ab_R (114), ab_I (0), ab_R (115), ab_I (0), ab_R (116), ab_R (117), ab_I (0), ab_R (118), ab_I (0), ab_R (119), ab_R (120), ab_R (121), ab_R (122), ab_R (123), ab_R (124), ab_R (125), ab_I (0), ab_I (0), ab_J (0), ab_R (126), ab_R (127), ab_R (128)])).set 108 (ab_ai 1 400 (_)))) rfl ?_
  refine ev_iinc (l' := [_, _, _]) de_Mo_four_30 rfl rfl ?_
  refine ev_loc (l2 := [some (ab_R (107)), some (ab_I (v0)), some (ab_I (8))]) rfl ?_
  refine ev_goto (tgt := 3) de_Mo_four_33 (by decide) ?_
  refine ev_iload_n de_Mo_four_3 rfl rfl ?_
  refine ev_if_lt (tgt := 36) de_Mo_four_4 (by decide) (by decide) (fun h => absurd h (by decide)) (fun _ => ?_)
  refine ev_aload_n de_Mo_four_7 rfl rfl ?_
  refine ev_getfield de_Mo_four_8 rfl fl_Mo_7 rfl ?_
  refine ev_aload_n de_Mo_four_11 rfl rfl ?_
  refine ev_getfield de_Mo_four_12 rfl fl_Mo_76 rfl ?_
  refine ev_iload_n de_Mo_four_15 rfl rfl ?_
  refine ev_iload_n de_Mo_four_16 rfl rfl ?_
  refine ev_ishr de_Mo_four_17 (by omega) (by decide) (by decide) ?_
  refine ev_i2b de_Mo_four_18 ?_
  refine ev_bastore de_Mo_four_19 rfl (by decide) (by decide) (by decide) ?_
  refine ev_world (w' := ((((fw_0.set 1 (ab_ob 8 [ab_R (2), ab_I (20), ab_I (0), ab_R (ab_sb + 0), ab_I (0), ab_I (0), ab_I (0), ab_I (0), ab_I (0)])).set 2 (ab_ai 1 400 (g))).set 107 (ab_ob 11 [ab_R (108), ab_I (6), ab_I (0), ab_R (109), ab_R (110), ab_R (111), ab_R (112), ab_R (113), ab_I (0), ab_I (0), ab_I (0), ab_I (0), ab_I (0), ab_I (0), ab_I (0), ab_R (114), ab_I (0), ab_R (115), ab_I (0), ab_R (116), ab_R (117), ab_I (0), ab_R (118), ab_I (0), ab_R (119), ab_R (120), ab_R (121), ab_R (122), ab_R (123), ab_R (124), ab_R (125), ab_I (0), ab_I (0), ab_J (0), ab_R (126), ab_R (127), ab_R (128)])).set 108 (ab_ai 1 400 (_)))) rfl ?_
  refine ev_aload_n de_Mo_four_20 rfl rfl ?_
  refine ev_dup de_Mo_four_21 rfl ?_
  refine ev_getfield de_Mo_four_22 rfl fl_Mo_76 rfl ?_
  refine ev_iconst de_Mo_four_25 ?_
  refine ev_iadd de_Mo_four_26 ?_
  refine ev_top (b := ab_I (7)) rfl ?_
  refine ev_putfield de_Mo_four_27 rfl (fp_Mo_76 _) (Nat.le_of_ble_eq_true rfl) trivial ?_
  refine ev_world (w' := ((((fw_0.set 1 (ab_ob 8 [ab_R (2), ab_I (20), ab_I (0), ab_R (ab_sb + 0), ab_I (0), ab_I (0), ab_I (0), ab_I (0), ab_I (0)])).set 2 (ab_ai 1 400 (g))).set 107 (ab_ob 11 [ab_R (108), ab_I (7), ab_I (0), ab_R (109), ab_R (110), ab_R (111), ab_R (112), ab_R (113), ab_I (0), ab_I (0), ab_I (0), ab_I (0), ab_I (0), ab_I (0), ab_I (0), ab_R (114), ab_I (0), ab_R (115), ab_I (0), ab_R (116), ab_R (117), ab_I (0), ab_R (118), ab_I (0), ab_R (119), ab_R (120), ab_R (121), ab_R (122), ab_R (123), ab_R (124), ab_R (125), ab_I (0), ab_I (0), ab_J (0), ab_R (126), ab_R (127), ab_R (128)])).set 108 (ab_ai 1 400 (_)))) rfl ?_
  refine ev_iinc (l' := [_, _, _]) de_Mo_four_30 rfl rfl ?_
  refine ev_loc (l2 := [some (ab_R (107)), some (ab_I (v0)), some (ab_I (0))]) rfl ?_
  refine ev_goto (tgt := 3) de_Mo_four_33 (by decide) ?_
  refine ev_iload_n de_Mo_four_3 rfl rfl ?_
  refine ev_if_lt (tgt := 36) de_Mo_four_4 (by decide) (by decide) (fun h => absurd h (by decide)) (fun _ => ?_)
  refine ev_aload_n de_Mo_four_7 rfl rfl ?_
  refine ev_getfield de_Mo_four_8 rfl fl_Mo_7 rfl ?_
  refine ev_aload_n de_Mo_four_11 rfl rfl ?_
  refine ev_getfield de_Mo_four_12 rfl fl_Mo_76 rfl ?_
  refine ev_iload_n de_Mo_four_15 rfl rfl ?_
  refine ev_iload_n de_Mo_four_16 rfl rfl ?_
  refine ev_ishr de_Mo_four_17 (by omega) (by decide) (by decide) ?_
  refine ev_i2b de_Mo_four_18 ?_
  refine ev_bastore de_Mo_four_19 rfl (by decide) (by decide) (by decide) ?_
  refine ev_world (w' := ((((fw_0.set 1 (ab_ob 8 [ab_R (2), ab_I (20), ab_I (0), ab_R (ab_sb + 0), ab_I (0), ab_I (0), ab_I (0), ab_I (0), ab_I (0)])).set 2 (ab_ai 1 400 (g))).set 107 (ab_ob 11 [ab_R (108), ab_I (7), ab_I (0), ab_R (109), ab_R (110), ab_R (111), ab_R (112), ab_R (113), ab_I (0), ab_I (0), ab_I (0), ab_I (0), ab_I (0), ab_I (0), ab_I (0), ab_R (114), ab_I (0), ab_R (115), ab_I (0), ab_R (116), ab_R (117), ab_I (0), ab_R (118), ab_I (0), ab_R (119), ab_R (120), ab_R (121), ab_R (122), ab_R (123), ab_R (124), ab_R (125), ab_I (0), ab_I (0), ab_J (0), ab_R (126), ab_R (127), ab_R (128)])).set 108 (ab_ai 1 400 (_)))) rfl ?_
  refine ev_aload_n de_Mo_four_20 rfl rfl ?_
  refine ev_dup de_Mo_four_21 rfl ?_
  refine ev_getfield de_Mo_four_22 rfl fl_Mo_76 rfl ?_
  refine ev_iconst de_Mo_four_25 ?_
  refine ev_iadd de_Mo_four_26 ?_
  refine ev_top (b := ab_I (8)) rfl ?_
  refine ev_putfield de_Mo_four_27 rfl (fp_Mo_76 _) (Nat.le_of_ble_eq_true rfl) trivial ?_
  refine ev_world (w' := ((((fw_0.set 1 (ab_ob 8 [ab_R (2), ab_I (20), ab_I (0), ab_R (ab_sb + 0), ab_I (0), ab_I (0), ab_I (0), ab_I (0), ab_I (0)])).set 2 (ab_ai 1 400 (g))).set 107 (ab_ob 11 [ab_R (108), ab_I (8), ab_I (0), ab_R (109), ab_R (110), ab_R (111), ab_R (112), ab_R (113), ab_I (0), ab_I (0), ab_I (0), ab_I (0), ab_I (0), ab_I (0), ab_I (0), ab_R (114), ab_I (0), ab_R (115), ab_I (0), ab_R (116), ab_R (117), ab_I (0), ab_R (118), ab_I (0), ab_R (119), ab_R (120), ab_R (121), ab_R (122), ab_R (123), ab_R (124), ab_R (125), ab_I (0), ab_I (0), ab_J (0), ab_R (126), ab_R (127), ab_R (128)])).set 108 (ab_ai 1 400 (_)))) rfl ?_
  refine ev_iinc (l' := [_, _, _]) de_Mo_four_30 rfl rfl ?_
  refine ev_loc (l2 := [some (ab_R (107)), some (ab_I (v0)), some (ab_I ((-8)))]) rfl ?_
  refine ev_goto (tgt := 3) de_Mo_four_33 (by decide) ?_
  refine ev_iload_n de_Mo_four_3 rfl rfl ?_
  refine ev_if_lt (tgt := 36) de_Mo_four_4 (by decide) (by decide) (fun _ => ?_) (fun h => absurd h (by decide))
  exact ev_return de_Mo_four_36 rfl ⟨rfl, _, rfl⟩
set_option maxHeartbeats 4000000 in
set_option maxRecDepth 20000 in
theorem qb_8 (f : Int → Int) (g : Int → Int) (v0 : Int) (hv0 : ab_in v0) : ab_Mt g_G g_rs mt_Mo_four 1 0 0 [ab_R (107), ab_I (v0)] ((((fw_0.set 1 (ab_ob 8 [ab_R (2), ab_I (20), ab_I (0), ab_R (ab_sb + 0), ab_I (0), ab_I (0), ab_I (0), ab_I (0), ab_I (0)])).set 2 (ab_ai 1 400 (g))).set 107 (ab_ob 11 [ab_R (108), ab_I (8), ab_I (0), ab_R (109), ab_R (110), ab_R (111), ab_R (112), ab_R (113), ab_I (0), ab_I (0), ab_I (0), ab_I (0), ab_I (0), ab_I (0), ab_I (0), ab_R (114), ab_I (0), ab_R (115), ab_I (0), ab_R (116), ab_R (117), ab_I (0), ab_R (118), ab_I (0), ab_R (119), ab_R (120), ab_R (121), ab_R (122), ab_R (123), ab_R (124), ab_R (125), ab_I (0), ab_I (0), ab_J (0), ab_R (126), ab_R (127), ab_R (128)])).set 108 (ab_ai 1 400 (f))) (fun r w2 => r = none ∧ ∃ g0, w2 = ((((fw_0.set 1 (ab_ob 8 [ab_R (2), ab_I (20), ab_I (0), ab_R (ab_sb + 0), ab_I (0), ab_I (0), ab_I (0), ab_I (0), ab_I (0)])).set 2 (ab_ai 1 400 (g))).set 107 (ab_ob 11 [ab_R (108), ab_I (12), ab_I (0), ab_R (109), ab_R (110), ab_R (111), ab_R (112), ab_R (113), ab_I (0), ab_I (0), ab_I (0), ab_I (0), ab_I (0), ab_I (0), ab_I (0), ab_R (114), ab_I (0), ab_R (115), ab_I (0), ab_R (116), ab_R (117), ab_I (0), ab_R (118), ab_I (0), ab_R (119), ab_R (120), ab_R (121), ab_R (122), ab_R (123), ab_R (124), ab_R (125), ab_I (0), ab_I (0), ab_J (0), ab_R (126), ab_R (127), ab_R (128)])).set 108 (ab_ai 1 400 (g0)))) := by
  refine ab_Mt.of rfl (Nat.le_of_ble_eq_true rfl) ?_
  show ab_Ev g_G g_rs mt_Mo_four _ _ _ 0 [some (ab_R (107)), some (ab_I (v0)), none] [] _ _
  refine ev_bipush de_Mo_four_0 rfl ?_
  refine ev_istore_n (l' := [_, _, _]) de_Mo_four_2 rfl (Nat.le_of_ble_eq_true rfl) rfl ?_
  refine ev_iload_n de_Mo_four_3 rfl rfl ?_
  refine ev_if_lt (tgt := 36) de_Mo_four_4 (by decide) (by decide) (fun h => absurd h (by decide)) (fun _ => ?_)
  refine ev_aload_n de_Mo_four_7 rfl rfl ?_
  refine ev_getfield de_Mo_four_8 rfl fl_Mo_7 rfl ?_
  refine ev_aload_n de_Mo_four_11 rfl rfl ?_
  refine ev_getfield de_Mo_four_12 rfl fl_Mo_76 rfl ?_
  refine ev_iload_n de_Mo_four_15 rfl rfl ?_
  refine ev_iload_n de_Mo_four_16 rfl rfl ?_
  refine ev_ishr de_Mo_four_17 (by omega) (by decide) (by decide) ?_
  refine ev_i2b de_Mo_four_18 ?_
  refine ev_bastore de_Mo_four_19 rfl (by decide) (by decide) (by decide) ?_
  refine ev_world (w' := ((((fw_0.set 1 (ab_ob 8 [ab_R (2), ab_I (20), ab_I (0), ab_R (ab_sb + 0), ab_I (0), ab_I (0), ab_I (0), ab_I (0), ab_I (0)])).set 2 (ab_ai 1 400 (g))).set 107 (ab_ob 11 [ab_R (108), ab_I (8), ab_I (0), ab_R (109), ab_R (110), ab_R (111), ab_R (112), ab_R (113), ab_I (0), ab_I (0), ab_I (0), ab_I (0), ab_I (0), ab_I (0), ab_I (0), ab_R (114), ab_I (0), ab_R (115), ab_I (0), ab_R (116), ab_R (117), ab_I (0), ab_R (118), ab_I (0), ab_R (119), ab_R (120), ab_R (121), ab_R (122), ab_R (123), ab_R (124), ab_R (125), ab_I (0), ab_I (0), ab_J (0), ab_R (126), ab_R (127), ab_R (128)])).set 108 (ab_ai 1 400 (_)))) rfl ?_
  refine ev_aload_n de_Mo_four_20 rfl rfl ?_
  refine ev_dup de_Mo_four_21 rfl ?_
  refine ev_getfield de_Mo_four_22 rfl fl_Mo_76 rfl ?_
  refine ev_iconst de_Mo_four_25 ?_
  refine ev_iadd de_Mo_four_26 ?_
  refine ev_top (b := ab_I (9)) rfl ?_
  refine ev_putfield de_Mo_four_27 rfl (fp_Mo_76 _) (Nat.le_of_ble_eq_true rfl) trivial ?_
  refine ev_world (w' := ((((fw_0.set 1 (ab_ob 8 [ab_R (2), ab_I (20), ab_I (0), ab_R (ab_sb + 0), ab_I (0), ab_I (0), ab_I (0), ab_I (0), ab_I (0)])).set 2 (ab_ai 1 400 (g))).set 107 (ab_ob 11 [ab_R (108), ab_I (9), ab_I (0), ab_R (109), ab_R (110), ab_R (111), ab_R (112), ab_R (113), ab_I (0), ab_I (0), ab_I (0), ab_I (0), ab_I (0), ab_I (0), ab_I (0), ab_R (114), ab_I (0), ab_R (115), ab_I (0), ab_R (116), ab_R (117), ab_I (0), ab_R (118), ab_I (0), ab_R (119), ab_R (120), ab_R (121), ab_R (122), ab_R (123), ab_R (124), ab_R (125), ab_I (0), ab_I (0), ab_J (0), ab_R (126), ab_R (127), ab_R (128)])).set 108 (ab_ai 1 400 (_)))) rfl ?_
  refine ev_iinc (l' := [_, _, _]) de_Mo_four_30 rfl rfl ?_
  refine ev_loc (l2 := [some (ab_R (107)), some (ab_I (v0)), some (ab_I (16))]) rfl ?_
  refine ev_goto (tgt := 3) de_Mo_four_33 (by decide) ?_
  refine ev_iload_n de_Mo_four_3 rfl rfl ?_
  refine ev_if_lt (tgt := 36) de_Mo_four_4 (by decide) (by decide) (fun h => absurd h (by decide)) (fun _ => ?_)
  refine ev_aload_n de_Mo_four_7 rfl rfl ?_
  refine ev_getfield de_Mo_four_8 rfl fl_Mo_7 rfl ?_
  refine ev_aload_n de_Mo_four_11 rfl rfl ?_
  refine ev_getfield de_Mo_four_12 rfl fl_Mo_76 rfl ?_
  refine ev_iload_n de_Mo_four_15 rfl rfl ?_
  refine ev_iload_n de_Mo_four_16 rfl rfl ?_
  refine ev_ishr de_Mo_four_17 (by omega) (by decide) (by decide) ?_
  refine ev_i2b de_Mo_four_18 ?_
  refine ev_bastore de_Mo_four_19 rfl (by decide) (by decide) (by decide) ?_
  refine ev_world (w' := ((((fw_0.set 1 (ab_ob 8 [ab_R (2), ab_I (20), ab_I (0), ab_R (ab_sb + 0), ab_I (0), ab_I (0), ab_I (0), ab_I (0), ab_I (0)])).set 2 (ab_ai 1 400 (g))).set 107 (ab_ob 11 [ab_R (108), ab_I (9), ab_I (0), ab_R (109), ab_R (110), ab_R (111), ab_R (112), ab_R (113), ab_I (0), ab_I (0), ab_I (0), ab_I (0), ab_I (0), ab_I (0), ab_I (0), ab_R (114), ab_I (0), ab_R (115), ab_I (0), ab_R (116), ab_R (117), ab_I (0), ab_R (118), ab_I (0), ab_R (119), ab_R (120), ab_R (121), ab_R (122), ab_R (123), ab_R (124), ab_R (125), ab_I (0), ab_I (0), ab_J (0), ab_R (126), ab_R (127), ab_R (128)])).set 108 (ab_ai 1 400 (_)))) rfl ?_
  refine ev_aload_n de_Mo_four_20 rfl rfl ?_
  refine ev_dup de_Mo_four_21 rfl ?_
  refine ev_getfield de_Mo_four_22 rfl fl_Mo_76 rfl ?_
  refine ev_iconst de_Mo_four_25 ?_
  refine ev_iadd de_Mo_four_26 ?_
  refine ev_top (b := ab_I (10)) rfl ?_
  refine ev_putfield de_Mo_four_27 rfl (fp_Mo_76 _) (Nat.le_of_ble_eq_true rfl) trivial ?_
  refine ev_world (w' := ((((fw_0.set 1 (ab_ob 8 [ab_R (2), ab_I (20), ab_I (0), ab_R (ab_sb + 0), ab_I (0), ab_I (0), ab_I (0), ab_I (0), ab_I (0)])).set 2 (ab_ai 1 400 (g))).set 107 (ab_ob 11 [ab_R (108), ab_I (10), ab_I (0), ab_R (109), ab_R (110), ab_R (111), ab_R (112), ab_R (113), ab_I (0), ab_I (0), ab_I (0), ab_I (0), ab_I (0), ab_I (0), ab_I (0), ab_R (114), ab_I (0), ab_R (115), ab_I (0), ab_R (116), ab_R (117), ab_I (0), ab_R (118), ab_I (0), ab_R (119), ab_R (120), ab_R (121), ab_R (122), ab_R (123), ab_R (124), ab_R (125), ab_I (0), ab_I (0), ab_J (0), ab_R (126), ab_R (127), ab_R (128)])).set 108 (ab_ai 1 400 (_)))) rfl ?_
  refine ev_iinc (l' := [_, _, _]) de_Mo_four_30 rfl rfl ?_
  refine ev_loc (l2 := [some (ab_R (107)), some (ab_I (v0)), some (ab_I (8))]) rfl ?_
  refine ev_goto (tgt := 3) de_Mo_four_33 (by decide) ?_
  refine ev_iload_n de_Mo_four_3 rfl rfl ?_
  refine ev_if_lt (tgt := 36) de_Mo_four_4 (by decide) (by decide) (fun h => absurd h (by decide)) (fun _ => ?_)
  refine ev_aload_n de_Mo_four_7 rfl rfl ?_
  refine ev_getfield de_Mo_four_8 rfl fl_Mo_7 rfl ?_
  refine ev_aload_n de_Mo_four_11 rfl rfl ?_
  refine ev_getfield de_Mo_four_12 rfl fl_Mo_76 rfl ?_
  refine ev_iload_n de_Mo_four_15 rfl rfl ?_
  refine ev_iload_n de_Mo_four_16 rfl rfl ?_
  refine ev_ishr de_Mo_four_17 (by omega) (by decide) (by decide) ?_
  refine ev_i2b de_Mo_four_18 ?_
  refine ev_bastore de_Mo_four_19 rfl (by decide) (by decide) (by decide) ?_
  refine ev_world (w' := ((((fw_0.set 1 (ab_ob 8 [ab_R (2), ab_I (20), ab_I (0), ab_R (ab_sb + 0), ab_I (0), ab_I (0), ab_I (0), ab_I (0), ab_I (0)])).set 2 (ab_ai 1 400 (g))).set 107 (ab_ob 11 [ab_R (108), ab_I (10), ab_I (0), ab_R (109), ab_R (110), ab_R (111), ab_R (112), ab_R (113), ab_I (0), ab_I (0), ab_I (0), ab_I (0), ab_I (0), ab_I (0), ab_I (0), ab_R (114), ab_I (0), ab_R (115), ab_I (0), ab_R (116), ab_R (117), ab_I (0), ab_R (118), ab_I (0), ab_R (119), ab_R (120), ab_R (121), ab_R (122), ab_R (123), ab_R (124), ab_R (125), ab_I (0), ab_I (0), ab_J (0), ab_R (126), ab_R (127), ab_R (128)])).set 108 (ab_ai 1 400 (_)))) rfl ?_
  refine ev_aload_n de_Mo_four_20 rfl rfl ?_
  refine ev_dup de_Mo_four_21 rfl ?_
  refine ev_getfield de_Mo_four_22 rfl fl_Mo_76 rfl ?_
  refine ev_iconst de_Mo_four_25 ?_
  refine ev_iadd de_Mo_four_26 ?_
  refine ev_top (b := ab_I (11)) rfl ?_
  refine ev_putfield de_Mo_four_27 rfl (fp_Mo_76 _) (Nat.le_of_ble_eq_true rfl) trivial ?_
  refine ev_world (w' := ((((fw_0.set 1 (ab_ob 8 [ab_R (2), ab_I (20), ab_I (0), ab_R (ab_sb + 0), ab_I (0), ab_I (0), ab_I (0), ab_I (0), ab_I (0)])).set 2 (ab_ai 1 400 (g))).set 107 (ab_ob 11 [ab_R (108), ab_I (11), ab_I (0), ab_R (109), ab_R (110), ab_R (111), ab_R (112), ab_R (113), ab_I (0), ab_I (0), ab_I (0), ab_I (0), ab_I (0), ab_I (0), ab_I (0), ab_R (114), ab_I (0), ab_R (115), ab_I (0), ab_R (116), ab_R (117), ab_I (0), ab_R (118), ab_I (0), ab_R (119), ab_R (120), ab_R (121), ab_R (122), ab_R (123), ab_R (124), ab_R (125), ab_I (0), ab_I (0), ab_J (0), ab_R (126), ab_R (127), ab_R (128)])).set 108 (ab_ai 1 400 (_)))) rfl ?_
  refine ev_iinc (l' := [_, _, _]) de_Mo_four_30 rfl rfl ?_
  refine ev_loc (l2 := [some (ab_R (107)), some (ab_I (v0)), some (ab_I (0))]) rfl ?_
  refine ev_goto (tgt := 3) de_Mo_four_33 (by decide) ?_
  refine ev_iload_n de_Mo_four_3 rfl rfl ?_
  refine ev_if_lt (tgt := 36) de_Mo_four_4 (by decide) (by decide) (fun h => absurd h (by decide)) (fun _ => ?_)
  refine ev_aload_n de_Mo_four_7 rfl rfl ?_
  refine ev_getfield de_Mo_four_8 rfl fl_Mo_7 rfl ?_
  refine ev_aload_n de_Mo_four_11 rfl rfl ?_
  refine ev_getfield de_Mo_four_12 rfl fl_Mo_76 rfl ?_
  refine ev_iload_n de_Mo_four_15 rfl rfl ?_
  refine ev_iload_n de_Mo_four_16 rfl rfl ?_
  refine ev_ishr de_Mo_four_17 (by omega) (by decide) (by decide) ?_
  refine ev_i2b de_Mo_four_18 ?_
  refine ev_bastore de_Mo_four_19 rfl (by decide) (by decide) (by decide) ?_
  refine ev_world (w' := ((((fw_0.set 1 (ab_ob 8 [ab_R (2), ab_I (20), ab_I (0), ab_R (ab_sb + 0), ab_I (0), ab_I (0), ab_I (0), ab_I (0), ab_I (0)])).set 2 (ab_ai 1 400 (g))).set 107 (ab_ob 11 [ab_R (108), ab_I (11), ab_I (0), ab_R (109), ab_R (110), ab_R (111), ab_R (112), ab_R (113), ab_I (0), ab_I (0), ab_I (0), ab_I (0), ab_I (0), ab_I (0), ab_I (0), ab_R (114), ab_I (0), ab_R (115), ab_I (0), ab_R (116), ab_R (117), ab_I (0), ab_R (118), ab_I (0), ab_R (119), ab_R (120), ab_R (121), ab_R (122), ab_R (123), ab_R (124), ab_R (125), ab_I (0), ab_I (0), ab_J (0), ab_R (126), ab_R (127), ab_R (128)])).set 108 (ab_ai 1 400 (_)))) rfl ?_
  refine ev_aload_n de_Mo_four_20 rfl rfl ?_
  refine ev_dup de_Mo_four_21 rfl ?_
  refine ev_getfield de_Mo_four_22 rfl fl_Mo_76 rfl ?_
  refine ev_iconst de_Mo_four_25 ?_
  refine ev_iadd de_Mo_four_26 ?_
  refine ev_top (b := ab_I (12)) rfl ?_
  refine ev_putfield de_Mo_four_27 rfl (fp_Mo_76 _) (Nat.le_of_ble_eq_true rfl) trivial ?_
  refine ev_world (w' := ((((fw_0.set 1 (ab_ob 8 [ab_R (2), ab_I (20), ab_I (0), ab_R (ab_sb + 0), ab_I (0), ab_I (0), ab_I (0), ab_I (0), ab_I (0)])).set 2 (ab_ai 1 400 (g))).set 107 (ab_ob 11 [ab_R (108), ab_I (12), ab_I (0), ab_R (109), ab_R (110), ab_R (111), ab_R (112), ab_R (113), ab_I (0), ab_I (0), ab_I (0), ab_I (0), ab_I (0), ab_I (0), ab_I (0), ab_R (114), ab_I (0), ab_R (115), ab_I (0), ab_R (116), ab_R (117), ab_I (0), ab_R (118), ab_I (0), ab_R (119), ab_R (120), ab_R (121), ab_R (122), ab_R (123), ab_R (124), ab_R (125), ab_I (0), ab_I (0), ab_J (0), ab_R (126), ab_R (127), ab_R (128)])).set 108 (ab_ai 1 400 (_)))) rfl ?_
  refine ev_iinc (l' := [_, _, _]) de_Mo_four_30 rfl rfl ?_
  refine ev_loc (l2 := [some (ab_R (107)), some (ab_I (v0)), some (ab_I ((-8)))]) rfl ?_
  refine ev_goto (tgt := 3) de_Mo_four_33 (by decide) ?_
  refine ev_iload_n de_Mo_four_3 rfl rfl ?_
  refine ev_if_lt (tgt := 36) de_Mo_four_4 (by decide) (by decide) (fun _ => ?_) (fun h => absurd h (by decide))
  exact ev_return de_Mo_four_36 rfl ⟨rfl, _, rfl⟩
set_option maxHeartbeats 4000000 in
set_option maxRecDepth 20000 in
theorem qb_12 (f : Int → Int) (g : Int → Int) (v0 : Int) (hv0 : ab_in v0) : ab_Mt g_G g_rs mt_Mo_four 1 0 0 [ab_R (107), ab_I (v0)] ((((fw_0.set 1 (ab_ob 8 [ab_R (2), ab_I (20), ab_I (0), ab_R (ab_sb + 0), ab_I (0), ab_I (0), ab_I (0), ab_I (0), ab_I (0)])).set 2 (ab_ai 1 400 (g))).set 107 (ab_ob 11 [ab_R (108), ab_I (12), ab_I (0), ab_R (109), ab_R (110), ab_R (111), ab_R (112), ab_R (113), ab_I (0), ab_I (0), ab_I (0), ab_I (0), ab_I (0), ab_I (0), ab_I (0), ab_R (114), ab_I (0), ab_R (115), ab_I (0), ab_R (116), ab_R (117), ab_I (0), ab_R (118), ab_I (0), ab_R (119), ab_R (120), ab_R (121), ab_R (122), ab_R (123), ab_R (124), ab_R (125), ab_I (0), ab_I (0), ab_J (0), ab_R (126), ab_R (127), ab_R (128)])).set 108 (ab_ai 1 400 (f))) (fun r w2 => r = none ∧ ∃ g0, w2 = ((((fw_0.set 1 (ab_ob 8 [ab_R (2), ab_I (20), ab_I (0), ab_R (ab_sb + 0), ab_I (0), ab_I (0), ab_I (0), ab_I (0), ab_I (0)])).set 2 (ab_ai 1 400 (g))).set 107 (ab_ob 11 [ab_R (108), ab_I (16), ab_I (0), ab_R (109), ab_R (110), ab_R (111), ab_R (112), ab_R (113), ab_I (0), ab_I (0), ab_I (0), ab_I (0), ab_I (0), ab_I (0), ab_I (0), ab_R (114), ab_I (0), ab_R (115), ab_I (0), ab_R (116), ab_R (117), ab_I (0), ab_R (118), ab_I (0), ab_R (119), ab_R (120), ab_R (121), ab_R (122), ab_R (123), ab_R (124), ab_R (125), ab_I (0), ab_I (0), ab_J (0), ab_R (126), ab_R (127), ab_R (128)])).set 108 (ab_ai 1 400 (g0)))) := by
  refine ab_Mt.of rfl (Nat.le_of_ble_eq_true rfl) ?_
  show ab_Ev g_G g_rs mt_Mo_four _ _ _ 0 [some (ab_R (107)), some (ab_I (v0)), none] [] _ _
  refine ev_bipush de_Mo_four_0 rfl ?_
  refine ev_istore_n (l' := [_, _, _]) de_Mo_four_2 rfl (Nat.le_of_ble_eq_true rfl) rfl ?_
  refine ev_iload_n de_Mo_four_3 rfl rfl ?_
  refine ev_if_lt (tgt := 36) de_Mo_four_4 (by decide) (by decide) (fun h => absurd h (by decide)) (fun _ => ?_)
  refine ev_aload_n de_Mo_four_7 rfl rfl ?_
  refine ev_getfield de_Mo_four_8 rfl fl_Mo_7 rfl ?_
  refine ev_aload_n de_Mo_four_11 rfl rfl ?_
  refine ev_getfield de_Mo_four_12 rfl fl_Mo_76 rfl ?_
  refine ev_iload_n de_Mo_four_15 rfl rfl ?_
  refine ev_iload_n de_Mo_four_16 rfl rfl ?_
  refine ev_ishr de_Mo_four_17 (by omega) (by decide) (by decide) ?_
  refine ev_i2b de_Mo_four_18 ?_
  refine ev_bastore de_Mo_four_19 rfl (by decide) (by decide) (by decide) ?_
  refine ev_world (w' := ((((fw_0.set 1 (ab_ob 8 [ab_R (2), ab_I (20), ab_I (0), ab_R (ab_sb + 0), ab_I (0), ab_I (0), ab_I (0), ab_I (0), ab_I (0)])).set 2 (ab_ai 1 400 (g))).set 107 (ab_ob 11 [ab_R (108), ab_I (12), ab_I (0), ab_R (109), ab_R (110), ab_R (111), ab_R (112), ab_R (113), ab_I (0), ab_I (0), ab_I (0), ab_I (0), ab_I (0), ab_I (0), ab_I (0), ab_R (114), ab_I (0), ab_R (115), ab_I (0), ab_R (116), ab_R (117), ab_I (0), ab_R (118), ab_I (0), ab_R (119), ab_R (120), ab_R (121), ab_R (122), ab_R (123), ab_R (124), ab_R (125), ab_I (0), ab_I (0), ab_J (0), ab_R (126), ab_R (127), ab_R (128)])).set 108 (ab_ai 1 400 (_)))) rfl ?_
  refine ev_aload_n de_Mo_four_20 rfl rfl ?_
  refine ev_dup de_Mo_four_21 rfl ?_
  refine ev_getfield de_Mo_four_22 rfl fl_Mo_76 rfl ?_
  refine ev_iconst de_Mo_four_25 ?_
  refine ev_iadd de_Mo_four_26 ?_
  refine ev_top (b := ab_I (13)) rfl ?_
  refine ev_putfield de_Mo_four_27 rfl (fp_Mo_76 _) (Nat.le_of_ble_eq_true rfl) trivial ?_
  refine ev_world (w' := ((((fw_0.set 1 (ab_ob 8 [ab_R (2), ab_I (20), ab_I (0), ab_R (ab_sb + 0), ab_I (0), ab_I (0), ab_I (0), ab_I (0), ab_I (0)])).set 2 (ab_ai 1 400 (g))).set 107 (ab_ob 11 [ab_R (108), ab_I (13), ab_I (0), ab_R (109), ab_R (110), ab_R (111), ab_R (112), ab_R (113), ab_I (0), ab_I (0), ab_I (0), ab_I (0), ab_I (0), ab_I (0), ab_I (0), ab_R (114), ab_I (0), ab_R (115), ab_I (0), ab_R (116), ab_R (117), ab_I (0), ab_R (118), ab_I (0), ab_R (119), ab_R (120), ab_R (121), ab_R (122), ab_R (123), ab_R (124), ab_R (125), ab_I (0), ab_I (0), ab_J (0), ab_R (126), ab_R (127), ab_R (128)])).set 108 (ab_ai 1 400 (_)))) rfl ?_
  refine ev_iinc (l' := [_, _, _]) de_Mo_four_30 rfl rfl ?_
  refine ev_loc (l2 := [some (ab_R (107)), some (ab_I (v0)), some (ab_I (16))]) rfl ?_
  refine ev_goto (tgt := 3) de_Mo_four_33 (by decide) ?_
  refine ev_iload_n de_Mo_four_3 rfl rfl ?_
  refine ev_if_lt (tgt := 36) de_Mo_four_4 (by decide) (by decide) (fun h => absurd h (by decide)) (fun _ => ?_)
  refine ev_aload_n de_Mo_four_7 rfl rfl ?_
  refine ev_getfield de_Mo_four_8 rfl fl_Mo_7 rfl ?_
  refine ev_aload_n de_Mo_four_11 rfl rfl ?_
  refine ev_getfield de_Mo_four_12 rfl fl_Mo_76 rfl ?_
  refine ev_iload_n de_Mo_four_15 rfl rfl ?_
  refine ev_iload_n de_Mo_four_16 rfl rfl ?_
  refine ev_ishr de_Mo_four_17 (by omega) (by decide) (by decide) ?_
  refine ev_i2b de_Mo_four_18 ?_
  refine ev_bastore de_Mo_four_19 rfl (by decide) (by decide) (by decide) ?_
  refine ev_world (w' := ((((fw_0.set 1 (ab_ob 8 [ab_R (2), ab_I (20), ab_I (0), ab_R (ab_sb + 0), ab_I (0), ab_I (0), ab_I (0), ab_I (0), ab_I (0)])).set 2 (ab_ai 1 400 (g))).set 107 (ab_ob 11 [ab_R (108), ab_I (13), ab_I (0), ab_R (109), ab_R (110), ab_R (111), ab_R (112), ab_R (113), ab_I (0), ab_I (0), ab_I (0), ab_I (0), ab_I (0), ab_I (0), ab_I (0), ab_R (114), ab_I (0), ab_R (115), ab_I (0), ab_R (116), ab_R (117), ab_I (0), ab_R (118), ab_I (0), ab_R (119), ab_R (120), ab_R (121), ab_R (122), ab_R (123), ab_R (124), ab_R (125), ab_I (0), ab_I (0), ab_J (0), ab_R (126), ab_R (127), ab_R (128)])).set 108 (ab_ai 1 400 (_)))) rfl ?_
  refine ev_aload_n de_Mo_four_20 rfl rfl ?_
  refine ev_dup de_Mo_four_21 rfl ?_
  refine ev_getfield de_Mo_four_22 rfl fl_Mo_76 rfl ?_
  refine ev_iconst de_Mo_four_25 ?_
  refine ev_iadd de_Mo_four_26 ?_
  refine ev_top (b := ab_I (14)) rfl ?_
  refine ev_putfield de_Mo_four_27 rfl (fp_Mo_76 _) (Nat.le_of_ble_eq_true rfl) trivial ?_
  refine ev_world (w' := ((((fw_0.set 1 (ab_ob 8 [ab_R (2), ab_I (20), ab_I (0), ab_R (ab_sb + 0), ab_I (0), ab_I (0), ab_I (0), ab_I (0), ab_I (0)])).set 2 (ab_ai 1 400 (g))).set 107 (ab_ob 11 [ab_R (108), ab_I (14), ab_I (0), ab_R (109), ab_R (110), ab_R (111), ab_R (112), ab_R (113), ab_I (0), ab_I (0), ab_I (0), ab_I (0), ab_I (0), ab_I (0), ab_I (0), ab_R (114), ab_I (0), ab_R (115), ab_I (0), ab_R (116), ab_R (117), ab_I (0), ab_R (118), ab_I (0), ab_R (119), ab_R (120), ab_R (121), ab_R (122), ab_R (123), ab_R (124), ab_R (125), ab_I (0), ab_I (0), ab_J (0), ab_R (126), ab_R (127), ab_R (128)])).set 108 (ab_ai 1 400 (_)))) rfl ?_
  refine ev_iinc (l' := [_, _, _]) de_Mo_four_30 rfl rfl ?_
  refine ev_loc (l2 := [some (ab_R (107)), some (ab_I (v0)), some (ab_I (8))]) rfl ?_
  refine ev_goto (tgt := 3) de_Mo_four_33 (by decide) ?_
  refine ev_iload_n de_Mo_four_3 rfl rfl ?_
  refine ev_if_lt (tgt := 36) de_Mo_four_4 (by decide) (by decide) (fun h => absurd h (by decide)) (fun _ => ?_)
  refine ev_aload_n de_Mo_four_7 rfl rfl ?_
  refine ev_getfield de_Mo_four_8 rfl fl_Mo_7 rfl ?_
  refine ev_aload_n de_Mo_four_11 rfl rfl ?_
  refine ev_getfield de_Mo_four_12 rfl fl_Mo_76 rfl ?_
  refine ev_iload_n de_Mo_four_15 rfl rfl ?_
  refine ev_iload_n de_Mo_four_16 rfl rfl ?_
  refine ev_ishr de_Mo_four_17 (by omega) (by decide) (by decide) ?_
  refine ev_i2b de_Mo_four_18 ?_
  refine ev_bastore de_Mo_four_19 rfl (by decide) (by decide) (by decide) ?_
  refine ev_world (w' := ((((fw_0.set 1 (ab_ob 8 [ab_R (2), ab_I (20), ab_I (0), ab_R (ab_sb + 0), ab_I (0), ab_I (0), ab_I (0), ab_I (0), ab_I (0)])).set 2 (ab_ai 1 400 (g))).set 107 (ab_ob 11 [ab_R (108), ab_I (14), ab_I (0), ab_R (109), ab_R (110), ab_R (111), ab_R (112), ab_R (113), ab_I (0), ab_I (0), ab_I (0), ab_I (0), ab_I (0), ab_I (0), ab_I (0), ab_R (114), ab_I (0), ab_R (115), ab_I (0), ab_R (116), ab_R (117), ab_I (0), ab_R (118), ab_I (0), ab_R (119), ab_R (120), ab_R (121), ab_R (122), ab_R (123), ab_R (124), ab_R (125), ab_I (0), ab_I (0), ab_J (0), ab_R (126), ab_R (127), ab_R (128)])).set 108 (ab_ai 1 400 (_)))) rfl ?_
  refine ev_aload_n de_Mo_four_20 rfl rfl ?_
  refine ev_dup de_Mo_four_21 rfl ?_
  refine ev_getfield de_Mo_four_22 rfl fl_Mo_76 rfl ?_
  refine ev_iconst de_Mo_four_25 ?_
  refine ev_iadd de_Mo_four_26 ?_
  refine ev_top (b := ab_I (15)) rfl ?_
  refine ev_putfield de_Mo_four_27 rfl (fp_Mo_76 _) (Nat.le_of_ble_eq_true rfl) trivial ?_
  refine ev_world (w' := ((((fw_0.set 1 (ab_ob 8 [ab_R (2), ab_I (20), ab_I (0), ab_R (ab_sb + 0), ab_I (0), ab_I (0), ab_I (0), ab_I (0), ab_I (0)])).set 2 (ab_ai 1 400 (g))).set 107 (ab_ob 11 [ab_R (108), ab_I (15), ab_I (0), ab_R (109), ab_R (110), ab_R (111), ab_R (112), ab_R (113), ab_I (0), ab_I (0), ab_I (0), ab_I (0), ab_I (0), ab_I (0), ab_I (0), ab_R (114), ab_I (0), ab_R (115), ab_I (0), ab_R (116), ab_R (117), ab_I (0), ab_R (118), ab_I (0), ab_R (119), ab_R (120), ab_R (121), ab_R (122), ab_R (123), ab_R (124), ab_R (125), ab_I (0), ab_I (0), ab_J (0), ab_R (126), ab_R (127), ab_R (128)])).set 108 (ab_ai 1 400 (_)))) rfl ?_
  refine ev_iinc (l' := [_, _, _]) de_Mo_four_30 rfl rfl ?_
  refine ev_loc (l2 := [some (ab_R (107)), some (ab_I (v0)), some (ab_I (0))]) rfl ?_
  refine ev_goto (tgt := 3) de_Mo_four_33 (by decide) ?_
  refine ev_iload_n de_Mo_four_3 rfl rfl ?_
  refine ev_if_lt (tgt := 36) de_Mo_four_4 (by decide) (by decide) (fun h => absurd h (by decide)) (fun _ => ?_)
  refine ev_aload_n de_Mo_four_7 rfl rfl ?_
  refine ev_getfield de_Mo_four_8 rfl fl_Mo_7 rfl ?_
  refine ev_aload_n de_Mo_four_11 rfl rfl ?_
  refine ev_getfield de_Mo_four_12 rfl fl_Mo_76 rfl ?_
  refine ev_iload_n de_Mo_four_15 rfl rfl ?_
  refine ev_iload_n de_Mo_four_16 rfl rfl ?_
  refine ev_ishr de_Mo_four_17 (by omega) (by decide) (by decide) ?_
  refine ev_i2b de_Mo_four_18 ?_
  refine ev_bastore de_Mo_four_19 rfl (by decide) (by decide) (by decide) ?_
  refine ev_world (w' := ((((fw_0.set 1 (ab_ob 8 [ab_R (2), ab_I (20), ab_I (0), ab_R (ab_sb + 0), ab_I (0), ab_I (0), ab_I (0), ab_I (0), ab_I (0)])).set 2 (ab_ai 1 400 (g))).set 107 (ab_ob 11 [ab_R (108), ab_I (15), ab_I (0), ab_R (109), ab_R (110), ab_R (111), ab_R (112), ab_R (113), ab_I (0), ab_I (0), ab_I (0), ab_I (0), ab_I (0), ab_I (0), ab_I (0), ab_R (114), ab_I (0), ab_R (115), ab_I (0), ab_R (116), ab_R (117), ab_I (0), ab_R (118), ab_I (0), ab_R (119), ab_R (120), ab_R (121), ab_R (122), ab_R (123), ab_R (124), ab_R (125), ab_I (0), ab_I (0), ab_J (0), ab_R (126), ab_R (127), ab_R (128)])).set 108 (ab_ai 1 400 (_)))) rfl ?_
  refine ev_aload_n de_Mo_four_20 rfl rfl ?_
  refine ev_dup de_Mo_four_21 rfl ?_
  refine ev_getfield de_Mo_four_22 rfl fl_Mo_76 rfl ?_
  refine ev_iconst de_Mo_four_25 ?_
  refine ev_iadd de_Mo_four_26 ?_
  refine ev_top (b := ab_I (16)) rfl ?_
  refine ev_putfield de_Mo_four_27 rfl (fp_Mo_76 _) (Nat.le_of_ble_eq_true rfl) trivial ?_
  refine ev_world (w' := ((((fw_0.set 1 (ab_ob 8 [ab_R (2), ab_I (20), ab_I (0), ab_R (ab_sb + 0), ab_I (0), ab_I (0), ab_I (0), ab_I (0), ab_I (0)])).set 2 (ab_ai 1 400 (g))).set 107 (ab_ob 11 [ab_R (108), ab_I (16), ab_I (0), ab_R (109), ab_R (110), ab_R (111), ab_R (112), ab_R (113), ab_I (0), ab_I (0), ab_I (0), ab_I (0), ab_I (0), ab_I (0), ab_I (0), ab_R (114), ab_I (0), ab_R (115), ab_I (0), ab_R (116), ab_R (117), ab_I (0), ab_R (118), ab_I (0), ab_R (119), ab_R (120), ab_R (121), ab_R (122), ab_R (123), ab_R (124), ab_R (125), ab_I (0), ab_I (0), ab_J (0), ab_R (126), ab_R (127), ab_R (128)])).set 108 (ab_ai 1 400 (_)))) rfl ?_
  refine ev_iinc (l' := [_, _, _]) de_Mo_four_30 rfl rfl ?_
  refine ev_loc (l2 := [some (ab_R (107)), some (ab_I (v0)), some (ab_I ((-8)))]) rfl ?_
  refine ev_goto (tgt := 3) de_Mo_four_33 (by decide) ?_
  refine ev_iload_n de_Mo_four_3 rfl rfl ?_
  refine ev_if_lt (tgt := 36) de_Mo_four_4 (by decide) (by decide) (fun _ => ?_) (fun h => absurd h (by decide))
  exact ev_return de_Mo_four_36 rfl ⟨rfl, _, rfl⟩
set_option maxHeartbeats 4000000 in
set_option maxRecDepth 20000 in
theorem qb_16 (f : Int → Int) (g : Int → Int) (v0 : Int) (hv0 : ab_in v0) : ab_Mt g_G g_rs mt_Mo_four 1 0 0 [ab_R (107), ab_I (v0)] ((((fw_0.set 1 (ab_ob 8 [ab_R (2), ab_I (20), ab_I (0), ab_R (ab_sb + 0), ab_I (0), ab_I (0), ab_I (0), ab_I (0), ab_I (0)])).set 2 (ab_ai 1 400 (g))).set 107 (ab_ob 11 [ab_R (108), ab_I (16), ab_I (0), ab_R (109), ab_R (110), ab_R (111), ab_R (112), ab_R (113), ab_I (0), ab_I (0), ab_I (0), ab_I (0), ab_I (0), ab_I (0), ab_I (0), ab_R (114), ab_I (0), ab_R (115), ab_I (0), ab_R (116), ab_R (117), ab_I (0), ab_R (118), ab_I (0), ab_R (119), ab_R (120), ab_R (121), ab_R (122), ab_R (123), ab_R (124), ab_R (125), ab_I (0), ab_I (0), ab_J (0), ab_R (126), ab_R (127), ab_R (128)])).set 108 (ab_ai 1 400 (f))) (fun r w2 => r = none ∧ ∃ g0, w2 = ((((fw_0.set 1 (ab_ob 8 [ab_R (2), ab_I (20), ab_I (0), ab_R (ab_sb + 0), ab_I (0), ab_I (0), ab_I (0), ab_I (0), ab_I (0)])).set 2 (ab_ai 1 400 (g))).set 107 (ab_ob 11 [ab_R (108), ab_I (20), ab_I (0), ab_R (109), ab_R (110), ab_R (111), ab_R (112), ab_R (113), ab_I (0), ab_I (0), ab_I (0), ab_I (0), ab_I (0), ab_I (0), ab_I (0), ab_R (114), ab_I (0), ab_R (115), ab_I (0), ab_R (116), ab_R (117), ab_I (0), ab_R (118), ab_I (0), ab_R (119), ab_R (120), ab_R (121), ab_R (122), ab_R (123), ab_R (124), ab_R (125), ab_I (0), ab_I (0), ab_J (0), ab_R (126), ab_R (127), ab_R (128)])).set 108 (ab_ai 1 400 (g0)))) := by
  refine ab_Mt.of rfl (Nat.le_of_ble_eq_true rfl) ?_
  show ab_Ev g_G g_rs mt_Mo_four _ _ _ 0 [some (ab_R (107)), some (ab_I (v0)), none] [] _ _
  refine ev_bipush de_Mo_four_0 rfl ?_
  refine ev_istore_n (l' := [_, _, _]) de_Mo_four_2 rfl (Nat.le_of_ble_eq_true rfl) rfl ?_
  refine ev_iload_n de_Mo_four_3 rfl rfl ?_
  refine ev_if_lt (tgt := 36) de_Mo_four_4 (by decide) (by decide) (fun h => absurd h (by decide)) (fun _ => ?_)
  refine ev_aload_n de_Mo_four_7 rfl rfl ?_
  refine ev_getfield de_Mo_four_8 rfl fl_Mo_7 rfl ?_
  refine ev_aload_n de_Mo_four_11 rfl rfl ?_
  refine ev_getfield de_Mo_four_12 rfl fl_Mo_76 rfl ?_
  refine ev_iload_n de_Mo_four_15 rfl rfl ?_
  refine ev_iload_n de_Mo_four_16 rfl rfl ?_
  refine ev_ishr de_Mo_four_17 (by omega) (by decide) (by decide) ?_
  refine ev_i2b de_Mo_four_18 ?_
  refine ev_bastore de_Mo_four_19 rfl (by decide) (by decide) (by decide) ?_
  refine ev_world (w' := ((((fw_0.set 1 (ab_ob 8 [ab_R (2), ab_I (20), ab_I (0), ab_R (ab_sb + 0), ab_I (0), ab_I (0), ab_I (0), ab_I (0), ab_I (0)])).set 2 (ab_ai 1 400 (g))).set 107 (ab_ob 11 [ab_R (108), ab_I (16), ab_I (0), ab_R (109), ab_R (110), ab_R (111), ab_R (112), ab_R (113), ab_I (0), ab_I (0), ab_I (0), ab_I (0), ab_I (0), ab_I (0), ab_I (0), ab_R (114), ab_I (0), ab_R (115), ab_I (0), ab_R (116), ab_R (117), ab_I (0), ab_R (118), ab_I (0), ab_R (119), ab_R (120), ab_R (121), ab_R (122), ab_R (123), ab_R (124), ab_R (125), ab_I (0), ab_I (0), ab_J (0), ab_R (126), ab_R (127), ab_R (128)])).set 108 (ab_ai 1 400 (_)))) rfl ?_
  refine ev_aload_n de_Mo_four_20 rfl rfl ?_
  refine ev_dup de_Mo_four_21 rfl ?_
  refine ev_getfield de_Mo_four_22 rfl fl_Mo_76 rfl ?_
  refine ev_iconst de_Mo_four_25 ?_
  refine ev_iadd de_Mo_four_26 ?_
  refine ev_top (b := ab_I (17)) rfl ?_
  refine ev_putfield de_Mo_four_27 rfl (fp_Mo_76 _) (Nat.le_of_ble_eq_true rfl) trivial ?_
  refine ev_world (w' := ((((fw_0.set 1 (ab_ob 8 [ab_R (2), ab_I (20), ab_I (0), ab_R (ab_sb + 0), ab_I (0), ab_I (0), ab_I (0), ab_I (0), ab_I (0)])).set 2 (ab_ai 1 400 (g))).set 107 (ab_ob 11 [ab_R (108), ab_I (17), ab_I (0), ab_R (109), ab_R (110), ab_R (111), ab_R (112), ab_R (113), ab_I (0), ab_I (0), ab_I (0), ab_I (0), ab_I (0), ab_I (0), ab_I (0), ab_R (114), ab_I (0), ab_R (115), ab_I (0), ab_R (116), ab_R (117), ab_I (0), ab_R (118), ab_I (0), ab_R (119), ab_R (120), ab_R (121), ab_R (122), ab_R (123), ab_R (124), ab_R (125), ab_I (0), ab_I (0), ab_J (0), ab_R (126), ab_R (127), ab_R (128)])).set 108 (ab_ai 1 400 (_)))) rfl ?_
  refine ev_iinc (l' := [_, _, _]) de_Mo_four_30 rfl rfl ?_
  refine ev_loc (l2 := [some (ab_R (107)), some (ab_I (v0)), some (ab_I (16))]) rfl ?_
  refine ev_goto (tgt := 3) de_Mo_four_33 (by decide) ?_
  refine ev_iload_n de_Mo_four_3 rfl rfl ?_
  refine ev_if_lt (tgt := 36) de_Mo_four_4 (by decide) (by decide) (fun h => absurd h (by decide)) (fun _ => ?_)
  refine ev_aload_n de_Mo_four_7 rfl rfl ?_
  refine ev_getfield de_Mo_four_8 rfl fl_Mo_7 rfl ?_
  refine ev_aload_n de_Mo_four_11 rfl rfl ?_
  refine ev_getfield de_Mo_four_12 rfl fl_Mo_76 rfl ?_
  refine ev_iload_n de_Mo_four_15 rfl rfl ?_
  refine ev_iload_n de_Mo_four_16 rfl rfl ?_
  refine ev_ishr de_Mo_four_17 (by omega) (by decide) (by decide) ?_
  refine ev_i2b de_Mo_four_18 ?_
  refine ev_bastore de_Mo_four_19 rfl (by decide) (by decide) (by decide) ?_
  refine ev_world (w' := ((((fw_0.set 1 (ab_ob 8 [ab_R (2), ab_I (20), ab_I (0), ab_R (ab_sb + 0), ab_I (0), ab_I (0), ab_I (0), ab_I (0), ab_I (0)])).set 2 (ab_ai 1 400 (g))).set 107 (ab_ob 11 [ab_R (108), ab_I (17), ab_I (0), ab_R (109), ab_R (110), ab_R (111), ab_R (112), ab_R (113), ab_I (0), ab_I (0), ab_I (0), ab_I (0), ab_I (0), ab_I (0), ab_I (0), ab_R (114), ab_I (0), ab_R (115), ab_I (0), ab_R (116), ab_R (117), ab_I (0), ab_R (118), ab_I (0), ab_R (119), ab_R (120), ab_R (121), ab_R (122), ab_R (123), ab_R (124), ab_R (125), ab_I (0), ab_I (0), ab_J (0), ab_R (126), ab_R (127), ab_R (128)])).set 108 (ab_ai 1 400 (_)))) rfl ?_
  refine ev_aload_n de_Mo_four_20 rfl rfl ?_
  refine ev_dup de_Mo_four_21 rfl ?_
  refine ev_getfield de_Mo_four_22 rfl fl_Mo_76 rfl ?_
  refine ev_iconst de_Mo_four_25 ?_
  refine ev_iadd de_Mo_four_26 ?_
  refine ev_top (b := ab_I (18)) rfl ?_
  refine ev_putfield de_Mo_four_27 rfl (fp_Mo_76 _) (Nat.le_of_ble_eq_true rfl) trivial ?_
  refine ev_world (w' := ((((fw_0.set 1 (ab_ob 8 [ab_R (2), ab_I (20), ab_I (0), ab_R (ab_sb + 0), ab_I (0), ab_I (0), ab_I (0), ab_I (0), ab_I (0)])).set 2 (ab_ai 1 400 (g))).set 107 (ab_ob 11 [ab_R (108), ab_I (18), ab_I (0), ab_R (109), ab_R (110), ab_R (111), ab_R (112), ab_R (113), ab_I (0), ab_I (0), ab_I (0), ab_I (0), ab_I (0), ab_I (0), ab_I (0), ab_R (114), ab_I (0), ab_R (115), ab_I (0), ab_R (116), ab_R (117), ab_I (0), ab_R (118), ab_I (0), ab_R (119), ab_R (120), ab_R (121), ab_R (122), ab_R (123), ab_R (124), ab_R (125), ab_I (0), ab_I (0), ab_J (0), ab_R (126), ab_R (127), ab_R (128)])).set 108 (ab_ai 1 400 (_)))) rfl ?_
  refine ev_iinc (l' := [_, _, _]) de_Mo_four_30 rfl rfl ?_
  refine ev_loc (l2 := [some (ab_R (107)), some (ab_I (v0)), some (ab_I (8))]) rfl ?_
  refine ev_goto (tgt := 3) de_Mo_four_33 (by decide) ?_
  refine ev_iload_n de_Mo_four_3 rfl rfl ?_
  refine ev_if_lt (tgt := 36) de_Mo_four_4 (by decide) (by decide) (fun h => absurd h (by decide)) (fun _ => ?_)
  refine ev_aload_n de_Mo_four_7 rfl rfl ?_
  refine ev_getfield de_Mo_four_8 rfl fl_Mo_7 rfl ?_
  refine ev_aload_n de_Mo_four_11 rfl rfl ?_
  refine ev_getfield de_Mo_four_12 rfl fl_Mo_76 rfl ?_
  refine ev_iload_n de_Mo_four_15 rfl rfl ?_
  refine ev_iload_n de_Mo_four_16 rfl rfl ?_
  refine ev_ishr de_Mo_four_17 (by omega) (by decide) (by decide) ?_
  refine ev_i2b de_Mo_four_18 ?_
  refine ev_bastore de_Mo_four_19 rfl (by decide) (by decide) (by decide) ?_
  refine ev_world (w' := ((((fw_0.set 1 (ab_ob 8 [ab_R (2), ab_I (20), ab_I (0), ab_R (ab_sb + 0), ab_I (0), ab_I (0), ab_I (0), ab_I (0), ab_I (0)])).set 2 (ab_ai 1 400 (g))).set 107 (ab_ob 11 [ab_R (108), ab_I (18), ab_I (0), ab_R (109), ab_R (110), ab_R (111), ab_R (112), ab_R (113), ab_I (0), ab_I (0), ab_I (0), ab_I (0), ab_I (0), ab_I (0), ab_I (0), ab_R (114), ab_I (0), ab_R (115), ab_I (0), ab_R (116), ab_R (117), ab_I (0), ab_R (118), ab_I (0), ab_R (119), ab_R (120), ab_R (121), ab_R (122), ab_R (123), ab_R (124), ab_R (125), ab_I (0), ab_I (0), ab_J (0), ab_R (126), ab_R (127), ab_R (128)])).set 108 (ab_ai 1 400 (_)))) rfl ?_
  refine ev_aload_n de_Mo_four_20 rfl rfl ?_
  refine ev_dup de_Mo_four_21 rfl ?_
  refine ev_getfield de_Mo_four_22 rfl fl_Mo_76 rfl ?_
  refine ev_iconst de_Mo_four_25 ?_
  refine ev_iadd de_Mo_four_26 ?_
  refine ev_top (b := ab_I (19)) rfl ?_
  refine ev_putfield de_Mo_four_27 rfl (fp_Mo_76 _) (Nat.le_of_ble_eq_true rfl) trivial ?_
  refine ev_world (w' := ((((fw_0.set 1 (ab_ob 8 [ab_R (2), ab_I (20), ab_I (0), ab_R (ab_sb + 0), ab_I (0), ab_I (0), ab_I (0), ab_I (0), ab_I (0)])).set 2 (ab_ai 1 400 (g))).set 107 (ab_ob 11 [ab_R (108), ab_I (19), ab_I (0), ab_R (109), ab_R (110), ab_R (111), ab_R (112), ab_R (113), ab_I (0), ab_I (0), ab_I (0), ab_I (0), ab_I (0), ab_I (0), ab_I (0), ab_R (114), ab_I (0), ab_R (115), ab_I (0), ab_R (116), ab_R (117), ab_I (0), ab_R (118), ab_I (0), ab_R (119), ab_R (120), ab_R (121), ab_R (122), ab_R (123), ab_R (124), ab_R (125), ab_I (0), ab_I (0), ab_J (0), ab_R (126), ab_R (127), ab_R (128)])).set 108 (ab_ai 1 400 (_)))) rfl ?_
  refine ev_iinc (l' := [_, _, _]) de_Mo_four_30 rfl rfl ?_
  refine ev_loc (l2 := [some (ab_R (107)), some (ab_I (v0)), some (ab_I (0))]) rfl ?_
  refine ev_goto (tgt := 3) de_Mo_four_33 (by decide) ?_
  refine ev_iload_n de_Mo_four_3 rfl rfl ?_
  refine ev_if_lt (tgt := 36) de_Mo_four_4 (by decide) (by decide) (fun h => absurd h (by decide)) (fun _ => ?_)
  refine ev_aload_n de_Mo_four_7 rfl rfl ?_
  refine ev_getfield de_Mo_four_8 rfl fl_Mo_7 rfl ?_
  refine ev_aload_n de_Mo_four_11 rfl rfl ?_
  refine ev_getfield de_Mo_four_12 rfl fl_Mo_76 rfl ?_
  refine ev_iload_n de_Mo_four_15 rfl rfl ?_
  refine ev_iload_n de_Mo_four_16 rfl rfl ?_
  refine ev_ishr de_Mo_four_17 (by omega) (by decide) (by decide) ?_
  refine ev_i2b de_Mo_four_18 ?_
  refine ev_bastore de_Mo_four_19 rfl (by decide) (by decide) (by decide) ?_
  refine ev_world (w' := ((((fw_0.set 1 (ab_ob 8 [ab_R (2), ab_I (20), ab_I (0), ab_R (ab_sb + 0), ab_I (0), ab_I (0), ab_I (0), ab_I (0), ab_I (0)])).set 2 (ab_ai 1 400 (g))).set 107 (ab_ob 11 [ab_R (108), ab_I (19), ab_I (0), ab_R (109), ab_R (110), ab_R (111), ab_R (112), ab_R (113), ab_I (0), ab_I (0), ab_I (0), ab_I (0), ab_I (0), ab_I (0), ab_I (0), ab_R (114), ab_I (0), ab_R (115), ab_I (0), ab_R (116), ab_R (117), ab_I (0), ab_R (118), ab_I (0), ab_R (119), ab_R (120), ab_R (121), ab_R (122), ab_R (123), ab_R (124), ab_R (125), ab_I (0), ab_I (0), ab_J (0), ab_R (126), ab_R (127), ab_R (128)])).set 108 (ab_ai 1 400 (_)))) rfl ?_
  refine ev_aload_n de_Mo_four_20 rfl rfl ?_
  refine ev_dup de_Mo_four_21 rfl ?_
  refine ev_getfield de_Mo_four_22 rfl fl_Mo_76 rfl ?_
  refine ev_iconst de_Mo_four_25 ?_
  refine ev_iadd de_Mo_four_26 ?_
  refine ev_top (b := ab_I (20)) rfl ?_
  refine ev_putfield de_Mo_four_27 rfl (fp_Mo_76 _) (Nat.le_of_ble_eq_true rfl) trivial ?_
  refine ev_world (w' := ((((fw_0.set 1 (ab_ob 8 [ab_R (2), ab_I (20), ab_I (0), ab_R (ab_sb + 0), ab_I (0), ab_I (0), ab_I (0), ab_I (0), ab_I (0)])).set 2 (ab_ai 1 400 (g))).set 107 (ab_ob 11 [ab_R (108), ab_I (20), ab_I (0), ab_R (109), ab_R (110), ab_R (111), ab_R (112), ab_R (113), ab_I (0), ab_I (0), ab_I (0), ab_I (0), ab_I (0), ab_I (0), ab_I (0), ab_R (114), ab_I (0), ab_R (115), ab_I (0), ab_R (116), ab_R (117), ab_I (0), ab_R (118), ab_I (0), ab_R (119), ab_R (120), ab_R (121), ab_R (122), ab_R (123), ab_R (124), ab_R (125), ab_I (0), ab_I (0), ab_J (0), ab_R (126), ab_R (127), ab_R (128)])).set 108 (ab_ai 1 400 (_)))) rfl ?_
  refine ev_iinc (l' := [_, _, _]) de_Mo_four_30 rfl rfl ?_
  refine ev_loc (l2 := [some (ab_R (107)), some (ab_I (v0)), some (ab_I ((-8)))]) rfl ?_
  refine ev_goto (tgt := 3) de_Mo_four_33 (by decide) ?_
  refine ev_iload_n de_Mo_four_3 rfl rfl ?_
  refine ev_if_lt (tgt := 36) de_Mo_four_4 (by decide) (by decide) (fun _ => ?_) (fun h => absurd h (by decide))
  exact ev_return de_Mo_four_36 rfl ⟨rfl, _, rfl⟩
theorem de_Mo_feed_0 : decode prog_14_method_6_code 0 = .ok (.aload_n 0, 1) := by decide +kernel
theorem de_Mo_feed_1 : decode prog_14_method_6_code 1 = .ok (.getfield 76, 3) := by decide +kernel
theorem de_Mo_feed_4 : decode prog_14_method_6_code 4 = .ok (.bipush 20, 2) := by decide +kernel
theorem de_Mo_feed_6 : decode prog_14_method_6_code 6 = .ok (.iadd, 1) := by decide +kernel
theorem de_Mo_feed_7 : decode prog_14_method_6_code 7 = .ok (.sipush 400, 3) := by decide +kernel
theorem de_Mo_feed_10 : decode prog_14_method_6_code 10 = .ok (.if_icmp .le 5, 3) := by decide +kernel
theorem de_Mo_feed_15 : decode prog_14_method_6_code 15 = .ok (.aload_n 0, 1) := by decide +kernel
theorem de_Mo_feed_16 : decode prog_14_method_6_code 16 = .ok (.iload_n 1, 1) := by decide +kernel
theorem de_Mo_feed_17 : decode prog_14_method_6_code 17 = .ok (.invokevirtual 80, 3) := by decide +kernel
theorem de_Mo_feed_20 : decode prog_14_method_6_code 20 = .ok (.aload_n 0, 1) := by decide +kernel
theorem de_Mo_feed_21 : decode prog_14_method_6_code 21 = .ok (.iload_n 2, 1) := by decide +kernel
theorem de_Mo_feed_22 : decode prog_14_method_6_code 22 = .ok (.invokevirtual 80, 3) := by decide +kernel
theorem de_Mo_feed_25 : decode prog_14_method_6_code 25 = .ok (.aload_n 0, 1) := by decide +kernel
theorem de_Mo_feed_26 : decode prog_14_method_6_code 26 = .ok (.iload_n 3, 1) := by decide +kernel
theorem de_Mo_feed_27 : decode prog_14_method_6_code 27 = .ok (.invokevirtual 80, 3) := by decide +kernel
theorem de_Mo_feed_30 : decode prog_14_method_6_code 30 = .ok (.aload_n 0, 1) := by decide +kernel
theorem de_Mo_feed_31 : decode prog_14_method_6_code 31 = .ok (.iload 4, 2) := by decide +kernel
theorem de_Mo_feed_33 : decode prog_14_method_6_code 33 = .ok (.invokevirtual 80, 3) := by decide +kernel
theorem de_Mo_feed_36 : decode prog_14_method_6_code 36 = .ok (.aload_n 0, 1) := by decide +kernel
theorem de_Mo_feed_37 : decode prog_14_method_6_code 37 = .ok (.iload 5, 2) := by decide +kernel
theorem de_Mo_feed_39 : decode prog_14_method_6_code 39 = .ok (.invokevirtual 80, 3) := by decide +kernel
theorem de_Mo_feed_42 : decode prog_14_method_6_code 42 = .ok (.aload_n 0, 1) := by decide +kernel
theorem de_Mo_feed_43 : decode prog_14_method_6_code 43 = .ok (.getfield 76, 3) := by decide +kernel
theorem de_Mo_feed_46 : decode prog_14_method_6_code 46 = .ok (.ireturn, 1) := by decide +kernel
set_option maxHeartbeats 4000000 in
set_option maxRecDepth 20000 in
theorem yy_feed (g : Int → Int) (v0 : Int) (hv0 : ab_in v0) (v1 : Int) (hv1 : ab_in v1) (v2 : Int) (hv2 : ab_in v2) (v3 : Int) (hv3 : ab_in v3) (v4 : Int) (hv4 : ab_in v4) : ab_Mt g_G g_rs mt_Mo_feed 2 0 0 [ab_R (107), ab_I (v0), ab_I (v1), ab_I (v2), ab_I (v3), ab_I (v4)] ((fw_0.set 1 (ab_ob 8 [ab_R (2), ab_I (20), ab_I (0), ab_R (ab_sb + 0), ab_I (0), ab_I (0), ab_I (0), ab_I (0), ab_I (0)])).set 2 (ab_ai 1 400 (g))) (fun r w2 => r = some (ab_I 20) ∧ w2.length = ((fw_0.set 1 (ab_ob 8 [ab_R (2), ab_I (20), ab_I (0), ab_R (ab_sb + 0), ab_I (0), ab_I (0), ab_I (0), ab_I (0), ab_I (0)])).set 2 (ab_ai 1 400 (g))).length) := by
  refine ab_Mt.of rfl (Nat.le_of_ble_eq_true rfl) ?_
  show ab_Ev g_G g_rs mt_Mo_feed _ _ _ 0 [some (ab_R (107)), some (ab_I (v0)), some (ab_I (v1)), some (ab_I (v2)), some (ab_I (v3)), some (ab_I (v4))] [] _ _
  refine ev_aload_n de_Mo_feed_0 rfl rfl ?_
  refine ev_getfield de_Mo_feed_1 rfl fl_Mo_76 rfl ?_
  refine ev_bipush de_Mo_feed_4 rfl ?_
  refine ev_iadd de_Mo_feed_6 ?_
  refine ev_top (b := ab_I (20)) rfl ?_
  refine ev_sipush de_Mo_feed_7 rfl ?_
  refine ev_icmp_le (tgt := 15) de_Mo_feed_10 (by decide) (by decide) (by decide) (fun _ => ?_) (fun h => absurd h (by decide))
  refine ev_aload_n de_Mo_feed_15 rfl rfl ?_
  refine ev_iload_n de_Mo_feed_16 rfl rfl ?_
  refine ev_world (w' := (((fw_0.set 1 (ab_ob 8 [ab_R (2), ab_I (20), ab_I (0), ab_R (ab_sb + 0), ab_I (0), ab_I (0), ab_I (0), ab_I (0), ab_I (0)])).set 2 (ab_ai 1 400 (g))).set 108 (ab_ai 1 400 (fun _ => 0)))) rfl ?_
  refine ev_vnE (ci := 11) (W := fun f1 => ((((fw_0.set 1 (ab_ob 8 [ab_R (2), ab_I (20), ab_I (0), ab_R (ab_sb + 0), ab_I (0), ab_I (0), ab_I (0), ab_I (0), ab_I (0)])).set 2 (ab_ai 1 400 (g))).set 107 (ab_ob 11 [ab_R (108), ab_I (4), ab_I (0), ab_R (109), ab_R (110), ab_R (111), ab_R (112), ab_R (113), ab_I (0), ab_I (0), ab_I (0), ab_I (0), ab_I (0), ab_I (0), ab_I (0), ab_R (114), ab_I (0), ab_R (115), ab_I (0), ab_R (116), ab_R (117), ab_I (0), ab_R (118), ab_I (0), ab_R (119), ab_R (120), ab_R (121), ab_R (122), ab_R (123), ab_R (124), ab_R (125), ab_I (0), ab_I (0), ab_J (0), ab_R (126), ab_R (127), ab_R (128)])).set 108 (ab_ai 1 400 (f1)))) de_Mo_feed_17 (qb_0 (fun _ => 0) g v0 hv0) kb_Mo_80 ⟨im_Mo_four, se_Mo_four⟩ rfl rfl rfl (Nat.le_of_ble_eq_true rfl) (by decide) (fun _ => rfl) (fun f1 => ?_)
  refine ev_aload_n de_Mo_feed_20 rfl rfl ?_
  refine ev_iload_n de_Mo_feed_21 rfl rfl ?_
  refine ev_vnE (ci := 11) (W := fun f2 => ((((fw_0.set 1 (ab_ob 8 [ab_R (2), ab_I (20), ab_I (0), ab_R (ab_sb + 0), ab_I (0), ab_I (0), ab_I (0), ab_I (0), ab_I (0)])).set 2 (ab_ai 1 400 (g))).set 107 (ab_ob 11 [ab_R (108), ab_I (8), ab_I (0), ab_R (109), ab_R (110), ab_R (111), ab_R (112), ab_R (113), ab_I (0), ab_I (0), ab_I (0), ab_I (0), ab_I (0), ab_I (0), ab_I (0), ab_R (114), ab_I (0), ab_R (115), ab_I (0), ab_R (116), ab_R (117), ab_I (0), ab_R (118), ab_I (0), ab_R (119), ab_R (120), ab_R (121), ab_R (122), ab_R (123), ab_R (124), ab_R (125), ab_I (0), ab_I (0), ab_J (0), ab_R (126), ab_R (127), ab_R (128)])).set 108 (ab_ai 1 400 (f2)))) de_Mo_feed_22 (qb_4 (f1) g v1 hv1) kb_Mo_80 ⟨im_Mo_four, se_Mo_four⟩ rfl rfl rfl (Nat.le_of_ble_eq_true rfl) (by decide) (fun _ => rfl) (fun f2 => ?_)
  refine ev_aload_n de_Mo_feed_25 rfl rfl ?_
  refine ev_iload_n de_Mo_feed_26 rfl rfl ?_
  refine ev_vnE (ci := 11) (W := fun f3 => ((((fw_0.set 1 (ab_ob 8 [ab_R (2), ab_I (20), ab_I (0), ab_R (ab_sb + 0), ab_I (0), ab_I (0), ab_I (0), ab_I (0), ab_I (0)])).set 2 (ab_ai 1 400 (g))).set 107 (ab_ob 11 [ab_R (108), ab_I (12), ab_I (0), ab_R (109), ab_R (110), ab_R (111), ab_R (112), ab_R (113), ab_I (0), ab_I (0), ab_I (0), ab_I (0), ab_I (0), ab_I (0), ab_I (0), ab_R (114), ab_I (0), ab_R (115), ab_I (0), ab_R (116), ab_R (117), ab_I (0), ab_R (118), ab_I (0), ab_R (119), ab_R (120), ab_R (121), ab_R (122), ab_R (123), ab_R (124), ab_R (125), ab_I (0), ab_I (0), ab_J (0), ab_R (126), ab_R (127), ab_R (128)])).set 108 (ab_ai 1 400 (f3)))) de_Mo_feed_27 (qb_8 (f2) g v2 hv2) kb_Mo_80 ⟨im_Mo_four, se_Mo_four⟩ rfl rfl rfl (Nat.le_of_ble_eq_true rfl) (by decide) (fun _ => rfl) (fun f3 => ?_)
  refine ev_aload_n de_Mo_feed_30 rfl rfl ?_
  refine ev_iload de_Mo_feed_31 rfl ?_
  refine ev_vnE (ci := 11) (W := fun f4 => ((((fw_0.set 1 (ab_ob 8 [ab_R (2), ab_I (20), ab_I (0), ab_R (ab_sb + 0), ab_I (0), ab_I (0), ab_I (0), ab_I (0), ab_I (0)])).set 2 (ab_ai 1 400 (g))).set 107 (ab_ob 11 [ab_R (108), ab_I (16), ab_I (0), ab_R (109), ab_R (110), ab_R (111), ab_R (112), ab_R (113), ab_I (0), ab_I (0), ab_I (0), ab_I (0), ab_I (0), ab_I (0), ab_I (0), ab_R (114), ab_I (0), ab_R (115), ab_I (0), ab_R (116), ab_R (117), ab_I (0), ab_R (118), ab_I (0), ab_R (119), ab_R (120), ab_R (121), ab_R (122), ab_R (123), ab_R (124), ab_R (125), ab_I (0), ab_I (0), ab_J (0), ab_R (126), ab_R (127), ab_R (128)])).set 108 (ab_ai 1 400 (f4)))) de_Mo_feed_33 (qb_12 (f3) g v3 hv3) kb_Mo_80 ⟨im_Mo_four, se_Mo_four⟩ rfl rfl rfl (Nat.le_of_ble_eq_true rfl) (by decide) (fun _ => rfl) (fun f4 => ?_)
  refine ev_aload_n de_Mo_feed_36 rfl rfl ?_
  refine ev_iload de_Mo_feed_37 rfl ?_
  refine ev_vnE (ci := 11) (W := fun f5 => ((((fw_0.set 1 (ab_ob 8 [ab_R (2), ab_I (20), ab_I (0), ab_R (ab_sb + 0), ab_I (0), ab_I (0), ab_I (0), ab_I (0), ab_I (0)])).set 2 (ab_ai 1 400 (g))).set 107 (ab_ob 11 [ab_R (108), ab_I (20), ab_I (0), ab_R (109), ab_R (110), ab_R (111), ab_R (112), ab_R (113), ab_I (0), ab_I (0), ab_I (0), ab_I (0), ab_I (0), ab_I (0), ab_I (0), ab_R (114), ab_I (0), ab_R (115), ab_I (0), ab_R (116), ab_R (117), ab_I (0), ab_R (118), ab_I (0), ab_R (119), ab_R (120), ab_R (121), ab_R (122), ab_R (123), ab_R (124), ab_R (125), ab_I (0), ab_I (0), ab_J (0), ab_R (126), ab_R (127), ab_R (128)])).set 108 (ab_ai 1 400 (f5)))) de_Mo_feed_39 (qb_16 (f4) g v4 hv4) kb_Mo_80 ⟨im_Mo_four, se_Mo_four⟩ rfl rfl rfl (Nat.le_of_ble_eq_true rfl) (by decide) (fun _ => rfl) (fun f5 => ?_)
  refine ev_aload_n de_Mo_feed_42 rfl rfl ?_
  refine ev_getfield de_Mo_feed_43 rfl fl_Mo_76 rfl ?_
  exact ev_ireturn de_Mo_feed_46 rfl ⟨rfl, rfl⟩
set_option maxHeartbeats 4000000 in
set_option maxRecDepth 20000 in
theorem fx_192 (f : Int → Int) : ab_Mt g_G g_rs mt_Mo_see 1 0 0 [ab_R (107)] ((((((((fw_0.set 1 (ab_ob 8 [ab_R (2), ab_I (0), ab_I (0), ab_R (ab_sb + 1), ab_I (1), ab_I (0), ab_I ((-1)), ab_I ((-1)), ab_I ((-1))])).set 20 (ab_ai 0 35 (ab_fv (fun _ => 0) (0) 35))).set 21 (ab_al 24 (ab_fv (fun _ => 0) (Int64.ofInt 0) 24))).set 22 (ab_ai 0 24 (ab_fv (fun _ => 0) (1) 24))).set 23 (ab_ai 0 12 (ab_fv (fun _ => 0) (0) 12))).set 107 (ab_ob 11 [ab_R (108), ab_I (0), ab_I (0), ab_R (109), ab_R (110), ab_R (111), ab_R (112), ab_R (113), ab_I (0), ab_I (0), ab_I (0), ab_I (6), ab_I (0), ab_I (0), ab_I (0), ab_R (114), ab_I (0), ab_R (115), ab_I (0), ab_R (116), ab_R (117), ab_I (0), ab_R (118), ab_I (0), ab_R (119), ab_R (120), ab_R (121), ab_R (122), ab_R (123), ab_R (124), ab_R (125), ab_I (0), ab_I (0), ab_J (0), ab_R (126), ab_R (127), ab_R (128)])).set 110 (ab_ai 0 7 (ab_up (fun _ => 0) (6) (0)))).set 113 (ab_ai 0 150 (f))) (ab_is (some (ab_I ((-1)))) ((((((((fw_0.set 1 (ab_ob 8 [ab_R (2), ab_I (0), ab_I (0), ab_R (ab_sb + 1), ab_I (1), ab_I (0), ab_I ((-1)), ab_I ((-1)), ab_I ((-1))])).set 20 (ab_ai 0 35 (ab_fv (fun _ => 0) (0) 35))).set 21 (ab_al 24 (ab_fv (fun _ => 0) (Int64.ofInt 0) 24))).set 22 (ab_ai 0 24 (ab_fv (fun _ => 0) (1) 24))).set 23 (ab_ai 0 12 (ab_fv (fun _ => 0) (0) 12))).set 107 (ab_ob 11 [ab_R (108), ab_I (0), ab_I (0), ab_R (109), ab_R (110), ab_R (111), ab_R (112), ab_R (113), ab_I (0), ab_I (0), ab_I (0), ab_I (6), ab_I (0), ab_I (0), ab_I (0), ab_R (114), ab_I (0), ab_R (115), ab_I (0), ab_R (116), ab_R (117), ab_I (0), ab_R (118), ab_I (0), ab_R (119), ab_R (120), ab_R (121), ab_R (122), ab_R (123), ab_R (124), ab_R (125), ab_I (0), ab_I (0), ab_J (0), ab_R (126), ab_R (127), ab_R (128)])).set 110 (ab_ai 0 7 (ab_up (fun _ => 0) (6) (0)))).set 113 (ab_ai 0 150 (f)))) := by
  refine ab_Mt.of rfl (Nat.le_of_ble_eq_true rfl) ?_
  show ab_Ev g_G g_rs mt_Mo_see _ _ _ 0 [some (ab_R (107))] [] _ _
  refine ev_aload_n de_Mo_see_0 rfl rfl ?_
  refine ev_getfield de_Mo_see_1 rfl fl_Mo_87 rfl ?_
  refine ev_aload_n de_Mo_see_4 rfl rfl ?_
  refine ev_getfield de_Mo_see_5 rfl fl_Mo_76 rfl ?_
  refine ev_icmp_ge (tgt := 38) de_Mo_see_8 (by decide) (by decide) (by decide) (fun _ => ?_) (fun h => absurd h (by decide))
  refine ev_aload_n de_Mo_see_38 rfl rfl ?_
  refine ev_getfield de_Mo_see_39 rfl fl_Mo_87 rfl ?_
  refine ev_aload_n de_Mo_see_42 rfl rfl ?_
  refine ev_getfield de_Mo_see_43 rfl fl_Mo_76 rfl ?_
  refine ev_icmp_ge (tgt := 65) de_Mo_see_46 (by decide) (by decide) (by decide) (fun _ => ?_) (fun h => absurd h (by decide))
  refine ev_iconst de_Mo_see_65 ?_
  exact ev_ireturn de_Mo_see_66 rfl ⟨rfl, rfl⟩
set_option maxHeartbeats 4000000 in
set_option maxRecDepth 20000 in
theorem fx_195 (f : Int → Int) : ab_Mt g_G g_rs mt_Mo_isLetter 1 0 0 [ab_R (107), ab_I (0)] ((((((((fw_0.set 1 (ab_ob 8 [ab_R (2), ab_I (0), ab_I (0), ab_R (ab_sb + 1), ab_I (1), ab_I (0), ab_I ((-1)), ab_I ((-1)), ab_I ((-1))])).set 20 (ab_ai 0 35 (ab_fv (fun _ => 0) (0) 35))).set 21 (ab_al 24 (ab_fv (fun _ => 0) (Int64.ofInt 0) 24))).set 22 (ab_ai 0 24 (ab_fv (fun _ => 0) (1) 24))).set 23 (ab_ai 0 12 (ab_fv (fun _ => 0) (0) 12))).set 107 (ab_ob 11 [ab_R (108), ab_I (0), ab_I (0), ab_R (109), ab_R (110), ab_R (111), ab_R (112), ab_R (113), ab_I (0), ab_I (0), ab_I (0), ab_I (6), ab_I (0), ab_I (0), ab_I (0), ab_R (114), ab_I (0), ab_R (115), ab_I (0), ab_R (116), ab_R (117), ab_I (0), ab_R (118), ab_I (0), ab_R (119), ab_R (120), ab_R (121), ab_R (122), ab_R (123), ab_R (124), ab_R (125), ab_I (0), ab_I (0), ab_J (0), ab_R (126), ab_R (127), ab_R (128)])).set 110 (ab_ai 0 7 (ab_up (fun _ => 0) (6) (0)))).set 113 (ab_ai 0 150 (f))) (ab_is (some (ab_I (0))) ((((((((fw_0.set 1 (ab_ob 8 [ab_R (2), ab_I (0), ab_I (0), ab_R (ab_sb + 1), ab_I (1), ab_I (0), ab_I ((-1)), ab_I ((-1)), ab_I ((-1))])).set 20 (ab_ai 0 35 (ab_fv (fun _ => 0) (0) 35))).set 21 (ab_al 24 (ab_fv (fun _ => 0) (Int64.ofInt 0) 24))).set 22 (ab_ai 0 24 (ab_fv (fun _ => 0) (1) 24))).set 23 (ab_ai 0 12 (ab_fv (fun _ => 0) (0) 12))).set 107 (ab_ob 11 [ab_R (108), ab_I (0), ab_I (0), ab_R (109), ab_R (110), ab_R (111), ab_R (112), ab_R (113), ab_I (0), ab_I (0), ab_I (0), ab_I (6), ab_I (0), ab_I (0), ab_I (0), ab_R (114), ab_I (0), ab_R (115), ab_I (0), ab_R (116), ab_R (117), ab_I (0), ab_R (118), ab_I (0), ab_R (119), ab_R (120), ab_R (121), ab_R (122), ab_R (123), ab_R (124), ab_R (125), ab_I (0), ab_I (0), ab_J (0), ab_R (126), ab_R (127), ab_R (128)])).set 110 (ab_ai 0 7 (ab_up (fun _ => 0) (6) (0)))).set 113 (ab_ai 0 150 (f)))) := by
  refine ab_Mt.of rfl (Nat.le_of_ble_eq_true rfl) ?_
  show ab_Ev g_G g_rs mt_Mo_isLetter _ _ _ 0 [some (ab_R (107)), some (ab_I (0))] [] _ _
  refine ev_iload_n de_Mo_isLetter_0 rfl rfl ?_
  refine ev_aload_n de_Mo_isLetter_1 rfl rfl ?_
  refine ev_getfield de_Mo_isLetter_2 rfl fl_Mo_76 rfl ?_
  refine ev_icmp_ge (tgt := 34) de_Mo_isLetter_5 (by decide) (by decide) (by decide) (fun _ => ?_) (fun h => absurd h (by decide))
  refine ev_iconst de_Mo_isLetter_34 ?_
  exact ev_zreturn de_Mo_isLetter_35 rfl (by decide) ⟨rfl, rfl⟩
set_option maxHeartbeats 4000000 in
set_option maxRecDepth 20000 in
theorem fx_194 (f : Int → Int) : ab_Mt g_G g_rs mt_Mo_isWord 2 0 0 [ab_R (107), ab_J (Int64.ofInt (1919512167))] ((((((((fw_0.set 1 (ab_ob 8 [ab_R (2), ab_I (0), ab_I (0), ab_R (ab_sb + 1), ab_I (1), ab_I (0), ab_I ((-1)), ab_I ((-1)), ab_I ((-1))])).set 20 (ab_ai 0 35 (ab_fv (fun _ => 0) (0) 35))).set 21 (ab_al 24 (ab_fv (fun _ => 0) (Int64.ofInt 0) 24))).set 22 (ab_ai 0 24 (ab_fv (fun _ => 0) (1) 24))).set 23 (ab_ai 0 12 (ab_fv (fun _ => 0) (0) 12))).set 107 (ab_ob 11 [ab_R (108), ab_I (0), ab_I (0), ab_R (109), ab_R (110), ab_R (111), ab_R (112), ab_R (113), ab_I (0), ab_I (0), ab_I (0), ab_I (6), ab_I (0), ab_I (0), ab_I (0), ab_R (114), ab_I (0), ab_R (115), ab_I (0), ab_R (116), ab_R (117), ab_I (0), ab_R (118), ab_I (0), ab_R (119), ab_R (120), ab_R (121), ab_R (122), ab_R (123), ab_R (124), ab_R (125), ab_I (0), ab_I (0), ab_J (0), ab_R (126), ab_R (127), ab_R (128)])).set 110 (ab_ai 0 7 (ab_up (fun _ => 0) (6) (0)))).set 113 (ab_ai 0 150 (f))) (ab_is (some (ab_I (0))) ((((((((fw_0.set 1 (ab_ob 8 [ab_R (2), ab_I (0), ab_I (0), ab_R (ab_sb + 1), ab_I (1), ab_I (0), ab_I ((-1)), ab_I ((-1)), ab_I ((-1))])).set 20 (ab_ai 0 35 (ab_fv (fun _ => 0) (0) 35))).set 21 (ab_al 24 (ab_fv (fun _ => 0) (Int64.ofInt 0) 24))).set 22 (ab_ai 0 24 (ab_fv (fun _ => 0) (1) 24))).set 23 (ab_ai 0 12 (ab_fv (fun _ => 0) (0) 12))).set 107 (ab_ob 11 [ab_R (108), ab_I (0), ab_I (0), ab_R (109), ab_R (110), ab_R (111), ab_R (112), ab_R (113), ab_I (0), ab_I (0), ab_I (0), ab_I (6), ab_I (0), ab_I (0), ab_I (0), ab_R (114), ab_I (0), ab_R (115), ab_I (0), ab_R (116), ab_R (117), ab_I (0), ab_R (118), ab_I (0), ab_R (119), ab_R (120), ab_R (121), ab_R (122), ab_R (123), ab_R (124), ab_R (125), ab_I (0), ab_I (0), ab_J (0), ab_R (126), ab_R (127), ab_R (128)])).set 110 (ab_ai 0 7 (ab_up (fun _ => 0) (6) (0)))).set 113 (ab_ai 0 150 (f)))) := by
  refine ab_Mt.of rfl (Nat.le_of_ble_eq_true rfl) ?_
  show ab_Ev g_G g_rs mt_Mo_isWord _ _ _ 0 [some (ab_R (107)), some (ab_J (Int64.ofInt (1919512167))), none, none, none, none] [] _ _
  refine ev_aload_n de_Mo_isWord_0 rfl rfl ?_
  refine ev_vv (ci := 11) de_Mo_isWord_1 (fx_192 f) kb_Mo_90 ⟨im_Mo_see, se_Mo_see⟩ rfl rfl rfl (Nat.le_of_ble_eq_true rfl) (by decide) rfl ?_
  refine ev_pop de_Mo_isWord_4 rfl ?_
  refine ev_lconsti (n := 0) de_Mo_isWord_5 (by decide) ?_
  refine ev_lstore_n (l' := [_, _, _, _, _, _]) de_Mo_isWord_6 rfl (Nat.le_of_ble_eq_true rfl) rfl ?_
  refine ev_iconst de_Mo_isWord_7 ?_
  refine ev_istore (l' := [_, _, _, _, _, _]) de_Mo_isWord_8 (Nat.le_of_ble_eq_true rfl) rfl ?_
  refine ev_aload_n de_Mo_isWord_10 rfl rfl ?_
  refine ev_aload_n de_Mo_isWord_11 rfl rfl ?_
  refine ev_getfield de_Mo_isWord_12 rfl fl_Mo_87 rfl ?_
  refine ev_iload de_Mo_isWord_15 rfl ?_
  refine ev_iadd de_Mo_isWord_17 ?_
  refine ev_top (b := ab_I (0)) rfl ?_
  refine ev_vv (ci := 11) de_Mo_isWord_18 (fx_195 f) kb_Mo_94 ⟨im_Mo_isLetter, se_Mo_isLetter⟩ rfl rfl rfl (Nat.le_of_ble_eq_true rfl) (by decide) rfl ?_
  refine ev_if_eq (tgt := 56) de_Mo_isWord_21 (by decide) (by decide) (fun _ => ?_) (fun h => absurd h (by decide))
  refine ev_iload de_Mo_isWord_56 rfl ?_
  refine ev_if_le (tgt := 78) de_Mo_isWord_58 (by decide) (by decide) (fun _ => ?_) (fun h => absurd h (by decide))
  refine ev_iconst de_Mo_isWord_78 ?_
  exact ev_zreturn de_Mo_isWord_79 rfl (by decide) ⟨rfl, rfl⟩
set_option maxHeartbeats 4000000 in
set_option maxRecDepth 20000 in
theorem fx_196 (f : Int → Int) : ab_Mt g_G g_rs mt_Mo_isWord 2 0 0 [ab_R (107), ab_J (Int64.ofInt (448546567013))] ((((((((fw_0.set 1 (ab_ob 8 [ab_R (2), ab_I (0), ab_I (0), ab_R (ab_sb + 1), ab_I (1), ab_I (0), ab_I ((-1)), ab_I ((-1)), ab_I ((-1))])).set 20 (ab_ai 0 35 (ab_fv (fun _ => 0) (0) 35))).set 21 (ab_al 24 (ab_fv (fun _ => 0) (Int64.ofInt 0) 24))).set 22 (ab_ai 0 24 (ab_fv (fun _ => 0) (1) 24))).set 23 (ab_ai 0 12 (ab_fv (fun _ => 0) (0) 12))).set 107 (ab_ob 11 [ab_R (108), ab_I (0), ab_I (0), ab_R (109), ab_R (110), ab_R (111), ab_R (112), ab_R (113), ab_I (0), ab_I (0), ab_I (0), ab_I (6), ab_I (0), ab_I (0), ab_I (0), ab_R (114), ab_I (0), ab_R (115), ab_I (0), ab_R (116), ab_R (117), ab_I (0), ab_R (118), ab_I (0), ab_R (119), ab_R (120), ab_R (121), ab_R (122), ab_R (123), ab_R (124), ab_R (125), ab_I (0), ab_I (0), ab_J (0), ab_R (126), ab_R (127), ab_R (128)])).set 110 (ab_ai 0 7 (ab_up (fun _ => 0) (6) (0)))).set 113 (ab_ai 0 150 (f))) (ab_is (some (ab_I (0))) ((((((((fw_0.set 1 (ab_ob 8 [ab_R (2), ab_I (0), ab_I (0), ab_R (ab_sb + 1), ab_I (1), ab_I (0), ab_I ((-1)), ab_I ((-1)), ab_I ((-1))])).set 20 (ab_ai 0 35 (ab_fv (fun _ => 0) (0) 35))).set 21 (ab_al 24 (ab_fv (fun _ => 0) (Int64.ofInt 0) 24))).set 22 (ab_ai 0 24 (ab_fv (fun _ => 0) (1) 24))).set 23 (ab_ai 0 12 (ab_fv (fun _ => 0) (0) 12))).set 107 (ab_ob 11 [ab_R (108), ab_I (0), ab_I (0), ab_R (109), ab_R (110), ab_R (111), ab_R (112), ab_R (113), ab_I (0), ab_I (0), ab_I (0), ab_I (6), ab_I (0), ab_I (0), ab_I (0), ab_R (114), ab_I (0), ab_R (115), ab_I (0), ab_R (116), ab_R (117), ab_I (0), ab_R (118), ab_I (0), ab_R (119), ab_R (120), ab_R (121), ab_R (122), ab_R (123), ab_R (124), ab_R (125), ab_I (0), ab_I (0), ab_J (0), ab_R (126), ab_R (127), ab_R (128)])).set 110 (ab_ai 0 7 (ab_up (fun _ => 0) (6) (0)))).set 113 (ab_ai 0 150 (f)))) := by
  refine ab_Mt.of rfl (Nat.le_of_ble_eq_true rfl) ?_
  show ab_Ev g_G g_rs mt_Mo_isWord _ _ _ 0 [some (ab_R (107)), some (ab_J (Int64.ofInt (448546567013))), none, none, none, none] [] _ _
  refine ev_aload_n de_Mo_isWord_0 rfl rfl ?_
  refine ev_vv (ci := 11) de_Mo_isWord_1 (fx_192 f) kb_Mo_90 ⟨im_Mo_see, se_Mo_see⟩ rfl rfl rfl (Nat.le_of_ble_eq_true rfl) (by decide) rfl ?_
  refine ev_pop de_Mo_isWord_4 rfl ?_
  refine ev_lconsti (n := 0) de_Mo_isWord_5 (by decide) ?_
  refine ev_lstore_n (l' := [_, _, _, _, _, _]) de_Mo_isWord_6 rfl (Nat.le_of_ble_eq_true rfl) rfl ?_
  refine ev_iconst de_Mo_isWord_7 ?_
  refine ev_istore (l' := [_, _, _, _, _, _]) de_Mo_isWord_8 (Nat.le_of_ble_eq_true rfl) rfl ?_
  refine ev_aload_n de_Mo_isWord_10 rfl rfl ?_
  refine ev_aload_n de_Mo_isWord_11 rfl rfl ?_
  refine ev_getfield de_Mo_isWord_12 rfl fl_Mo_87 rfl ?_
  refine ev_iload de_Mo_isWord_15 rfl ?_
  refine ev_iadd de_Mo_isWord_17 ?_
  refine ev_top (b := ab_I (0)) rfl ?_
  refine ev_vv (ci := 11) de_Mo_isWord_18 (fx_195 f) kb_Mo_94 ⟨im_Mo_isLetter, se_Mo_isLetter⟩ rfl rfl rfl (Nat.le_of_ble_eq_true rfl) (by decide) rfl ?_
  refine ev_if_eq (tgt := 56) de_Mo_isWord_21 (by decide) (by decide) (fun _ => ?_) (fun h => absurd h (by decide))
  refine ev_iload de_Mo_isWord_56 rfl ?_
  refine ev_if_le (tgt := 78) de_Mo_isWord_58 (by decide) (by decide) (fun _ => ?_) (fun h => absurd h (by decide))
  refine ev_iconst de_Mo_isWord_78 ?_
  exact ev_zreturn de_Mo_isWord_79 rfl (by decide) ⟨rfl, rfl⟩
set_option maxHeartbeats 4000000 in
set_option maxRecDepth 20000 in
theorem fx_197 (f : Int → Int) : ab_Mt g_G g_rs mt_Mo_isWord 2 0 0 [ab_R (107), ab_J (Int64.ofInt (495689623668))] ((((((((fw_0.set 1 (ab_ob 8 [ab_R (2), ab_I (0), ab_I (0), ab_R (ab_sb + 1), ab_I (1), ab_I (0), ab_I ((-1)), ab_I ((-1)), ab_I ((-1))])).set 20 (ab_ai 0 35 (ab_fv (fun _ => 0) (0) 35))).set 21 (ab_al 24 (ab_fv (fun _ => 0) (Int64.ofInt 0) 24))).set 22 (ab_ai 0 24 (ab_fv (fun _ => 0) (1) 24))).set 23 (ab_ai 0 12 (ab_fv (fun _ => 0) (0) 12))).set 107 (ab_ob 11 [ab_R (108), ab_I (0), ab_I (0), ab_R (109), ab_R (110), ab_R (111), ab_R (112), ab_R (113), ab_I (0), ab_I (0), ab_I (0), ab_I (6), ab_I (0), ab_I (0), ab_I (0), ab_R (114), ab_I (0), ab_R (115), ab_I (0), ab_R (116), ab_R (117), ab_I (0), ab_R (118), ab_I (0), ab_R (119), ab_R (120), ab_R (121), ab_R (122), ab_R (123), ab_R (124), ab_R (125), ab_I (0), ab_I (0), ab_J (0), ab_R (126), ab_R (127), ab_R (128)])).set 110 (ab_ai 0 7 (ab_up (fun _ => 0) (6) (0)))).set 113 (ab_ai 0 150 (f))) (ab_is (some (ab_I (0))) ((((((((fw_0.set 1 (ab_ob 8 [ab_R (2), ab_I (0), ab_I (0), ab_R (ab_sb + 1), ab_I (1), ab_I (0), ab_I ((-1)), ab_I ((-1)), ab_I ((-1))])).set 20 (ab_ai 0 35 (ab_fv (fun _ => 0) (0) 35))).set 21 (ab_al 24 (ab_fv (fun _ => 0) (Int64.ofInt 0) 24))).set 22 (ab_ai 0 24 (ab_fv (fun _ => 0) (1) 24))).set 23 (ab_ai 0 12 (ab_fv (fun _ => 0) (0) 12))).set 107 (ab_ob 11 [ab_R (108), ab_I (0), ab_I (0), ab_R (109), ab_R (110), ab_R (111), ab_R (112), ab_R (113), ab_I (0), ab_I (0), ab_I (0), ab_I (6), ab_I (0), ab_I (0), ab_I (0), ab_R (114), ab_I (0), ab_R (115), ab_I (0), ab_R (116), ab_R (117), ab_I (0), ab_R (118), ab_I (0), ab_R (119), ab_R (120), ab_R (121), ab_R (122), ab_R (123), ab_R (124), ab_R (125), ab_I (0), ab_I (0), ab_J (0), ab_R (126), ab_R (127), ab_R (128)])).set 110 (ab_ai 0 7 (ab_up (fun _ => 0) (6) (0)))).set 113 (ab_ai 0 150 (f)))) := by
  refine ab_Mt.of rfl (Nat.le_of_ble_eq_true rfl) ?_
  show ab_Ev g_G g_rs mt_Mo_isWord _ _ _ 0 [some (ab_R (107)), some (ab_J (Int64.ofInt (495689623668))), none, none, none, none] [] _ _
  refine ev_aload_n de_Mo_isWord_0 rfl rfl ?_
  refine ev_vv (ci := 11) de_Mo_isWord_1 (fx_192 f) kb_Mo_90 ⟨im_Mo_see, se_Mo_see⟩ rfl rfl rfl (Nat.le_of_ble_eq_true rfl) (by decide) rfl ?_
  refine ev_pop de_Mo_isWord_4 rfl ?_
  refine ev_lconsti (n := 0) de_Mo_isWord_5 (by decide) ?_
  refine ev_lstore_n (l' := [_, _, _, _, _, _]) de_Mo_isWord_6 rfl (Nat.le_of_ble_eq_true rfl) rfl ?_
  refine ev_iconst de_Mo_isWord_7 ?_
  refine ev_istore (l' := [_, _, _, _, _, _]) de_Mo_isWord_8 (Nat.le_of_ble_eq_true rfl) rfl ?_
  refine ev_aload_n de_Mo_isWord_10 rfl rfl ?_
  refine ev_aload_n de_Mo_isWord_11 rfl rfl ?_
  refine ev_getfield de_Mo_isWord_12 rfl fl_Mo_87 rfl ?_
  refine ev_iload de_Mo_isWord_15 rfl ?_
  refine ev_iadd de_Mo_isWord_17 ?_
  refine ev_top (b := ab_I (0)) rfl ?_
  refine ev_vv (ci := 11) de_Mo_isWord_18 (fx_195 f) kb_Mo_94 ⟨im_Mo_isLetter, se_Mo_isLetter⟩ rfl rfl rfl (Nat.le_of_ble_eq_true rfl) (by decide) rfl ?_
  refine ev_if_eq (tgt := 56) de_Mo_isWord_21 (by decide) (by decide) (fun _ => ?_) (fun h => absurd h (by decide))
  refine ev_iload de_Mo_isWord_56 rfl ?_
  refine ev_if_le (tgt := 78) de_Mo_isWord_58 (by decide) (by decide) (fun _ => ?_) (fun h => absurd h (by decide))
  refine ev_iconst de_Mo_isWord_78 ?_
  exact ev_zreturn de_Mo_isWord_79 rfl (by decide) ⟨rfl, rfl⟩
set_option maxHeartbeats 4000000 in
set_option maxRecDepth 20000 in
theorem fx_198 (f : Int → Int) : ab_Mt g_G g_rs mt_Mo_isWord 2 0 0 [ab_R (107), ab_J (Int64.ofInt (465625113971))] ((((((((fw_0.set 1 (ab_ob 8 [ab_R (2), ab_I (0), ab_I (0), ab_R (ab_sb + 1), ab_I (1), ab_I (0), ab_I ((-1)), ab_I ((-1)), ab_I ((-1))])).set 20 (ab_ai 0 35 (ab_fv (fun _ => 0) (0) 35))).set 21 (ab_al 24 (ab_fv (fun _ => 0) (Int64.ofInt 0) 24))).set 22 (ab_ai 0 24 (ab_fv (fun _ => 0) (1) 24))).set 23 (ab_ai 0 12 (ab_fv (fun _ => 0) (0) 12))).set 107 (ab_ob 11 [ab_R (108), ab_I (0), ab_I (0), ab_R (109), ab_R (110), ab_R (111), ab_R (112), ab_R (113), ab_I (0), ab_I (0), ab_I (0), ab_I (6), ab_I (0), ab_I (0), ab_I (0), ab_R (114), ab_I (0), ab_R (115), ab_I (0), ab_R (116), ab_R (117), ab_I (0), ab_R (118), ab_I (0), ab_R (119), ab_R (120), ab_R (121), ab_R (122), ab_R (123), ab_R (124), ab_R (125), ab_I (0), ab_I (0), ab_J (0), ab_R (126), ab_R (127), ab_R (128)])).set 110 (ab_ai 0 7 (ab_up (fun _ => 0) (6) (0)))).set 113 (ab_ai 0 150 (f))) (ab_is (some (ab_I (0))) ((((((((fw_0.set 1 (ab_ob 8 [ab_R (2), ab_I (0), ab_I (0), ab_R (ab_sb + 1), ab_I (1), ab_I (0), ab_I ((-1)), ab_I ((-1)), ab_I ((-1))])).set 20 (ab_ai 0 35 (ab_fv (fun _ => 0) (0) 35))).set 21 (ab_al 24 (ab_fv (fun _ => 0) (Int64.ofInt 0) 24))).set 22 (ab_ai 0 24 (ab_fv (fun _ => 0) (1) 24))).set 23 (ab_ai 0 12 (ab_fv (fun _ => 0) (0) 12))).set 107 (ab_ob 11 [ab_R (108), ab_I (0), ab_I (0), ab_R (109), ab_R (110), ab_R (111), ab_R (112), ab_R (113), ab_I (0), ab_I (0), ab_I (0), ab_I (6), ab_I (0), ab_I (0), ab_I (0), ab_R (114), ab_I (0), ab_R (115), ab_I (0), ab_R (116), ab_R (117), ab_I (0), ab_R (118), ab_I (0), ab_R (119), ab_R (120), ab_R (121), ab_R (122), ab_R (123), ab_R (124), ab_R (125), ab_I (0), ab_I (0), ab_J (0), ab_R (126), ab_R (127), ab_R (128)])).set 110 (ab_ai 0 7 (ab_up (fun _ => 0) (6) (0)))).set 113 (ab_ai 0 150 (f)))) := by
  refine ab_Mt.of rfl (Nat.le_of_ble_eq_true rfl) ?_
  show ab_Ev g_G g_rs mt_Mo_isWord _ _ _ 0 [some (ab_R (107)), some (ab_J (Int64.ofInt (465625113971))), none, none, none, none] [] _ _
  refine ev_aload_n de_Mo_isWord_0 rfl rfl ?_
  refine ev_vv (ci := 11) de_Mo_isWord_1 (fx_192 f) kb_Mo_90 ⟨im_Mo_see, se_Mo_see⟩ rfl rfl rfl (Nat.le_of_ble_eq_true rfl) (by decide) rfl ?_
  refine ev_pop de_Mo_isWord_4 rfl ?_
  refine ev_lconsti (n := 0) de_Mo_isWord_5 (by decide) ?_
  refine ev_lstore_n (l' := [_, _, _, _, _, _]) de_Mo_isWord_6 rfl (Nat.le_of_ble_eq_true rfl) rfl ?_
  refine ev_iconst de_Mo_isWord_7 ?_
  refine ev_istore (l' := [_, _, _, _, _, _]) de_Mo_isWord_8 (Nat.le_of_ble_eq_true rfl) rfl ?_
  refine ev_aload_n de_Mo_isWord_10 rfl rfl ?_
  refine ev_aload_n de_Mo_isWord_11 rfl rfl ?_
  refine ev_getfield de_Mo_isWord_12 rfl fl_Mo_87 rfl ?_
  refine ev_iload de_Mo_isWord_15 rfl ?_
  refine ev_iadd de_Mo_isWord_17 ?_
  refine ev_top (b := ab_I (0)) rfl ?_
  refine ev_vv (ci := 11) de_Mo_isWord_18 (fx_195 f) kb_Mo_94 ⟨im_Mo_isLetter, se_Mo_isLetter⟩ rfl rfl rfl (Nat.le_of_ble_eq_true rfl) (by decide) rfl ?_
  refine ev_if_eq (tgt := 56) de_Mo_isWord_21 (by decide) (by decide) (fun _ => ?_) (fun h => absurd h (by decide))
  refine ev_iload de_Mo_isWord_56 rfl ?_
  refine ev_if_le (tgt := 78) de_Mo_isWord_58 (by decide) (by decide) (fun _ => ?_) (fun h => absurd h (by decide))
  refine ev_iconst de_Mo_isWord_78 ?_
  exact ev_zreturn de_Mo_isWord_79 rfl (by decide) ⟨rfl, rfl⟩
set_option maxHeartbeats 4000000 in
set_option maxRecDepth 20000 in
theorem fx_199 (f : Int → Int) : ab_Mt g_G g_rs mt_Mo_isWord 2 0 0 [ab_R (107), ab_J (Int64.ofInt (30521761840260467))] ((((((((fw_0.set 1 (ab_ob 8 [ab_R (2), ab_I (0), ab_I (0), ab_R (ab_sb + 1), ab_I (1), ab_I (0), ab_I ((-1)), ab_I ((-1)), ab_I ((-1))])).set 20 (ab_ai 0 35 (ab_fv (fun _ => 0) (0) 35))).set 21 (ab_al 24 (ab_fv (fun _ => 0) (Int64.ofInt 0) 24))).set 22 (ab_ai 0 24 (ab_fv (fun _ => 0) (1) 24))).set 23 (ab_ai 0 12 (ab_fv (fun _ => 0) (0) 12))).set 107 (ab_ob 11 [ab_R (108), ab_I (0), ab_I (0), ab_R (109), ab_R (110), ab_R (111), ab_R (112), ab_R (113), ab_I (0), ab_I (0), ab_I (0), ab_I (6), ab_I (0), ab_I (0), ab_I (0), ab_R (114), ab_I (0), ab_R (115), ab_I (0), ab_R (116), ab_R (117), ab_I (0), ab_R (118), ab_I (0), ab_R (119), ab_R (120), ab_R (121), ab_R (122), ab_R (123), ab_R (124), ab_R (125), ab_I (0), ab_I (0), ab_J (0), ab_R (126), ab_R (127), ab_R (128)])).set 110 (ab_ai 0 7 (ab_up (fun _ => 0) (6) (0)))).set 113 (ab_ai 0 150 (f))) (ab_is (some (ab_I (0))) ((((((((fw_0.set 1 (ab_ob 8 [ab_R (2), ab_I (0), ab_I (0), ab_R (ab_sb + 1), ab_I (1), ab_I (0), ab_I ((-1)), ab_I ((-1)), ab_I ((-1))])).set 20 (ab_ai 0 35 (ab_fv (fun _ => 0) (0) 35))).set 21 (ab_al 24 (ab_fv (fun _ => 0) (Int64.ofInt 0) 24))).set 22 (ab_ai 0 24 (ab_fv (fun _ => 0) (1) 24))).set 23 (ab_ai 0 12 (ab_fv (fun _ => 0) (0) 12))).set 107 (ab_ob 11 [ab_R (108), ab_I (0), ab_I (0), ab_R (109), ab_R (110), ab_R (111), ab_R (112), ab_R (113), ab_I (0), ab_I (0), ab_I (0), ab_I (6), ab_I (0), ab_I (0), ab_I (0), ab_R (114), ab_I (0), ab_R (115), ab_I (0), ab_R (116), ab_R (117), ab_I (0), ab_R (118), ab_I (0), ab_R (119), ab_R (120), ab_R (121), ab_R (122), ab_R (123), ab_R (124), ab_R (125), ab_I (0), ab_I (0), ab_J (0), ab_R (126), ab_R (127), ab_R (128)])).set 110 (ab_ai 0 7 (ab_up (fun _ => 0) (6) (0)))).set 113 (ab_ai 0 150 (f)))) := by
  refine ab_Mt.of rfl (Nat.le_of_ble_eq_true rfl) ?_
  show ab_Ev g_G g_rs mt_Mo_isWord _ _ _ 0 [some (ab_R (107)), some (ab_J (Int64.ofInt (30521761840260467))), none, none, none, none] [] _ _
  refine ev_aload_n de_Mo_isWord_0 rfl rfl ?_
  refine ev_vv (ci := 11) de_Mo_isWord_1 (fx_192 f) kb_Mo_90 ⟨im_Mo_see, se_Mo_see⟩ rfl rfl rfl (Nat.le_of_ble_eq_true rfl) (by decide) rfl ?_
  refine ev_pop de_Mo_isWord_4 rfl ?_
  refine ev_lconsti (n := 0) de_Mo_isWord_5 (by decide) ?_
  refine ev_lstore_n (l' := [_, _, _, _, _, _]) de_Mo_isWord_6 rfl (Nat.le_of_ble_eq_true rfl) rfl ?_
  refine ev_iconst de_Mo_isWord_7 ?_
  refine ev_istore (l' := [_, _, _, _, _, _]) de_Mo_isWord_8 (Nat.le_of_ble_eq_true rfl) rfl ?_
  refine ev_aload_n de_Mo_isWord_10 rfl rfl ?_
  refine ev_aload_n de_Mo_isWord_11 rfl rfl ?_
  refine ev_getfield de_Mo_isWord_12 rfl fl_Mo_87 rfl ?_
  refine ev_iload de_Mo_isWord_15 rfl ?_
  refine ev_iadd de_Mo_isWord_17 ?_
  refine ev_top (b := ab_I (0)) rfl ?_
  refine ev_vv (ci := 11) de_Mo_isWord_18 (fx_195 f) kb_Mo_94 ⟨im_Mo_isLetter, se_Mo_isLetter⟩ rfl rfl rfl (Nat.le_of_ble_eq_true rfl) (by decide) rfl ?_
  refine ev_if_eq (tgt := 56) de_Mo_isWord_21 (by decide) (by decide) (fun _ => ?_) (fun h => absurd h (by decide))
  refine ev_iload de_Mo_isWord_56 rfl ?_
  refine ev_if_le (tgt := 78) de_Mo_isWord_58 (by decide) (by decide) (fun _ => ?_) (fun h => absurd h (by decide))
  refine ev_iconst de_Mo_isWord_78 ?_
  exact ev_zreturn de_Mo_isWord_79 rfl (by decide) ⟨rfl, rfl⟩
set_option maxHeartbeats 4000000 in
set_option maxRecDepth 20000 in
theorem fx_200 (f : Int → Int) : ab_Mt g_G g_rs mt_Mo_isWord 2 0 0 [ab_R (107), ab_J (Int64.ofInt (1734440037))] ((((((((fw_0.set 1 (ab_ob 8 [ab_R (2), ab_I (0), ab_I (0), ab_R (ab_sb + 1), ab_I (1), ab_I (0), ab_I ((-1)), ab_I ((-1)), ab_I ((-1))])).set 20 (ab_ai 0 35 (ab_fv (fun _ => 0) (0) 35))).set 21 (ab_al 24 (ab_fv (fun _ => 0) (Int64.ofInt 0) 24))).set 22 (ab_ai 0 24 (ab_fv (fun _ => 0) (1) 24))).set 23 (ab_ai 0 12 (ab_fv (fun _ => 0) (0) 12))).set 107 (ab_ob 11 [ab_R (108), ab_I (0), ab_I (0), ab_R (109), ab_R (110), ab_R (111), ab_R (112), ab_R (113), ab_I (0), ab_I (0), ab_I (0), ab_I (6), ab_I (0), ab_I (0), ab_I (0), ab_R (114), ab_I (0), ab_R (115), ab_I (0), ab_R (116), ab_R (117), ab_I (0), ab_R (118), ab_I (0), ab_R (119), ab_R (120), ab_R (121), ab_R (122), ab_R (123), ab_R (124), ab_R (125), ab_I (0), ab_I (0), ab_J (0), ab_R (126), ab_R (127), ab_R (128)])).set 110 (ab_ai 0 7 (ab_up (fun _ => 0) (6) (0)))).set 113 (ab_ai 0 150 (f))) (ab_is (some (ab_I (0))) ((((((((fw_0.set 1 (ab_ob 8 [ab_R (2), ab_I (0), ab_I (0), ab_R (ab_sb + 1), ab_I (1), ab_I (0), ab_I ((-1)), ab_I ((-1)), ab_I ((-1))])).set 20 (ab_ai 0 35 (ab_fv (fun _ => 0) (0) 35))).set 21 (ab_al 24 (ab_fv (fun _ => 0) (Int64.ofInt 0) 24))).set 22 (ab_ai 0 24 (ab_fv (fun _ => 0) (1) 24))).set 23 (ab_ai 0 12 (ab_fv (fun _ => 0) (0) 12))).set 107 (ab_ob 11 [ab_R (108), ab_I (0), ab_I (0), ab_R (109), ab_R (110), ab_R (111), ab_R (112), ab_R (113), ab_I (0), ab_I (0), ab_I (0), ab_I (6), ab_I (0), ab_I (0), ab_I (0), ab_R (114), ab_I (0), ab_R (115), ab_I (0), ab_R (116), ab_R (117), ab_I (0), ab_R (118), ab_I (0), ab_R (119), ab_R (120), ab_R (121), ab_R (122), ab_R (123), ab_R (124), ab_R (125), ab_I (0), ab_I (0), ab_J (0), ab_R (126), ab_R (127), ab_R (128)])).set 110 (ab_ai 0 7 (ab_up (fun _ => 0) (6) (0)))).set 113 (ab_ai 0 150 (f)))) := by
  refine ab_Mt.of rfl (Nat.le_of_ble_eq_true rfl) ?_
  show ab_Ev g_G g_rs mt_Mo_isWord _ _ _ 0 [some (ab_R (107)), some (ab_J (Int64.ofInt (1734440037))), none, none, none, none] [] _ _
  refine ev_aload_n de_Mo_isWord_0 rfl rfl ?_
  refine ev_vv (ci := 11) de_Mo_isWord_1 (fx_192 f) kb_Mo_90 ⟨im_Mo_see, se_Mo_see⟩ rfl rfl rfl (Nat.le_of_ble_eq_true rfl) (by decide) rfl ?_
  refine ev_pop de_Mo_isWord_4 rfl ?_
  refine ev_lconsti (n := 0) de_Mo_isWord_5 (by decide) ?_
  refine ev_lstore_n (l' := [_, _, _, _, _, _]) de_Mo_isWord_6 rfl (Nat.le_of_ble_eq_true rfl) rfl ?_
  refine ev_iconst de_Mo_isWord_7 ?_
  refine ev_istore (l' := [_, _, _, _, _, _]) de_Mo_isWord_8 (Nat.le_of_ble_eq_true rfl) rfl ?_
  refine ev_aload_n de_Mo_isWord_10 rfl rfl ?_
  refine ev_aload_n de_Mo_isWord_11 rfl rfl ?_
  refine ev_getfield de_Mo_isWord_12 rfl fl_Mo_87 rfl ?_
  refine ev_iload de_Mo_isWord_15 rfl ?_
  refine ev_iadd de_Mo_isWord_17 ?_
  refine ev_top (b := ab_I (0)) rfl ?_
  refine ev_vv (ci := 11) de_Mo_isWord_18 (fx_195 f) kb_Mo_94 ⟨im_Mo_isLetter, se_Mo_isLetter⟩ rfl rfl rfl (Nat.le_of_ble_eq_true rfl) (by decide) rfl ?_
  refine ev_if_eq (tgt := 56) de_Mo_isWord_21 (by decide) (by decide) (fun _ => ?_) (fun h => absurd h (by decide))
  refine ev_iload de_Mo_isWord_56 rfl ?_
  refine ev_if_le (tgt := 78) de_Mo_isWord_58 (by decide) (by decide) (fun _ => ?_) (fun h => absurd h (by decide))
  refine ev_iconst de_Mo_isWord_78 ?_
  exact ev_zreturn de_Mo_isWord_79 rfl (by decide) ⟨rfl, rfl⟩
set_option maxHeartbeats 4000000 in
set_option maxRecDepth 20000 in
theorem fx_201 (f : Int → Int) : ab_Mt g_G g_rs mt_Mo_isWord 2 0 0 [ab_R (107), ab_J (Int64.ofInt (1918989413))] ((((((((fw_0.set 1 (ab_ob 8 [ab_R (2), ab_I (0), ab_I (0), ab_R (ab_sb + 1), ab_I (1), ab_I (0), ab_I ((-1)), ab_I ((-1)), ab_I ((-1))])).set 20 (ab_ai 0 35 (ab_fv (fun _ => 0) (0) 35))).set 21 (ab_al 24 (ab_fv (fun _ => 0) (Int64.ofInt 0) 24))).set 22 (ab_ai 0 24 (ab_fv (fun _ => 0) (1) 24))).set 23 (ab_ai 0 12 (ab_fv (fun _ => 0) (0) 12))).set 107 (ab_ob 11 [ab_R (108), ab_I (0), ab_I (0), ab_R (109), ab_R (110), ab_R (111), ab_R (112), ab_R (113), ab_I (0), ab_I (0), ab_I (0), ab_I (6), ab_I (0), ab_I (0), ab_I (0), ab_R (114), ab_I (0), ab_R (115), ab_I (0), ab_R (116), ab_R (117), ab_I (0), ab_R (118), ab_I (0), ab_R (119), ab_R (120), ab_R (121), ab_R (122), ab_R (123), ab_R (124), ab_R (125), ab_I (0), ab_I (0), ab_J (0), ab_R (126), ab_R (127), ab_R (128)])).set 110 (ab_ai 0 7 (ab_up (fun _ => 0) (6) (0)))).set 113 (ab_ai 0 150 (f))) (ab_is (some (ab_I (0))) ((((((((fw_0.set 1 (ab_ob 8 [ab_R (2), ab_I (0), ab_I (0), ab_R (ab_sb + 1), ab_I (1), ab_I (0), ab_I ((-1)), ab_I ((-1)), ab_I ((-1))])).set 20 (ab_ai 0 35 (ab_fv (fun _ => 0) (0) 35))).set 21 (ab_al 24 (ab_fv (fun _ => 0) (Int64.ofInt 0) 24))).set 22 (ab_ai 0 24 (ab_fv (fun _ => 0) (1) 24))).set 23 (ab_ai 0 12 (ab_fv (fun _ => 0) (0) 12))).set 107 (ab_ob 11 [ab_R (108), ab_I (0), ab_I (0), ab_R (109), ab_R (110), ab_R (111), ab_R (112), ab_R (113), ab_I (0), ab_I (0), ab_I (0), ab_I (6), ab_I (0), ab_I (0), ab_I (0), ab_R (114), ab_I (0), ab_R (115), ab_I (0), ab_R (116), ab_R (117), ab_I (0), ab_R (118), ab_I (0), ab_R (119), ab_R (120), ab_R (121), ab_R (122), ab_R (123), ab_R (124), ab_R (125), ab_I (0), ab_I (0), ab_J (0), ab_R (126), ab_R (127), ab_R (128)])).set 110 (ab_ai 0 7 (ab_up (fun _ => 0) (6) (0)))).set 113 (ab_ai 0 150 (f)))) := by
  refine ab_Mt.of rfl (Nat.le_of_ble_eq_true rfl) ?_
  show ab_Ev g_G g_rs mt_Mo_isWord _ _ _ 0 [some (ab_R (107)), some (ab_J (Int64.ofInt (1918989413))), none, none, none, none] [] _ _
  refine ev_aload_n de_Mo_isWord_0 rfl rfl ?_
  refine ev_vv (ci := 11) de_Mo_isWord_1 (fx_192 f) kb_Mo_90 ⟨im_Mo_see, se_Mo_see⟩ rfl rfl rfl (Nat.le_of_ble_eq_true rfl) (by decide) rfl ?_
  refine ev_pop de_Mo_isWord_4 rfl ?_
  refine ev_lconsti (n := 0) de_Mo_isWord_5 (by decide) ?_
  refine ev_lstore_n (l' := [_, _, _, _, _, _]) de_Mo_isWord_6 rfl (Nat.le_of_ble_eq_true rfl) rfl ?_
  refine ev_iconst de_Mo_isWord_7 ?_
  refine ev_istore (l' := [_, _, _, _, _, _]) de_Mo_isWord_8 (Nat.le_of_ble_eq_true rfl) rfl ?_
  refine ev_aload_n de_Mo_isWord_10 rfl rfl ?_
  refine ev_aload_n de_Mo_isWord_11 rfl rfl ?_
  refine ev_getfield de_Mo_isWord_12 rfl fl_Mo_87 rfl ?_
  refine ev_iload de_Mo_isWord_15 rfl ?_
  refine ev_iadd de_Mo_isWord_17 ?_
  refine ev_top (b := ab_I (0)) rfl ?_
  refine ev_vv (ci := 11) de_Mo_isWord_18 (fx_195 f) kb_Mo_94 ⟨im_Mo_isLetter, se_Mo_isLetter⟩ rfl rfl rfl (Nat.le_of_ble_eq_true rfl) (by decide) rfl ?_
  refine ev_if_eq (tgt := 56) de_Mo_isWord_21 (by decide) (by decide) (fun _ => ?_) (fun h => absurd h (by decide))
  refine ev_iload de_Mo_isWord_56 rfl ?_
  refine ev_if_le (tgt := 78) de_Mo_isWord_58 (by decide) (by decide) (fun _ => ?_) (fun h => absurd h (by decide))
  refine ev_iconst de_Mo_isWord_78 ?_
  exact ev_zreturn de_Mo_isWord_79 rfl (by decide) ⟨rfl, rfl⟩
theorem de_Mo_isRingWord_0 : decode prog_14_method_39_code 0 = .ok (.aload_n 0, 1) := by decide +kernel
theorem de_Mo_isRingWord_1 : decode prog_14_method_39_code 1 = .ok (.ldc2_w 219, 3) := by decide +kernel
theorem de_Mo_isRingWord_4 : decode prog_14_method_39_code 4 = .ok (.invokevirtual 98, 3) := by decide +kernel
theorem de_Mo_isRingWord_7 : decode prog_14_method_39_code 7 = .ok (.ifCond .ne 33, 3) := by decide +kernel
theorem de_Mo_isRingWord_10 : decode prog_14_method_39_code 10 = .ok (.aload_n 0, 1) := by decide +kernel
theorem de_Mo_isRingWord_11 : decode prog_14_method_39_code 11 = .ok (.ldc2_w 224, 3) := by decide +kernel
theorem de_Mo_isRingWord_14 : decode prog_14_method_39_code 14 = .ok (.invokevirtual 98, 3) := by decide +kernel
theorem de_Mo_isRingWord_17 : decode prog_14_method_39_code 17 = .ok (.ifCond .ne 23, 3) := by decide +kernel
theorem de_Mo_isRingWord_20 : decode prog_14_method_39_code 20 = .ok (.aload_n 0, 1) := by decide +kernel
theorem de_Mo_isRingWord_21 : decode prog_14_method_39_code 21 = .ok (.ldc2_w 229, 3) := by decide +kernel
theorem de_Mo_isRingWord_24 : decode prog_14_method_39_code 24 = .ok (.invokevirtual 98, 3) := by decide +kernel
theorem de_Mo_isRingWord_27 : decode prog_14_method_39_code 27 = .ok (.ifCond .ne 13, 3) := by decide +kernel
theorem de_Mo_isRingWord_30 : decode prog_14_method_39_code 30 = .ok (.aload_n 0, 1) := by decide +kernel
theorem de_Mo_isRingWord_31 : decode prog_14_method_39_code 31 = .ok (.ldc2_w 234, 3) := by decide +kernel
theorem de_Mo_isRingWord_34 : decode prog_14_method_39_code 34 = .ok (.invokevirtual 98, 3) := by decide +kernel
theorem de_Mo_isRingWord_37 : decode prog_14_method_39_code 37 = .ok (.ifCond .eq 7, 3) := by decide +kernel
theorem de_Mo_isRingWord_44 : decode prog_14_method_39_code 44 = .ok (.iconst 0, 1) := by decide +kernel
theorem de_Mo_isRingWord_45 : decode prog_14_method_39_code 45 = .ok (.istore_n 1, 1) := by decide +kernel
theorem de_Mo_isRingWord_46 : decode prog_14_method_39_code 46 = .ok (.iload_n 1, 1) := by decide +kernel
theorem de_Mo_isRingWord_47 : decode prog_14_method_39_code 47 = .ok (.ifCond .ne 33, 3) := by decide +kernel
theorem de_Mo_isRingWord_50 : decode prog_14_method_39_code 50 = .ok (.aload_n 0, 1) := by decide +kernel
theorem de_Mo_isRingWord_51 : decode prog_14_method_39_code 51 = .ok (.ldc2_w 239, 3) := by decide +kernel
theorem de_Mo_isRingWord_54 : decode prog_14_method_39_code 54 = .ok (.invokevirtual 98, 3) := by decide +kernel
theorem de_Mo_isRingWord_57 : decode prog_14_method_39_code 57 = .ok (.ifCond .ne 23, 3) := by decide +kernel
theorem de_Mo_isRingWord_60 : decode prog_14_method_39_code 60 = .ok (.aload_n 0, 1) := by decide +kernel
theorem de_Mo_isRingWord_61 : decode prog_14_method_39_code 61 = .ok (.ldc2_w 241, 3) := by decide +kernel
theorem de_Mo_isRingWord_64 : decode prog_14_method_39_code 64 = .ok (.invokevirtual 98, 3) := by decide +kernel
theorem de_Mo_isRingWord_67 : decode prog_14_method_39_code 67 = .ok (.ifCond .ne 13, 3) := by decide +kernel
theorem de_Mo_isRingWord_70 : decode prog_14_method_39_code 70 = .ok (.aload_n 0, 1) := by decide +kernel
theorem de_Mo_isRingWord_71 : decode prog_14_method_39_code 71 = .ok (.ldc2_w 125, 3) := by decide +kernel
theorem de_Mo_isRingWord_74 : decode prog_14_method_39_code 74 = .ok (.invokevirtual 98, 3) := by decide +kernel
theorem de_Mo_isRingWord_77 : decode prog_14_method_39_code 77 = .ok (.ifCond .eq 7, 3) := by decide +kernel
theorem de_Mo_isRingWord_84 : decode prog_14_method_39_code 84 = .ok (.iconst 0, 1) := by decide +kernel
theorem de_Mo_isRingWord_85 : decode prog_14_method_39_code 85 = .ok (.ireturn, 1) := by decide +kernel
set_option maxHeartbeats 4000000 in
set_option maxRecDepth 20000 in
theorem fx_193 (f : Int → Int) : ab_Mt g_G g_rs mt_Mo_isRingWord 3 0 0 [ab_R (107)] ((((((((fw_0.set 1 (ab_ob 8 [ab_R (2), ab_I (0), ab_I (0), ab_R (ab_sb + 1), ab_I (1), ab_I (0), ab_I ((-1)), ab_I ((-1)), ab_I ((-1))])).set 20 (ab_ai 0 35 (ab_fv (fun _ => 0) (0) 35))).set 21 (ab_al 24 (ab_fv (fun _ => 0) (Int64.ofInt 0) 24))).set 22 (ab_ai 0 24 (ab_fv (fun _ => 0) (1) 24))).set 23 (ab_ai 0 12 (ab_fv (fun _ => 0) (0) 12))).set 107 (ab_ob 11 [ab_R (108), ab_I (0), ab_I (0), ab_R (109), ab_R (110), ab_R (111), ab_R (112), ab_R (113), ab_I (0), ab_I (0), ab_I (0), ab_I (6), ab_I (0), ab_I (0), ab_I (0), ab_R (114), ab_I (0), ab_R (115), ab_I (0), ab_R (116), ab_R (117), ab_I (0), ab_R (118), ab_I (0), ab_R (119), ab_R (120), ab_R (121), ab_R (122), ab_R (123), ab_R (124), ab_R (125), ab_I (0), ab_I (0), ab_J (0), ab_R (126), ab_R (127), ab_R (128)])).set 110 (ab_ai 0 7 (ab_up (fun _ => 0) (6) (0)))).set 113 (ab_ai 0 150 (f))) (ab_is (some (ab_I (0))) ((((((((fw_0.set 1 (ab_ob 8 [ab_R (2), ab_I (0), ab_I (0), ab_R (ab_sb + 1), ab_I (1), ab_I (0), ab_I ((-1)), ab_I ((-1)), ab_I ((-1))])).set 20 (ab_ai 0 35 (ab_fv (fun _ => 0) (0) 35))).set 21 (ab_al 24 (ab_fv (fun _ => 0) (Int64.ofInt 0) 24))).set 22 (ab_ai 0 24 (ab_fv (fun _ => 0) (1) 24))).set 23 (ab_ai 0 12 (ab_fv (fun _ => 0) (0) 12))).set 107 (ab_ob 11 [ab_R (108), ab_I (0), ab_I (0), ab_R (109), ab_R (110), ab_R (111), ab_R (112), ab_R (113), ab_I (0), ab_I (0), ab_I (0), ab_I (6), ab_I (0), ab_I (0), ab_I (0), ab_R (114), ab_I (0), ab_R (115), ab_I (0), ab_R (116), ab_R (117), ab_I (0), ab_R (118), ab_I (0), ab_R (119), ab_R (120), ab_R (121), ab_R (122), ab_R (123), ab_R (124), ab_R (125), ab_I (0), ab_I (0), ab_J (0), ab_R (126), ab_R (127), ab_R (128)])).set 110 (ab_ai 0 7 (ab_up (fun _ => 0) (6) (0)))).set 113 (ab_ai 0 150 (f)))) := by
  refine ab_Mt.of rfl (Nat.le_of_ble_eq_true rfl) ?_
  show ab_Ev g_G g_rs mt_Mo_isRingWord _ _ _ 0 [some (ab_R (107)), none] [] _ _
  refine ev_aload_n de_Mo_isRingWord_0 rfl rfl ?_
  refine ev_ldc2i (n := 1919512167) de_Mo_isRingWord_1 cn_Mo_219 (by decide) ?_
  refine ev_vv (ci := 11) de_Mo_isRingWord_4 (fx_194 f) kb_Mo_98 ⟨im_Mo_isWord, se_Mo_isWord⟩ rfl rfl rfl (Nat.le_of_ble_eq_true rfl) (by decide) rfl ?_
  refine ev_if_ne (tgt := 40) de_Mo_isRingWord_7 (by decide) (by decide) (fun h => absurd h (by decide)) (fun _ => ?_)
  refine ev_aload_n de_Mo_isRingWord_10 rfl rfl ?_
  refine ev_ldc2i (n := 448546567013) de_Mo_isRingWord_11 cn_Mo_224 (by decide) ?_
  refine ev_vv (ci := 11) de_Mo_isRingWord_14 (fx_196 f) kb_Mo_98 ⟨im_Mo_isWord, se_Mo_isWord⟩ rfl rfl rfl (Nat.le_of_ble_eq_true rfl) (by decide) rfl ?_
  refine ev_if_ne (tgt := 40) de_Mo_isRingWord_17 (by decide) (by decide) (fun h => absurd h (by decide)) (fun _ => ?_)
  refine ev_aload_n de_Mo_isRingWord_20 rfl rfl ?_
  refine ev_ldc2i (n := 495689623668) de_Mo_isRingWord_21 cn_Mo_229 (by decide) ?_
  refine ev_vv (ci := 11) de_Mo_isRingWord_24 (fx_197 f) kb_Mo_98 ⟨im_Mo_isWord, se_Mo_isWord⟩ rfl rfl rfl (Nat.le_of_ble_eq_true rfl) (by decide) rfl ?_
  refine ev_if_ne (tgt := 40) de_Mo_isRingWord_27 (by decide) (by decide) (fun h => absurd h (by decide)) (fun _ => ?_)
  refine ev_aload_n de_Mo_isRingWord_30 rfl rfl ?_
  refine ev_ldc2i (n := 465625113971) de_Mo_isRingWord_31 cn_Mo_234 (by decide) ?_
  refine ev_vv (ci := 11) de_Mo_isRingWord_34 (fx_198 f) kb_Mo_98 ⟨im_Mo_isWord, se_Mo_isWord⟩ rfl rfl rfl (Nat.le_of_ble_eq_true rfl) (by decide) rfl ?_
  refine ev_if_eq (tgt := 44) de_Mo_isRingWord_37 (by decide) (by decide) (fun _ => ?_) (fun h => absurd h (by decide))
  refine ev_iconst de_Mo_isRingWord_44 ?_
  refine ev_istore_n (l' := [_, _]) de_Mo_isRingWord_45 rfl (Nat.le_of_ble_eq_true rfl) rfl ?_
  refine ev_iload_n de_Mo_isRingWord_46 rfl rfl ?_
  refine ev_if_ne (tgt := 80) de_Mo_isRingWord_47 (by decide) (by decide) (fun h => absurd h (by decide)) (fun _ => ?_)
  refine ev_aload_n de_Mo_isRingWord_50 rfl rfl ?_
  refine ev_ldc2i (n := 30521761840260467) de_Mo_isRingWord_51 cn_Mo_239 (by decide) ?_
  refine ev_vv (ci := 11) de_Mo_isRingWord_54 (fx_199 f) kb_Mo_98 ⟨im_Mo_isWord, se_Mo_isWord⟩ rfl rfl rfl (Nat.le_of_ble_eq_true rfl) (by decide) rfl ?_
  refine ev_if_ne (tgt := 80) de_Mo_isRingWord_57 (by decide) (by decide) (fun h => absurd h (by decide)) (fun _ => ?_)
  refine ev_aload_n de_Mo_isRingWord_60 rfl rfl ?_
  refine ev_ldc2i (n := 1734440037) de_Mo_isRingWord_61 cn_Mo_241 (by decide) ?_
  refine ev_vv (ci := 11) de_Mo_isRingWord_64 (fx_200 f) kb_Mo_98 ⟨im_Mo_isWord, se_Mo_isWord⟩ rfl rfl rfl (Nat.le_of_ble_eq_true rfl) (by decide) rfl ?_
  refine ev_if_ne (tgt := 80) de_Mo_isRingWord_67 (by decide) (by decide) (fun h => absurd h (by decide)) (fun _ => ?_)
  refine ev_aload_n de_Mo_isRingWord_70 rfl rfl ?_
  refine ev_ldc2i (n := 1918989413) de_Mo_isRingWord_71 cn_Mo_125 (by decide) ?_
  refine ev_vv (ci := 11) de_Mo_isRingWord_74 (fx_201 f) kb_Mo_98 ⟨im_Mo_isWord, se_Mo_isWord⟩ rfl rfl rfl (Nat.le_of_ble_eq_true rfl) (by decide) rfl ?_
  refine ev_if_eq (tgt := 84) de_Mo_isRingWord_77 (by decide) (by decide) (fun _ => ?_) (fun h => absurd h (by decide))
  refine ev_iconst de_Mo_isRingWord_84 ?_
  exact ev_zreturn de_Mo_isRingWord_85 rfl (by decide) ⟨rfl, rfl⟩
set_option maxHeartbeats 4000000 in
set_option maxRecDepth 20000 in
theorem fx_202 (f : Int → Int) : ab_Mt g_G g_rs mt_Mo_fails 1 0 0 [ab_R (107), ab_I (0), ab_I (0)] ((((((((fw_0.set 1 (ab_ob 8 [ab_R (2), ab_I (0), ab_I (0), ab_R (ab_sb + 1), ab_I (1), ab_I (0), ab_I ((-1)), ab_I ((-1)), ab_I ((-1))])).set 20 (ab_ai 0 35 (ab_fv (fun _ => 0) (0) 35))).set 21 (ab_al 24 (ab_fv (fun _ => 0) (Int64.ofInt 0) 24))).set 22 (ab_ai 0 24 (ab_fv (fun _ => 0) (1) 24))).set 23 (ab_ai 0 12 (ab_fv (fun _ => 0) (0) 12))).set 107 (ab_ob 11 [ab_R (108), ab_I (0), ab_I (0), ab_R (109), ab_R (110), ab_R (111), ab_R (112), ab_R (113), ab_I (0), ab_I (0), ab_I (0), ab_I (6), ab_I (0), ab_I (0), ab_I (0), ab_R (114), ab_I (0), ab_R (115), ab_I (0), ab_R (116), ab_R (117), ab_I (0), ab_R (118), ab_I (0), ab_R (119), ab_R (120), ab_R (121), ab_R (122), ab_R (123), ab_R (124), ab_R (125), ab_I (0), ab_I (0), ab_J (0), ab_R (126), ab_R (127), ab_R (128)])).set 110 (ab_ai 0 7 (ab_up (fun _ => 0) (6) (0)))).set 113 (ab_ai 0 150 (f))) (ab_is (some (ab_I (0))) ((((((((fw_0.set 1 (ab_ob 8 [ab_R (2), ab_I (0), ab_I (0), ab_R (ab_sb + 1), ab_I (1), ab_I (0), ab_I ((-1)), ab_I ((-1)), ab_I ((-1))])).set 20 (ab_ai 0 35 (ab_fv (fun _ => 0) (0) 35))).set 21 (ab_al 24 (ab_fv (fun _ => 0) (Int64.ofInt 0) 24))).set 22 (ab_ai 0 24 (ab_fv (fun _ => 0) (1) 24))).set 23 (ab_ai 0 12 (ab_fv (fun _ => 0) (0) 12))).set 107 (ab_ob 11 [ab_R (108), ab_I (0), ab_I (0), ab_R (109), ab_R (110), ab_R (111), ab_R (112), ab_R (113), ab_I (0), ab_I (1), ab_I (0), ab_I (6), ab_I (0), ab_I (0), ab_I (0), ab_R (114), ab_I (0), ab_R (115), ab_I (0), ab_R (116), ab_R (117), ab_I (0), ab_R (118), ab_I (0), ab_R (119), ab_R (120), ab_R (121), ab_R (122), ab_R (123), ab_R (124), ab_R (125), ab_I (0), ab_I (0), ab_J (0), ab_R (126), ab_R (127), ab_R (128)])).set 110 (ab_ai 0 7 (ab_up (fun _ => 0) (6) (0)))).set 113 (ab_ai 0 150 (f)))) := by
  refine ab_Mt.of rfl (Nat.le_of_ble_eq_true rfl) ?_
  show ab_Ev g_G g_rs mt_Mo_fails _ _ _ 0 [some (ab_R (107)), some (ab_I (0)), some (ab_I (0))] [] _ _
  refine ev_aload_n de_Mo_fails_0 rfl rfl ?_
  refine ev_getfield de_Mo_fails_1 rfl fl_Mo_84 rfl ?_
  refine ev_if_ne (tgt := 19) de_Mo_fails_4 (by decide) (by decide) (fun h => absurd h (by decide)) (fun _ => ?_)
  refine ev_aload_n de_Mo_fails_7 rfl rfl ?_
  refine ev_iconst de_Mo_fails_8 ?_
  refine ev_bipush de_Mo_fails_9 rfl ?_
  refine ev_iload_n de_Mo_fails_11 rfl rfl ?_
  refine ev_imul de_Mo_fails_12 ?_
  refine ev_top (b := ab_I (0)) rfl ?_
  refine ev_iadd de_Mo_fails_13 ?_
  refine ev_top (b := ab_I (1)) rfl ?_
  refine ev_iload_n de_Mo_fails_14 rfl rfl ?_
  refine ev_iadd de_Mo_fails_15 ?_
  refine ev_top (b := ab_I (1)) rfl ?_
  refine ev_putfield de_Mo_fails_16 rfl (fp_Mo_84 _) (Nat.le_of_ble_eq_true rfl) trivial ?_
  refine ev_world (w' := ((((((((fw_0.set 1 (ab_ob 8 [ab_R (2), ab_I (0), ab_I (0), ab_R (ab_sb + 1), ab_I (1), ab_I (0), ab_I ((-1)), ab_I ((-1)), ab_I ((-1))])).set 20 (ab_ai 0 35 (ab_fv (fun _ => 0) (0) 35))).set 21 (ab_al 24 (ab_fv (fun _ => 0) (Int64.ofInt 0) 24))).set 22 (ab_ai 0 24 (ab_fv (fun _ => 0) (1) 24))).set 23 (ab_ai 0 12 (ab_fv (fun _ => 0) (0) 12))).set 107 (ab_ob 11 [ab_R (108), ab_I (0), ab_I (0), ab_R (109), ab_R (110), ab_R (111), ab_R (112), ab_R (113), ab_I (0), ab_I (1), ab_I (0), ab_I (6), ab_I (0), ab_I (0), ab_I (0), ab_R (114), ab_I (0), ab_R (115), ab_I (0), ab_R (116), ab_R (117), ab_I (0), ab_R (118), ab_I (0), ab_R (119), ab_R (120), ab_R (121), ab_R (122), ab_R (123), ab_R (124), ab_R (125), ab_I (0), ab_I (0), ab_J (0), ab_R (126), ab_R (127), ab_R (128)])).set 110 (ab_ai 0 7 (ab_up (fun _ => 0) (6) (0)))).set 113 (ab_ai 0 150 (f)))) rfl ?_
  refine ev_iconst de_Mo_fails_19 ?_
  exact ev_zreturn de_Mo_fails_20 rfl (by decide) ⟨rfl, rfl⟩
theorem de_Mo_clauseHere_19 : decode prog_14_method_40_code 19 = .ok (.iconst 1, 1) := by decide +kernel
theorem de_Mo_clauseHere_20 : decode prog_14_method_40_code 20 = .ok (.goto 4, 3) := by decide +kernel
theorem de_Mo_clauseHere_29 : decode prog_14_method_40_code 29 = .ok (.aload_n 0, 1) := by decide +kernel
theorem de_Mo_clauseHere_30 : decode prog_14_method_40_code 30 = .ok (.invokevirtual 249, 3) := by decide +kernel
theorem de_Mo_clauseHere_33 : decode prog_14_method_40_code 33 = .ok (.ifCond .ne 23, 3) := by decide +kernel
theorem de_Mo_clauseHere_36 : decode prog_14_method_40_code 36 = .ok (.goto 13, 3) := by decide +kernel
set_option maxHeartbeats 4000000 in
set_option maxRecDepth 20000 in
theorem fx_191 (f : Int → Int) : ab_Mt g_G g_rs mt_Mo_clauseHere 4 0 0 [ab_R (107)] ((((((((fw_0.set 1 (ab_ob 8 [ab_R (2), ab_I (0), ab_I (0), ab_R (ab_sb + 1), ab_I (1), ab_I (0), ab_I ((-1)), ab_I ((-1)), ab_I ((-1))])).set 20 (ab_ai 0 35 (ab_fv (fun _ => 0) (0) 35))).set 21 (ab_al 24 (ab_fv (fun _ => 0) (Int64.ofInt 0) 24))).set 22 (ab_ai 0 24 (ab_fv (fun _ => 0) (1) 24))).set 23 (ab_ai 0 12 (ab_fv (fun _ => 0) (0) 12))).set 107 (ab_ob 11 [ab_R (108), ab_I (0), ab_I (0), ab_R (109), ab_R (110), ab_R (111), ab_R (112), ab_R (113), ab_I (0), ab_I (0), ab_I (0), ab_I (6), ab_I (0), ab_I (0), ab_I (0), ab_R (114), ab_I (0), ab_R (115), ab_I (0), ab_R (116), ab_R (117), ab_I (0), ab_R (118), ab_I (0), ab_R (119), ab_R (120), ab_R (121), ab_R (122), ab_R (123), ab_R (124), ab_R (125), ab_I (0), ab_I (0), ab_J (0), ab_R (126), ab_R (127), ab_R (128)])).set 110 (ab_ai 0 7 (ab_up (fun _ => 0) (6) (0)))).set 113 (ab_ai 0 150 (f))) (ab_is (some (ab_I (0))) ((((((((fw_0.set 1 (ab_ob 8 [ab_R (2), ab_I (0), ab_I (0), ab_R (ab_sb + 1), ab_I (1), ab_I (0), ab_I ((-1)), ab_I ((-1)), ab_I ((-1))])).set 20 (ab_ai 0 35 (ab_fv (fun _ => 0) (0) 35))).set 21 (ab_al 24 (ab_fv (fun _ => 0) (Int64.ofInt 0) 24))).set 22 (ab_ai 0 24 (ab_fv (fun _ => 0) (1) 24))).set 23 (ab_ai 0 12 (ab_fv (fun _ => 0) (0) 12))).set 107 (ab_ob 11 [ab_R (108), ab_I (0), ab_I (0), ab_R (109), ab_R (110), ab_R (111), ab_R (112), ab_R (113), ab_I (0), ab_I (1), ab_I (0), ab_I (6), ab_I (0), ab_I (0), ab_I (0), ab_R (114), ab_I (0), ab_R (115), ab_I (0), ab_R (116), ab_R (117), ab_I (0), ab_R (118), ab_I (0), ab_R (119), ab_R (120), ab_R (121), ab_R (122), ab_R (123), ab_R (124), ab_R (125), ab_I (0), ab_I (0), ab_J (0), ab_R (126), ab_R (127), ab_R (128)])).set 110 (ab_ai 0 7 (ab_up (fun _ => 0) (6) (0)))).set 113 (ab_ai 0 150 (f)))) := by
  refine ab_Mt.of rfl (Nat.le_of_ble_eq_true rfl) ?_
  show ab_Ev g_G g_rs mt_Mo_clauseHere _ _ _ 0 [some (ab_R (107)), none, none] [] _ _
  refine ev_aload_n de_Mo_clauseHere_0 rfl rfl ?_
  refine ev_vv (ci := 11) de_Mo_clauseHere_1 (fx_192 f) kb_Mo_90 ⟨im_Mo_see, se_Mo_see⟩ rfl rfl rfl (Nat.le_of_ble_eq_true rfl) (by decide) rfl ?_
  refine ev_pop de_Mo_clauseHere_4 rfl ?_
  refine ev_aload_n de_Mo_clauseHere_5 rfl rfl ?_
  refine ev_getfield de_Mo_clauseHere_6 rfl fl_Mo_87 rfl ?_
  refine ev_istore_n (l' := [_, _, _]) de_Mo_clauseHere_9 rfl (Nat.le_of_ble_eq_true rfl) rfl ?_
  refine ev_aload_n de_Mo_clauseHere_10 rfl rfl ?_
  refine ev_getfield de_Mo_clauseHere_11 rfl fl_Mo_143 rfl ?_
  refine ev_bipush de_Mo_clauseHere_14 rfl ?_
  refine ev_icmp_ne (tgt := 23) de_Mo_clauseHere_16 (by decide) (by decide) (by decide) (fun h => absurd h (by decide)) (fun _ => ?_)
  refine ev_iconst de_Mo_clauseHere_19 ?_
  refine ev_goto (tgt := 24) de_Mo_clauseHere_20 (by decide) ?_
  refine ev_istore_n (l' := [_, _, _]) de_Mo_clauseHere_24 rfl (Nat.le_of_ble_eq_true rfl) rfl ?_
  refine ev_iload_n de_Mo_clauseHere_25 rfl rfl ?_
  refine ev_if_eq (tgt := 39) de_Mo_clauseHere_26 (by decide) (by decide) (fun h => absurd h (by decide)) (fun _ => ?_)
  refine ev_aload_n de_Mo_clauseHere_29 rfl rfl ?_
  refine ev_vv (ci := 11) de_Mo_clauseHere_30 (fx_193 f) kb_Mo_249 ⟨im_Mo_isRingWord, se_Mo_isRingWord⟩ rfl rfl rfl (Nat.le_of_ble_eq_true rfl) (by decide) rfl ?_
  refine ev_if_ne (tgt := 56) de_Mo_clauseHere_33 (by decide) (by decide) (fun h => absurd h (by decide)) (fun _ => ?_)
  refine ev_goto (tgt := 49) de_Mo_clauseHere_36 (by decide) ?_
  refine ev_aload_n de_Mo_clauseHere_49 rfl rfl ?_
  refine ev_iconst de_Mo_clauseHere_50 ?_
  refine ev_iload_n de_Mo_clauseHere_51 rfl rfl ?_
  refine ev_vv (ci := 11) de_Mo_clauseHere_52 (fx_202 f) kb_Mo_108 ⟨im_Mo_fails, se_Mo_fails⟩ rfl rfl rfl (Nat.le_of_ble_eq_true rfl) (by decide) rfl ?_
  exact ev_zreturn de_Mo_clauseHere_55 rfl (by decide) ⟨rfl, rfl⟩
set_option maxHeartbeats 4000000 in
set_option maxRecDepth 20000 in
theorem fx_190 (f : Int → Int) : ab_Mt g_G g_rs mt_Mo_readsAll 5 0 0 [ab_R (107)] (((((((fw_0.set 1 (ab_ob 8 [ab_R (2), ab_I (0), ab_I (0), ab_R (ab_sb + 1), ab_I (1), ab_I (0), ab_I ((-1)), ab_I ((-1)), ab_I ((-1))])).set 20 (ab_ai 0 35 (ab_fv (fun _ => 0) (0) 35))).set 21 (ab_al 24 (ab_fv (fun _ => 0) (Int64.ofInt 0) 24))).set 22 (ab_ai 0 24 (ab_fv (fun _ => 0) (1) 24))).set 23 (ab_ai 0 12 (ab_fv (fun _ => 0) (0) 12))).set 107 (ab_ob 11 [ab_R (108), ab_I (0), ab_I (0), ab_R (109), ab_R (110), ab_R (111), ab_R (112), ab_R (113), ab_I (0), ab_I (0), ab_I (0), ab_I (6), ab_I (0), ab_I (0), ab_I (0), ab_R (114), ab_I (0), ab_R (115), ab_I (0), ab_R (116), ab_R (117), ab_I (0), ab_R (118), ab_I (0), ab_R (119), ab_R (120), ab_R (121), ab_R (122), ab_R (123), ab_R (124), ab_R (125), ab_I (0), ab_I (0), ab_J (0), ab_R (126), ab_R (127), ab_R (128)])).set 113 (ab_ai 0 150 (f))) (ab_is (some (ab_I (0))) ((((((((fw_0.set 1 (ab_ob 8 [ab_R (2), ab_I (0), ab_I (0), ab_R (ab_sb + 1), ab_I (1), ab_I (0), ab_I ((-1)), ab_I ((-1)), ab_I ((-1))])).set 20 (ab_ai 0 35 (ab_fv (fun _ => 0) (0) 35))).set 21 (ab_al 24 (ab_fv (fun _ => 0) (Int64.ofInt 0) 24))).set 22 (ab_ai 0 24 (ab_fv (fun _ => 0) (1) 24))).set 23 (ab_ai 0 12 (ab_fv (fun _ => 0) (0) 12))).set 107 (ab_ob 11 [ab_R (108), ab_I (0), ab_I (0), ab_R (109), ab_R (110), ab_R (111), ab_R (112), ab_R (113), ab_I (0), ab_I (1), ab_I (0), ab_I (6), ab_I (0), ab_I (0), ab_I (0), ab_R (114), ab_I (0), ab_R (115), ab_I (0), ab_R (116), ab_R (117), ab_I (0), ab_R (118), ab_I (0), ab_R (119), ab_R (120), ab_R (121), ab_R (122), ab_R (123), ab_R (124), ab_R (125), ab_I (0), ab_I (0), ab_J (0), ab_R (126), ab_R (127), ab_R (128)])).set 110 (ab_ai 0 7 (ab_up (fun _ => 0) (6) (0)))).set 113 (ab_ai 0 150 (f)))) := by
  refine ab_Mt.of rfl (Nat.le_of_ble_eq_true rfl) ?_
  show ab_Ev g_G g_rs mt_Mo_readsAll _ _ _ 0 [some (ab_R (107)), none] [] _ _
  refine ev_aload_n de_Mo_readsAll_0 rfl rfl ?_
  refine ev_getfield de_Mo_readsAll_1 rfl fl_Mo_17 rfl ?_
  refine ev_aload_n de_Mo_readsAll_4 rfl rfl ?_
  refine ev_getfield de_Mo_readsAll_5 rfl fl_Mo_143 rfl ?_
  refine ev_iconst de_Mo_readsAll_8 ?_
  refine ev_iastore de_Mo_readsAll_9 rfl (by decide) (by decide) (by decide) ?_
  refine ev_world (w' := ((((((((fw_0.set 1 (ab_ob 8 [ab_R (2), ab_I (0), ab_I (0), ab_R (ab_sb + 1), ab_I (1), ab_I (0), ab_I ((-1)), ab_I ((-1)), ab_I ((-1))])).set 20 (ab_ai 0 35 (ab_fv (fun _ => 0) (0) 35))).set 21 (ab_al 24 (ab_fv (fun _ => 0) (Int64.ofInt 0) 24))).set 22 (ab_ai 0 24 (ab_fv (fun _ => 0) (1) 24))).set 23 (ab_ai 0 12 (ab_fv (fun _ => 0) (0) 12))).set 107 (ab_ob 11 [ab_R (108), ab_I (0), ab_I (0), ab_R (109), ab_R (110), ab_R (111), ab_R (112), ab_R (113), ab_I (0), ab_I (0), ab_I (0), ab_I (6), ab_I (0), ab_I (0), ab_I (0), ab_R (114), ab_I (0), ab_R (115), ab_I (0), ab_R (116), ab_R (117), ab_I (0), ab_R (118), ab_I (0), ab_R (119), ab_R (120), ab_R (121), ab_R (122), ab_R (123), ab_R (124), ab_R (125), ab_I (0), ab_I (0), ab_J (0), ab_R (126), ab_R (127), ab_R (128)])).set 110 (ab_ai 0 7 (ab_up (fun _ => 0) (6) (0)))).set 113 (ab_ai 0 150 (f)))) rfl ?_
  refine ev_aload_n de_Mo_readsAll_10 rfl rfl ?_
  refine ev_iconst de_Mo_readsAll_11 ?_
  refine ev_putfield de_Mo_readsAll_12 rfl (fp_Mo_254 _) (Nat.le_of_ble_eq_true rfl) trivial ?_
  refine ev_world (w' := ((((((((fw_0.set 1 (ab_ob 8 [ab_R (2), ab_I (0), ab_I (0), ab_R (ab_sb + 1), ab_I (1), ab_I (0), ab_I ((-1)), ab_I ((-1)), ab_I ((-1))])).set 20 (ab_ai 0 35 (ab_fv (fun _ => 0) (0) 35))).set 21 (ab_al 24 (ab_fv (fun _ => 0) (Int64.ofInt 0) 24))).set 22 (ab_ai 0 24 (ab_fv (fun _ => 0) (1) 24))).set 23 (ab_ai 0 12 (ab_fv (fun _ => 0) (0) 12))).set 107 (ab_ob 11 [ab_R (108), ab_I (0), ab_I (0), ab_R (109), ab_R (110), ab_R (111), ab_R (112), ab_R (113), ab_I (0), ab_I (0), ab_I (0), ab_I (6), ab_I (0), ab_I (0), ab_I (0), ab_R (114), ab_I (0), ab_R (115), ab_I (0), ab_R (116), ab_R (117), ab_I (0), ab_R (118), ab_I (0), ab_R (119), ab_R (120), ab_R (121), ab_R (122), ab_R (123), ab_R (124), ab_R (125), ab_I (0), ab_I (0), ab_J (0), ab_R (126), ab_R (127), ab_R (128)])).set 110 (ab_ai 0 7 (ab_up (fun _ => 0) (6) (0)))).set 113 (ab_ai 0 150 (f)))) rfl ?_
  refine ev_aload_n de_Mo_readsAll_15 rfl rfl ?_
  refine ev_iconst de_Mo_readsAll_16 ?_
  refine ev_putfield de_Mo_readsAll_17 rfl (fp_Mo_87 _) (Nat.le_of_ble_eq_true rfl) trivial ?_
  refine ev_world (w' := ((((((((fw_0.set 1 (ab_ob 8 [ab_R (2), ab_I (0), ab_I (0), ab_R (ab_sb + 1), ab_I (1), ab_I (0), ab_I ((-1)), ab_I ((-1)), ab_I ((-1))])).set 20 (ab_ai 0 35 (ab_fv (fun _ => 0) (0) 35))).set 21 (ab_al 24 (ab_fv (fun _ => 0) (Int64.ofInt 0) 24))).set 22 (ab_ai 0 24 (ab_fv (fun _ => 0) (1) 24))).set 23 (ab_ai 0 12 (ab_fv (fun _ => 0) (0) 12))).set 107 (ab_ob 11 [ab_R (108), ab_I (0), ab_I (0), ab_R (109), ab_R (110), ab_R (111), ab_R (112), ab_R (113), ab_I (0), ab_I (0), ab_I (0), ab_I (6), ab_I (0), ab_I (0), ab_I (0), ab_R (114), ab_I (0), ab_R (115), ab_I (0), ab_R (116), ab_R (117), ab_I (0), ab_R (118), ab_I (0), ab_R (119), ab_R (120), ab_R (121), ab_R (122), ab_R (123), ab_R (124), ab_R (125), ab_I (0), ab_I (0), ab_J (0), ab_R (126), ab_R (127), ab_R (128)])).set 110 (ab_ai 0 7 (ab_up (fun _ => 0) (6) (0)))).set 113 (ab_ai 0 150 (f)))) rfl ?_
  refine ev_aload_n de_Mo_readsAll_20 rfl rfl ?_
  refine ev_iconst de_Mo_readsAll_21 ?_
  refine ev_putfield de_Mo_readsAll_22 rfl (fp_Mo_84 _) (Nat.le_of_ble_eq_true rfl) trivial ?_
  refine ev_world (w' := ((((((((fw_0.set 1 (ab_ob 8 [ab_R (2), ab_I (0), ab_I (0), ab_R (ab_sb + 1), ab_I (1), ab_I (0), ab_I ((-1)), ab_I ((-1)), ab_I ((-1))])).set 20 (ab_ai 0 35 (ab_fv (fun _ => 0) (0) 35))).set 21 (ab_al 24 (ab_fv (fun _ => 0) (Int64.ofInt 0) 24))).set 22 (ab_ai 0 24 (ab_fv (fun _ => 0) (1) 24))).set 23 (ab_ai 0 12 (ab_fv (fun _ => 0) (0) 12))).set 107 (ab_ob 11 [ab_R (108), ab_I (0), ab_I (0), ab_R (109), ab_R (110), ab_R (111), ab_R (112), ab_R (113), ab_I (0), ab_I (0), ab_I (0), ab_I (6), ab_I (0), ab_I (0), ab_I (0), ab_R (114), ab_I (0), ab_R (115), ab_I (0), ab_R (116), ab_R (117), ab_I (0), ab_R (118), ab_I (0), ab_R (119), ab_R (120), ab_R (121), ab_R (122), ab_R (123), ab_R (124), ab_R (125), ab_I (0), ab_I (0), ab_J (0), ab_R (126), ab_R (127), ab_R (128)])).set 110 (ab_ai 0 7 (ab_up (fun _ => 0) (6) (0)))).set 113 (ab_ai 0 150 (f)))) rfl ?_
  refine ev_aload_n de_Mo_readsAll_25 rfl rfl ?_
  refine ev_iconst de_Mo_readsAll_26 ?_
  refine ev_putfield de_Mo_readsAll_27 rfl (fp_Mo_146 _) (Nat.le_of_ble_eq_true rfl) trivial ?_
  refine ev_world (w' := ((((((((fw_0.set 1 (ab_ob 8 [ab_R (2), ab_I (0), ab_I (0), ab_R (ab_sb + 1), ab_I (1), ab_I (0), ab_I ((-1)), ab_I ((-1)), ab_I ((-1))])).set 20 (ab_ai 0 35 (ab_fv (fun _ => 0) (0) 35))).set 21 (ab_al 24 (ab_fv (fun _ => 0) (Int64.ofInt 0) 24))).set 22 (ab_ai 0 24 (ab_fv (fun _ => 0) (1) 24))).set 23 (ab_ai 0 12 (ab_fv (fun _ => 0) (0) 12))).set 107 (ab_ob 11 [ab_R (108), ab_I (0), ab_I (0), ab_R (109), ab_R (110), ab_R (111), ab_R (112), ab_R (113), ab_I (0), ab_I (0), ab_I (0), ab_I (6), ab_I (0), ab_I (0), ab_I (0), ab_R (114), ab_I (0), ab_R (115), ab_I (0), ab_R (116), ab_R (117), ab_I (0), ab_R (118), ab_I (0), ab_R (119), ab_R (120), ab_R (121), ab_R (122), ab_R (123), ab_R (124), ab_R (125), ab_I (0), ab_I (0), ab_J (0), ab_R (126), ab_R (127), ab_R (128)])).set 110 (ab_ai 0 7 (ab_up (fun _ => 0) (6) (0)))).set 113 (ab_ai 0 150 (f)))) rfl ?_
  refine ev_aload_n de_Mo_readsAll_30 rfl rfl ?_
  refine ev_vv (ci := 11) de_Mo_readsAll_31 (fx_191 f) kb_Mo_263 ⟨im_Mo_clauseHere, se_Mo_clauseHere⟩ rfl rfl rfl (Nat.le_of_ble_eq_true rfl) (by decide) rfl ?_
  refine ev_istore_n (l' := [_, _]) de_Mo_readsAll_34 rfl (Nat.le_of_ble_eq_true rfl) rfl ?_
  refine ev_iload_n de_Mo_readsAll_35 rfl rfl ?_
  refine ev_if_eq (tgt := 66) de_Mo_readsAll_36 (by decide) (by decide) (fun _ => ?_) (fun h => absurd h (by decide))
  refine ev_iload_n de_Mo_readsAll_66 rfl rfl ?_
  refine ev_if_eq (tgt := 88) de_Mo_readsAll_67 (by decide) (by decide) (fun _ => ?_) (fun h => absurd h (by decide))
  refine ev_aload_n de_Mo_readsAll_88 rfl rfl ?_
  refine ev_iconst de_Mo_readsAll_89 ?_
  refine ev_putfield de_Mo_readsAll_90 rfl (fp_Mo_76 _) (Nat.le_of_ble_eq_true rfl) trivial ?_
  refine ev_world (w' := ((((((((fw_0.set 1 (ab_ob 8 [ab_R (2), ab_I (0), ab_I (0), ab_R (ab_sb + 1), ab_I (1), ab_I (0), ab_I ((-1)), ab_I ((-1)), ab_I ((-1))])).set 20 (ab_ai 0 35 (ab_fv (fun _ => 0) (0) 35))).set 21 (ab_al 24 (ab_fv (fun _ => 0) (Int64.ofInt 0) 24))).set 22 (ab_ai 0 24 (ab_fv (fun _ => 0) (1) 24))).set 23 (ab_ai 0 12 (ab_fv (fun _ => 0) (0) 12))).set 107 (ab_ob 11 [ab_R (108), ab_I (0), ab_I (0), ab_R (109), ab_R (110), ab_R (111), ab_R (112), ab_R (113), ab_I (0), ab_I (1), ab_I (0), ab_I (6), ab_I (0), ab_I (0), ab_I (0), ab_R (114), ab_I (0), ab_R (115), ab_I (0), ab_R (116), ab_R (117), ab_I (0), ab_R (118), ab_I (0), ab_R (119), ab_R (120), ab_R (121), ab_R (122), ab_R (123), ab_R (124), ab_R (125), ab_I (0), ab_I (0), ab_J (0), ab_R (126), ab_R (127), ab_R (128)])).set 110 (ab_ai 0 7 (ab_up (fun _ => 0) (6) (0)))).set 113 (ab_ai 0 150 (f)))) rfl ?_
  refine ev_aload_n de_Mo_readsAll_93 rfl rfl ?_
  refine ev_getfield de_Mo_readsAll_94 rfl fl_Mo_84 rfl ?_
  refine ev_if_ne (tgt := 104) de_Mo_readsAll_97 (by decide) (by decide) (fun _ => ?_) (fun h => absurd h (by decide))
  refine ev_iconst de_Mo_readsAll_104 ?_
  exact ev_zreturn de_Mo_readsAll_105 rfl (by decide) ⟨rfl, rfl⟩
theorem de_Mo_ring_8 : decode prog_14_method_43_code 8 = .ok (.iload_n 1, 1) := by decide +kernel
theorem de_Mo_ring_9 : decode prog_14_method_43_code 9 = .ok (.bipush 46, 2) := by decide +kernel
theorem de_Mo_ring_11 : decode prog_14_method_43_code 11 = .ok (.if_icmp .ge 32, 3) := by decide +kernel
theorem de_Mo_ring_14 : decode prog_14_method_43_code 14 = .ok (.aload_n 0, 1) := by decide +kernel
theorem de_Mo_ring_15 : decode prog_14_method_43_code 15 = .ok (.getfield 26, 3) := by decide +kernel
theorem de_Mo_ring_18 : decode prog_14_method_43_code 18 = .ok (.iload_n 1, 1) := by decide +kernel
theorem de_Mo_ring_19 : decode prog_14_method_43_code 19 = .ok (.iload_n 1, 1) := by decide +kernel
theorem de_Mo_ring_20 : decode prog_14_method_43_code 20 = .ok (.bipush 10, 2) := by decide +kernel
theorem de_Mo_ring_22 : decode prog_14_method_43_code 22 = .ok (.if_icmp .lt 13, 3) := by decide +kernel
theorem de_Mo_ring_25 : decode prog_14_method_43_code 25 = .ok (.iload_n 1, 1) := by decide +kernel
theorem de_Mo_ring_26 : decode prog_14_method_43_code 26 = .ok (.bipush 34, 2) := by decide +kernel
theorem de_Mo_ring_28 : decode prog_14_method_43_code 28 = .ok (.if_icmp .ge 7, 3) := by decide +kernel
theorem de_Mo_ring_31 : decode prog_14_method_43_code 31 = .ok (.iconst 1, 1) := by decide +kernel
theorem de_Mo_ring_32 : decode prog_14_method_43_code 32 = .ok (.goto 4, 3) := by decide +kernel
theorem de_Mo_ring_35 : decode prog_14_method_43_code 35 = .ok (.iconst 0, 1) := by decide +kernel
theorem de_Mo_ring_36 : decode prog_14_method_43_code 36 = .ok (.iastore, 1) := by decide +kernel
theorem de_Mo_ring_37 : decode prog_14_method_43_code 37 = .ok (.iinc 1 1, 3) := by decide +kernel
theorem de_Mo_ring_40 : decode prog_14_method_43_code 40 = .ok (.goto (-32), 3) := by decide +kernel
theorem de_Mo_ring_43 : decode prog_14_method_43_code 43 = .ok (.aload_n 0, 1) := by decide +kernel
theorem de_Mo_ring_44 : decode prog_14_method_43_code 44 = .ok (.invokevirtual 269, 3) := by decide +kernel
theorem de_Mo_ring_47 : decode prog_14_method_43_code 47 = .ok (.ifCond .ne 11, 3) := by decide +kernel
theorem de_Mo_ring_50 : decode prog_14_method_43_code 50 = .ok (.bipush (-2), 2) := by decide +kernel
theorem de_Mo_ring_52 : decode prog_14_method_43_code 52 = .ok (.aload_n 0, 1) := by decide +kernel
theorem de_Mo_ring_53 : decode prog_14_method_43_code 53 = .ok (.getfield 84, 3) := by decide +kernel
theorem de_Mo_ring_56 : decode prog_14_method_43_code 56 = .ok (.isub, 1) := by decide +kernel
theorem de_Mo_ring_57 : decode prog_14_method_43_code 57 = .ok (.ireturn, 1) := by decide +kernel
set_option maxHeartbeats 4000000 in
set_option maxRecDepth 20000 in
theorem lp_ring : ∀ (n : Nat) (i : Int) (f : Int → Int), 0 ≤ i → i ≤ 46 → 46 < i + n → ab_Ev g_G g_rs mt_Mo_ring 6 0 0 8 [some (ab_R (107)), some (ab_I (i))] [] (((((((fw_0.set 1 (ab_ob 8 [ab_R (2), ab_I (0), ab_I (0), ab_R (ab_sb + 1), ab_I (1), ab_I (0), ab_I ((-1)), ab_I ((-1)), ab_I ((-1))])).set 20 (ab_ai 0 35 (ab_fv (fun _ => 0) (0) 35))).set 21 (ab_al 24 (ab_fv (fun _ => 0) (Int64.ofInt 0) 24))).set 22 (ab_ai 0 24 (ab_fv (fun _ => 0) (1) 24))).set 23 (ab_ai 0 12 (ab_fv (fun _ => 0) (0) 12))).set 107 (ab_ob 11 [ab_R (108), ab_I (0), ab_I (0), ab_R (109), ab_R (110), ab_R (111), ab_R (112), ab_R (113), ab_I (0), ab_I (0), ab_I (0), ab_I (6), ab_I (0), ab_I (0), ab_I (0), ab_R (114), ab_I (0), ab_R (115), ab_I (0), ab_R (116), ab_R (117), ab_I (0), ab_R (118), ab_I (0), ab_R (119), ab_R (120), ab_R (121), ab_R (122), ab_R (123), ab_R (124), ab_R (125), ab_I (0), ab_I (0), ab_J (0), ab_R (126), ab_R (127), ab_R (128)])).set 113 (ab_ai 0 150 (f))) (fun r w2 => r = some (ab_I (-3)) ∧ w2.length = (((((fw_0.set 1 (ab_ob 8 [ab_R (2), ab_I (0), ab_I (0), ab_R (ab_sb + 1), ab_I (1), ab_I (0), ab_I ((-1)), ab_I ((-1)), ab_I ((-1))])).set 20 (ab_ai 0 35 (ab_fv (fun _ => 0) (0) 35))).set 21 (ab_al 24 (ab_fv (fun _ => 0) (Int64.ofInt 0) 24))).set 22 (ab_ai 0 24 (ab_fv (fun _ => 0) (1) 24))).set 23 (ab_ai 0 12 (ab_fv (fun _ => 0) (0) 12))).length) := by
  intro n
  induction n with
  | zero =>
    intro i f h1 h2 h3
    omega
  | succ n ih =>
    intro i f h1 h2 h3
    refine ev_iload_n de_Mo_ring_8 rfl rfl ?_
    refine ev_bipush de_Mo_ring_9 rfl ?_
    refine ev_icmp_ge (tgt := 43) de_Mo_ring_11 (by decide) (by omega) (by decide) (fun h11 => ?_) (fun h11 => ?_)
    · skip
      refine ev_aload_n de_Mo_ring_43 rfl rfl ?_
      refine ev_vv (ci := 11) de_Mo_ring_44 (fx_190 f) kb_Mo_269 ⟨im_Mo_readsAll, se_Mo_readsAll⟩ rfl rfl rfl (Nat.le_of_ble_eq_true rfl) (by decide) rfl ?_
      refine ev_if_ne (tgt := 58) de_Mo_ring_47 (by decide) (by decide) (fun h => absurd h (by decide)) (fun _ => ?_)
      refine ev_bipush de_Mo_ring_50 rfl ?_
      refine ev_aload_n de_Mo_ring_52 rfl rfl ?_
      refine ev_getfield de_Mo_ring_53 rfl fl_Mo_84 rfl ?_
      refine ev_isub de_Mo_ring_56 ?_
      refine ev_top (b := ab_I ((-3))) rfl ?_
      exact ev_ireturn de_Mo_ring_57 rfl ⟨rfl, rfl⟩
    · skip
      refine ev_aload_n de_Mo_ring_14 rfl rfl ?_
      refine ev_getfield de_Mo_ring_15 rfl fl_Mo_26 rfl ?_
      refine ev_iload_n de_Mo_ring_18 rfl rfl ?_
      refine ev_iload_n de_Mo_ring_19 rfl rfl ?_
      refine ev_bipush de_Mo_ring_20 rfl ?_
      refine ev_icmp_lt (tgt := 35) de_Mo_ring_22 (by decide) (by omega) (by decide) (fun h22 => ?_) (fun h22 => ?_)
      · skip
        refine ev_iconst de_Mo_ring_35 ?_
        refine ev_iastore de_Mo_ring_36 rfl (by omega) (by omega) (by omega) ?_
        refine ev_world (w' := (((((((fw_0.set 1 (ab_ob 8 [ab_R (2), ab_I (0), ab_I (0), ab_R (ab_sb + 1), ab_I (1), ab_I (0), ab_I ((-1)), ab_I ((-1)), ab_I ((-1))])).set 20 (ab_ai 0 35 (ab_fv (fun _ => 0) (0) 35))).set 21 (ab_al 24 (ab_fv (fun _ => 0) (Int64.ofInt 0) 24))).set 22 (ab_ai 0 24 (ab_fv (fun _ => 0) (1) 24))).set 23 (ab_ai 0 12 (ab_fv (fun _ => 0) (0) 12))).set 107 (ab_ob 11 [ab_R (108), ab_I (0), ab_I (0), ab_R (109), ab_R (110), ab_R (111), ab_R (112), ab_R (113), ab_I (0), ab_I (0), ab_I (0), ab_I (6), ab_I (0), ab_I (0), ab_I (0), ab_R (114), ab_I (0), ab_R (115), ab_I (0), ab_R (116), ab_R (117), ab_I (0), ab_R (118), ab_I (0), ab_R (119), ab_R (120), ab_R (121), ab_R (122), ab_R (123), ab_R (124), ab_R (125), ab_I (0), ab_I (0), ab_J (0), ab_R (126), ab_R (127), ab_R (128)])).set 113 (ab_ai 0 150 (_)))) rfl ?_
        refine ev_iinc (l' := [_, _]) de_Mo_ring_37 rfl rfl ?_
        refine ev_goto (tgt := 8) de_Mo_ring_40 (by decide) ?_
        exact ih (i + 1) _ (by omega) (by omega) (by omega)
      · skip
        refine ev_iload_n de_Mo_ring_25 rfl rfl ?_
        refine ev_bipush de_Mo_ring_26 rfl ?_
        refine ev_icmp_ge (tgt := 35) de_Mo_ring_28 (by decide) (by omega) (by decide) (fun h28 => ?_) (fun h28 => ?_)
        · skip
          refine ev_iconst de_Mo_ring_35 ?_
          refine ev_iastore de_Mo_ring_36 rfl (by omega) (by omega) (by omega) ?_
          refine ev_world (w' := (((((((fw_0.set 1 (ab_ob 8 [ab_R (2), ab_I (0), ab_I (0), ab_R (ab_sb + 1), ab_I (1), ab_I (0), ab_I ((-1)), ab_I ((-1)), ab_I ((-1))])).set 20 (ab_ai 0 35 (ab_fv (fun _ => 0) (0) 35))).set 21 (ab_al 24 (ab_fv (fun _ => 0) (Int64.ofInt 0) 24))).set 22 (ab_ai 0 24 (ab_fv (fun _ => 0) (1) 24))).set 23 (ab_ai 0 12 (ab_fv (fun _ => 0) (0) 12))).set 107 (ab_ob 11 [ab_R (108), ab_I (0), ab_I (0), ab_R (109), ab_R (110), ab_R (111), ab_R (112), ab_R (113), ab_I (0), ab_I (0), ab_I (0), ab_I (6), ab_I (0), ab_I (0), ab_I (0), ab_R (114), ab_I (0), ab_R (115), ab_I (0), ab_R (116), ab_R (117), ab_I (0), ab_R (118), ab_I (0), ab_R (119), ab_R (120), ab_R (121), ab_R (122), ab_R (123), ab_R (124), ab_R (125), ab_I (0), ab_I (0), ab_J (0), ab_R (126), ab_R (127), ab_R (128)])).set 113 (ab_ai 0 150 (_)))) rfl ?_
          refine ev_iinc (l' := [_, _]) de_Mo_ring_37 rfl rfl ?_
          refine ev_goto (tgt := 8) de_Mo_ring_40 (by decide) ?_
          exact ih (i + 1) _ (by omega) (by omega) (by omega)
        · skip
          refine ev_iconst de_Mo_ring_31 ?_
          refine ev_goto (tgt := 36) de_Mo_ring_32 (by decide) ?_
          refine ev_iastore de_Mo_ring_36 rfl (by omega) (by omega) (by omega) ?_
          refine ev_world (w' := (((((((fw_0.set 1 (ab_ob 8 [ab_R (2), ab_I (0), ab_I (0), ab_R (ab_sb + 1), ab_I (1), ab_I (0), ab_I ((-1)), ab_I ((-1)), ab_I ((-1))])).set 20 (ab_ai 0 35 (ab_fv (fun _ => 0) (0) 35))).set 21 (ab_al 24 (ab_fv (fun _ => 0) (Int64.ofInt 0) 24))).set 22 (ab_ai 0 24 (ab_fv (fun _ => 0) (1) 24))).set 23 (ab_ai 0 12 (ab_fv (fun _ => 0) (0) 12))).set 107 (ab_ob 11 [ab_R (108), ab_I (0), ab_I (0), ab_R (109), ab_R (110), ab_R (111), ab_R (112), ab_R (113), ab_I (0), ab_I (0), ab_I (0), ab_I (6), ab_I (0), ab_I (0), ab_I (0), ab_R (114), ab_I (0), ab_R (115), ab_I (0), ab_R (116), ab_R (117), ab_I (0), ab_R (118), ab_I (0), ab_R (119), ab_R (120), ab_R (121), ab_R (122), ab_R (123), ab_R (124), ab_R (125), ab_I (0), ab_I (0), ab_J (0), ab_R (126), ab_R (127), ab_R (128)])).set 113 (ab_ai 0 150 (_)))) rfl ?_
          refine ev_iinc (l' := [_, _]) de_Mo_ring_37 rfl rfl ?_
          refine ev_goto (tgt := 8) de_Mo_ring_40 (by decide) ?_
          exact ih (i + 1) _ (by omega) (by omega) (by omega)
theorem de_Mo_ring_0 : decode prog_14_method_43_code 0 = .ok (.aload_n 0, 1) := by decide +kernel
theorem de_Mo_ring_1 : decode prog_14_method_43_code 1 = .ok (.bipush 6, 2) := by decide +kernel
theorem de_Mo_ring_3 : decode prog_14_method_43_code 3 = .ok (.putfield 143, 3) := by decide +kernel
theorem de_Mo_ring_6 : decode prog_14_method_43_code 6 = .ok (.iconst 0, 1) := by decide +kernel
theorem de_Mo_ring_7 : decode prog_14_method_43_code 7 = .ok (.istore_n 1, 1) := by decide +kernel
set_option maxHeartbeats 4000000 in
set_option maxRecDepth 20000 in
theorem yy_ring  : ab_Mt g_G g_rs mt_Mo_ring 6 0 0 [ab_R (107)] (((((fw_0.set 1 (ab_ob 8 [ab_R (2), ab_I (0), ab_I (0), ab_R (ab_sb + 1), ab_I (1), ab_I (0), ab_I ((-1)), ab_I ((-1)), ab_I ((-1))])).set 20 (ab_ai 0 35 (ab_fv (fun _ => 0) (0) 35))).set 21 (ab_al 24 (ab_fv (fun _ => 0) (Int64.ofInt 0) 24))).set 22 (ab_ai 0 24 (ab_fv (fun _ => 0) (1) 24))).set 23 (ab_ai 0 12 (ab_fv (fun _ => 0) (0) 12))) (fun r w2 => r = some (ab_I (-3)) ∧ w2.length = (((((fw_0.set 1 (ab_ob 8 [ab_R (2), ab_I (0), ab_I (0), ab_R (ab_sb + 1), ab_I (1), ab_I (0), ab_I ((-1)), ab_I ((-1)), ab_I ((-1))])).set 20 (ab_ai 0 35 (ab_fv (fun _ => 0) (0) 35))).set 21 (ab_al 24 (ab_fv (fun _ => 0) (Int64.ofInt 0) 24))).set 22 (ab_ai 0 24 (ab_fv (fun _ => 0) (1) 24))).set 23 (ab_ai 0 12 (ab_fv (fun _ => 0) (0) 12))).length) := by
  refine ab_Mt.of rfl (Nat.le_of_ble_eq_true rfl) ?_
  show ab_Ev g_G g_rs mt_Mo_ring _ _ _ 0 [some (ab_R (107)), none] [] _ _
  refine ev_aload_n de_Mo_ring_0 rfl rfl ?_
  refine ev_bipush de_Mo_ring_1 rfl ?_
  refine ev_putfield de_Mo_ring_3 rfl (fp_Mo_143 _) (Nat.le_of_ble_eq_true rfl) trivial ?_
  refine ev_world (w' := ((((((fw_0.set 1 (ab_ob 8 [ab_R (2), ab_I (0), ab_I (0), ab_R (ab_sb + 1), ab_I (1), ab_I (0), ab_I ((-1)), ab_I ((-1)), ab_I ((-1))])).set 20 (ab_ai 0 35 (ab_fv (fun _ => 0) (0) 35))).set 21 (ab_al 24 (ab_fv (fun _ => 0) (Int64.ofInt 0) 24))).set 22 (ab_ai 0 24 (ab_fv (fun _ => 0) (1) 24))).set 23 (ab_ai 0 12 (ab_fv (fun _ => 0) (0) 12))).set 107 (ab_ob 11 [ab_R (108), ab_I (0), ab_I (0), ab_R (109), ab_R (110), ab_R (111), ab_R (112), ab_R (113), ab_I (0), ab_I (0), ab_I (0), ab_I (6), ab_I (0), ab_I (0), ab_I (0), ab_R (114), ab_I (0), ab_R (115), ab_I (0), ab_R (116), ab_R (117), ab_I (0), ab_R (118), ab_I (0), ab_R (119), ab_R (120), ab_R (121), ab_R (122), ab_R (123), ab_R (124), ab_R (125), ab_I (0), ab_I (0), ab_J (0), ab_R (126), ab_R (127), ab_R (128)]))) rfl ?_
  refine ev_iconst de_Mo_ring_6 ?_
  refine ev_istore_n (l' := [_, _]) de_Mo_ring_7 rfl (Nat.le_of_ble_eq_true rfl) rfl ?_
  refine ev_world (w' := (((((((fw_0.set 1 (ab_ob 8 [ab_R (2), ab_I (0), ab_I (0), ab_R (ab_sb + 1), ab_I (1), ab_I (0), ab_I ((-1)), ab_I ((-1)), ab_I ((-1))])).set 20 (ab_ai 0 35 (ab_fv (fun _ => 0) (0) 35))).set 21 (ab_al 24 (ab_fv (fun _ => 0) (Int64.ofInt 0) 24))).set 22 (ab_ai 0 24 (ab_fv (fun _ => 0) (1) 24))).set 23 (ab_ai 0 12 (ab_fv (fun _ => 0) (0) 12))).set 107 (ab_ob 11 [ab_R (108), ab_I (0), ab_I (0), ab_R (109), ab_R (110), ab_R (111), ab_R (112), ab_R (113), ab_I (0), ab_I (0), ab_I (0), ab_I (6), ab_I (0), ab_I (0), ab_I (0), ab_R (114), ab_I (0), ab_R (115), ab_I (0), ab_R (116), ab_R (117), ab_I (0), ab_R (118), ab_I (0), ab_R (119), ab_R (120), ab_R (121), ab_R (122), ab_R (123), ab_R (124), ab_R (125), ab_I (0), ab_I (0), ab_J (0), ab_R (126), ab_R (127), ab_R (128)])).set 113 (ab_ai 0 150 (fun _ => 0)))) rfl ?_
  exact lp_ring 47 0 _ (by omega) (by omega) (by omega)
theorem de_Mo_image_33 : decode prog_14_method_115_code 33 = .ok (.iload_n 2, 1) := by decide +kernel
theorem de_Mo_image_34 : decode prog_14_method_115_code 34 = .ok (.sipush 191, 3) := by decide +kernel
theorem de_Mo_image_37 : decode prog_14_method_115_code 37 = .ok (.if_icmp .ge 27, 3) := by decide +kernel
theorem de_Mo_image_40 : decode prog_14_method_115_code 40 = .ok (.aload_n 0, 1) := by decide +kernel
theorem de_Mo_image_41 : decode prog_14_method_115_code 41 = .ok (.getfield 66, 3) := by decide +kernel
theorem de_Mo_image_44 : decode prog_14_method_115_code 44 = .ok (.sipush 191, 3) := by decide +kernel
theorem de_Mo_image_47 : decode prog_14_method_115_code 47 = .ok (.iload_n 1, 1) := by decide +kernel
theorem de_Mo_image_48 : decode prog_14_method_115_code 48 = .ok (.imul, 1) := by decide +kernel
theorem de_Mo_image_49 : decode prog_14_method_115_code 49 = .ok (.iload_n 2, 1) := by decide +kernel
theorem de_Mo_image_50 : decode prog_14_method_115_code 50 = .ok (.iadd, 1) := by decide +kernel
theorem de_Mo_image_51 : decode prog_14_method_115_code 51 = .ok (.aload_n 0, 1) := by decide +kernel
theorem de_Mo_image_52 : decode prog_14_method_115_code 52 = .ok (.getfield 39, 3) := by decide +kernel
theorem de_Mo_image_55 : decode prog_14_method_115_code 55 = .ok (.iload_n 2, 1) := by decide +kernel
theorem de_Mo_image_56 : decode prog_14_method_115_code 56 = .ok (.iaload, 1) := by decide +kernel
theorem de_Mo_image_57 : decode prog_14_method_115_code 57 = .ok (.iastore, 1) := by decide +kernel
theorem de_Mo_image_58 : decode prog_14_method_115_code 58 = .ok (.iinc 2 1, 3) := by decide +kernel
theorem de_Mo_image_61 : decode prog_14_method_115_code 61 = .ok (.goto (-28), 3) := by decide +kernel
theorem de_Mo_image_64 : decode prog_14_method_115_code 64 = .ok (.aload_n 0, 1) := by decide +kernel
theorem de_Mo_image_65 : decode prog_14_method_115_code 65 = .ok (.getfield 39, 3) := by decide +kernel
theorem de_Mo_image_68 : decode prog_14_method_115_code 68 = .ok (.bipush 6, 2) := by decide +kernel
theorem de_Mo_image_70 : decode prog_14_method_115_code 70 = .ok (.iaload, 1) := by decide +kernel
theorem de_Mo_image_71 : decode prog_14_method_115_code 71 = .ok (.ireturn, 1) := by decide +kernel
set_option maxHeartbeats 4000000 in
set_option maxRecDepth 20000 in
theorem lp_image_0 : ∀ (n : Nat) (i : Int) (f : Int → Int), 0 ≤ i → i ≤ 191 → 191 < i + n → ab_Ev g_G g_rs mt_Mo_image 1 0 0 33 [some (ab_R (107)), some (ab_I (0)), some (ab_I (i))] [] (((((((((((((((fw_0.set 30 (ab_ai 2 4 (ab_up (fun _ => 0) (0) (1)))).set 56 (ab_ai 0 7 (ab_cp (fun _ => 0) (fun _ => 0) 0 0 7))).set 57 (ab_ai 0 7 (ab_cp (fun _ => 0) (fun _ => 0) 0 0 7))).set 58 (ab_ai 0 7 (ab_cp (fun _ => 0) (fun _ => 0) 0 0 7))).set 59 (ab_ai 0 35 (ab_cp (fun _ => 0) (fun _ => 0) 0 0 35))).set 60 (ab_al 24 (ab_cp (fun _ => 0) (fun _ => 0) 0 0 24))).set 61 (ab_ai 0 24 (ab_cp (fun _ => 0) (fun _ => 0) 0 0 24))).set 62 (ab_ai 0 12 (ab_cp (fun _ => 0) (fun _ => 0) 0 0 12))).set 64 (ab_ai 0 10 (ab_cp (fun _ => 0) (fun _ => 0) 0 0 10))).set 65 (ab_ai 0 10 (ab_cp (fun _ => 0) (fun _ => 0) 0 0 10))).set 66 (ab_ai 0 10 (ab_cp (fun _ => 0) (fun _ => 0) 0 0 10))).set 67 (ab_ai 0 10 (ab_cp (fun _ => 0) (fun _ => 0) 0 0 10))).set 126 (ab_ai 0 764 (f))).set 127 (ab_ai 0 4 (ab_up (fun _ => 0) (0) (0)))).set 128 (ab_ai 2 4 (ab_up (fun _ => 0) (0) (1)))) (fun r w2 => r = some (ab_I 0) ∧ w2.length = ((((((((((((fw_0.set 30 (ab_ai 2 4 (ab_up (fun _ => 0) (0) (1)))).set 56 (ab_ai 0 7 (ab_cp (fun _ => 0) (fun _ => 0) 0 0 7))).set 57 (ab_ai 0 7 (ab_cp (fun _ => 0) (fun _ => 0) 0 0 7))).set 58 (ab_ai 0 7 (ab_cp (fun _ => 0) (fun _ => 0) 0 0 7))).set 59 (ab_ai 0 35 (ab_cp (fun _ => 0) (fun _ => 0) 0 0 35))).set 60 (ab_al 24 (ab_cp (fun _ => 0) (fun _ => 0) 0 0 24))).set 61 (ab_ai 0 24 (ab_cp (fun _ => 0) (fun _ => 0) 0 0 24))).set 62 (ab_ai 0 12 (ab_cp (fun _ => 0) (fun _ => 0) 0 0 12))).set 64 (ab_ai 0 10 (ab_cp (fun _ => 0) (fun _ => 0) 0 0 10))).set 65 (ab_ai 0 10 (ab_cp (fun _ => 0) (fun _ => 0) 0 0 10))).set 66 (ab_ai 0 10 (ab_cp (fun _ => 0) (fun _ => 0) 0 0 10))).set 67 (ab_ai 0 10 (ab_cp (fun _ => 0) (fun _ => 0) 0 0 10))).length) := by
  intro n
  induction n with
  | zero =>
    intro i f h1 h2 h3
    omega
  | succ n ih =>
    intro i f h1 h2 h3
    refine ev_iload_n de_Mo_image_33 rfl rfl ?_
    refine ev_sipush de_Mo_image_34 rfl ?_
    refine ev_icmp_ge (tgt := 64) de_Mo_image_37 (by decide) (by omega) (by decide) (fun h37 => ?_) (fun h37 => ?_)
    · skip
      refine ev_aload_n de_Mo_image_64 rfl rfl ?_
      refine ev_getfield de_Mo_image_65 rfl fl_Mo_39 rfl ?_
      refine ev_bipush de_Mo_image_68 rfl ?_
      refine ev_iaload de_Mo_image_70 rfl (by decide) (by decide) (by decide) ?_
      refine ev_top (b := ab_I (0)) rfl ?_
      exact ev_ireturn de_Mo_image_71 rfl ⟨rfl, rfl⟩
    · skip
      refine ev_aload_n de_Mo_image_40 rfl rfl ?_
      refine ev_getfield de_Mo_image_41 rfl fl_Mo_66 rfl ?_
      refine ev_sipush de_Mo_image_44 rfl ?_
      refine ev_iload_n de_Mo_image_47 rfl rfl ?_
      refine ev_imul de_Mo_image_48 ?_
      refine ev_top (b := ab_I (0)) rfl ?_
      refine ev_iload_n de_Mo_image_49 rfl rfl ?_
      refine ev_iadd de_Mo_image_50 ?_
      refine ev_aload_n de_Mo_image_51 rfl rfl ?_
      refine ev_getfield de_Mo_image_52 rfl fl_Mo_39 rfl ?_
      refine ev_iload_n de_Mo_image_55 rfl rfl ?_
      refine ev_iaload de_Mo_image_56 rfl (by omega) (by omega) (by omega) ?_
      refine ev_top (b := ab_I (0)) rfl ?_
      refine ev_iastore de_Mo_image_57 rfl (by omega) (by omega) (by omega) ?_
      refine ev_world (w' := (((((((((((((((fw_0.set 30 (ab_ai 2 4 (ab_up (fun _ => 0) (0) (1)))).set 56 (ab_ai 0 7 (ab_cp (fun _ => 0) (fun _ => 0) 0 0 7))).set 57 (ab_ai 0 7 (ab_cp (fun _ => 0) (fun _ => 0) 0 0 7))).set 58 (ab_ai 0 7 (ab_cp (fun _ => 0) (fun _ => 0) 0 0 7))).set 59 (ab_ai 0 35 (ab_cp (fun _ => 0) (fun _ => 0) 0 0 35))).set 60 (ab_al 24 (ab_cp (fun _ => 0) (fun _ => 0) 0 0 24))).set 61 (ab_ai 0 24 (ab_cp (fun _ => 0) (fun _ => 0) 0 0 24))).set 62 (ab_ai 0 12 (ab_cp (fun _ => 0) (fun _ => 0) 0 0 12))).set 64 (ab_ai 0 10 (ab_cp (fun _ => 0) (fun _ => 0) 0 0 10))).set 65 (ab_ai 0 10 (ab_cp (fun _ => 0) (fun _ => 0) 0 0 10))).set 66 (ab_ai 0 10 (ab_cp (fun _ => 0) (fun _ => 0) 0 0 10))).set 67 (ab_ai 0 10 (ab_cp (fun _ => 0) (fun _ => 0) 0 0 10))).set 126 (ab_ai 0 764 (_))).set 127 (ab_ai 0 4 (ab_up (fun _ => 0) (0) (0)))).set 128 (ab_ai 2 4 (ab_up (fun _ => 0) (0) (1))))) rfl ?_
      refine ev_iinc (l' := [_, _, _]) de_Mo_image_58 rfl rfl ?_
      refine ev_goto (tgt := 33) de_Mo_image_61 (by decide) ?_
      exact ih (i + 1) _ (by omega) (by omega) (by omega)
theorem de_Mo_image_14 : decode prog_14_method_115_code 14 = .ok (.aload_n 0, 1) := by decide +kernel
theorem de_Mo_image_15 : decode prog_14_method_115_code 15 = .ok (.getfield 72, 3) := by decide +kernel
theorem de_Mo_image_18 : decode prog_14_method_115_code 18 = .ok (.iload_n 1, 1) := by decide +kernel
theorem de_Mo_image_19 : decode prog_14_method_115_code 19 = .ok (.iconst 1, 1) := by decide +kernel
theorem de_Mo_image_20 : decode prog_14_method_115_code 20 = .ok (.bastore, 1) := by decide +kernel
theorem de_Mo_image_21 : decode prog_14_method_115_code 21 = .ok (.aload_n 0, 1) := by decide +kernel
theorem de_Mo_image_22 : decode prog_14_method_115_code 22 = .ok (.getfield 69, 3) := by decide +kernel
theorem de_Mo_image_25 : decode prog_14_method_115_code 25 = .ok (.iload_n 1, 1) := by decide +kernel
theorem de_Mo_image_26 : decode prog_14_method_115_code 26 = .ok (.aload_n 0, 1) := by decide +kernel
theorem de_Mo_image_27 : decode prog_14_method_115_code 27 = .ok (.getfield 465, 3) := by decide +kernel
theorem de_Mo_image_30 : decode prog_14_method_115_code 30 = .ok (.iastore, 1) := by decide +kernel
theorem de_Mo_image_31 : decode prog_14_method_115_code 31 = .ok (.iconst 0, 1) := by decide +kernel
theorem de_Mo_image_32 : decode prog_14_method_115_code 32 = .ok (.istore_n 2, 1) := by decide +kernel
set_option maxHeartbeats 4000000 in
set_option maxRecDepth 20000 in
theorem yy_image_0  : ab_Mt g_G g_rs mt_Mo_image 1 0 0 [ab_R (107), ab_I (0)] ((((((((((((fw_0.set 30 (ab_ai 2 4 (ab_up (fun _ => 0) (0) (1)))).set 56 (ab_ai 0 7 (ab_cp (fun _ => 0) (fun _ => 0) 0 0 7))).set 57 (ab_ai 0 7 (ab_cp (fun _ => 0) (fun _ => 0) 0 0 7))).set 58 (ab_ai 0 7 (ab_cp (fun _ => 0) (fun _ => 0) 0 0 7))).set 59 (ab_ai 0 35 (ab_cp (fun _ => 0) (fun _ => 0) 0 0 35))).set 60 (ab_al 24 (ab_cp (fun _ => 0) (fun _ => 0) 0 0 24))).set 61 (ab_ai 0 24 (ab_cp (fun _ => 0) (fun _ => 0) 0 0 24))).set 62 (ab_ai 0 12 (ab_cp (fun _ => 0) (fun _ => 0) 0 0 12))).set 64 (ab_ai 0 10 (ab_cp (fun _ => 0) (fun _ => 0) 0 0 10))).set 65 (ab_ai 0 10 (ab_cp (fun _ => 0) (fun _ => 0) 0 0 10))).set 66 (ab_ai 0 10 (ab_cp (fun _ => 0) (fun _ => 0) 0 0 10))).set 67 (ab_ai 0 10 (ab_cp (fun _ => 0) (fun _ => 0) 0 0 10))) (fun r w2 => r = some (ab_I 0) ∧ w2.length = ((((((((((((fw_0.set 30 (ab_ai 2 4 (ab_up (fun _ => 0) (0) (1)))).set 56 (ab_ai 0 7 (ab_cp (fun _ => 0) (fun _ => 0) 0 0 7))).set 57 (ab_ai 0 7 (ab_cp (fun _ => 0) (fun _ => 0) 0 0 7))).set 58 (ab_ai 0 7 (ab_cp (fun _ => 0) (fun _ => 0) 0 0 7))).set 59 (ab_ai 0 35 (ab_cp (fun _ => 0) (fun _ => 0) 0 0 35))).set 60 (ab_al 24 (ab_cp (fun _ => 0) (fun _ => 0) 0 0 24))).set 61 (ab_ai 0 24 (ab_cp (fun _ => 0) (fun _ => 0) 0 0 24))).set 62 (ab_ai 0 12 (ab_cp (fun _ => 0) (fun _ => 0) 0 0 12))).set 64 (ab_ai 0 10 (ab_cp (fun _ => 0) (fun _ => 0) 0 0 10))).set 65 (ab_ai 0 10 (ab_cp (fun _ => 0) (fun _ => 0) 0 0 10))).set 66 (ab_ai 0 10 (ab_cp (fun _ => 0) (fun _ => 0) 0 0 10))).set 67 (ab_ai 0 10 (ab_cp (fun _ => 0) (fun _ => 0) 0 0 10))).length) := by
  refine ab_Mt.of rfl (Nat.le_of_ble_eq_true rfl) ?_
  show ab_Ev g_G g_rs mt_Mo_image _ _ _ 0 [some (ab_R (107)), some (ab_I (0)), none] [] _ _
  refine ev_iload_n de_Mo_image_0 rfl rfl ?_
  refine ev_i2l de_Mo_image_1 (by decide) ?_
  refine ev_lconsti (n := 0) de_Mo_image_2 (by decide) ?_
  refine ev_ldc2i (n := 3) de_Mo_image_3 cn_Mo_352 (by decide) ?_
  refine ev_sv de_Mo_image_6 (co_Mo_in _ ((0)) (0) (3) (by first | decide | omega) (by decide) (by decide)) kb_Mo_115 sc_Mo_in rfl (Nat.le_of_ble_eq_true rfl) (by decide) rfl ?_
  refine ev_top (b := ab_I 1) (congrArg Sum.inl (if_pos (by first | decide | omega))) ?_
  refine ev_if_ne (tgt := 14) de_Mo_image_9 (by decide) (by decide) (fun _ => ?_) (fun h => absurd h (by decide))
  refine ev_aload_n de_Mo_image_14 rfl rfl ?_
  refine ev_getfield de_Mo_image_15 rfl fl_Mo_72 rfl ?_
  refine ev_iload_n de_Mo_image_18 rfl rfl ?_
  refine ev_iconst de_Mo_image_19 ?_
  refine ev_zastore de_Mo_image_20 rfl (by decide) (by decide) (by decide) (by decide) ?_
  refine ev_world (w' := (((((((((((((fw_0.set 30 (ab_ai 2 4 (ab_up (fun _ => 0) (0) (1)))).set 56 (ab_ai 0 7 (ab_cp (fun _ => 0) (fun _ => 0) 0 0 7))).set 57 (ab_ai 0 7 (ab_cp (fun _ => 0) (fun _ => 0) 0 0 7))).set 58 (ab_ai 0 7 (ab_cp (fun _ => 0) (fun _ => 0) 0 0 7))).set 59 (ab_ai 0 35 (ab_cp (fun _ => 0) (fun _ => 0) 0 0 35))).set 60 (ab_al 24 (ab_cp (fun _ => 0) (fun _ => 0) 0 0 24))).set 61 (ab_ai 0 24 (ab_cp (fun _ => 0) (fun _ => 0) 0 0 24))).set 62 (ab_ai 0 12 (ab_cp (fun _ => 0) (fun _ => 0) 0 0 12))).set 64 (ab_ai 0 10 (ab_cp (fun _ => 0) (fun _ => 0) 0 0 10))).set 65 (ab_ai 0 10 (ab_cp (fun _ => 0) (fun _ => 0) 0 0 10))).set 66 (ab_ai 0 10 (ab_cp (fun _ => 0) (fun _ => 0) 0 0 10))).set 67 (ab_ai 0 10 (ab_cp (fun _ => 0) (fun _ => 0) 0 0 10))).set 128 (ab_ai 2 4 (ab_up (fun _ => 0) (0) (1))))) rfl ?_
  refine ev_aload_n de_Mo_image_21 rfl rfl ?_
  refine ev_getfield de_Mo_image_22 rfl fl_Mo_69 rfl ?_
  refine ev_iload_n de_Mo_image_25 rfl rfl ?_
  refine ev_aload_n de_Mo_image_26 rfl rfl ?_
  refine ev_getfield de_Mo_image_27 rfl fl_Mo_465 rfl ?_
  refine ev_iastore de_Mo_image_30 rfl (by decide) (by decide) (by decide) ?_
  refine ev_world (w' := ((((((((((((((fw_0.set 30 (ab_ai 2 4 (ab_up (fun _ => 0) (0) (1)))).set 56 (ab_ai 0 7 (ab_cp (fun _ => 0) (fun _ => 0) 0 0 7))).set 57 (ab_ai 0 7 (ab_cp (fun _ => 0) (fun _ => 0) 0 0 7))).set 58 (ab_ai 0 7 (ab_cp (fun _ => 0) (fun _ => 0) 0 0 7))).set 59 (ab_ai 0 35 (ab_cp (fun _ => 0) (fun _ => 0) 0 0 35))).set 60 (ab_al 24 (ab_cp (fun _ => 0) (fun _ => 0) 0 0 24))).set 61 (ab_ai 0 24 (ab_cp (fun _ => 0) (fun _ => 0) 0 0 24))).set 62 (ab_ai 0 12 (ab_cp (fun _ => 0) (fun _ => 0) 0 0 12))).set 64 (ab_ai 0 10 (ab_cp (fun _ => 0) (fun _ => 0) 0 0 10))).set 65 (ab_ai 0 10 (ab_cp (fun _ => 0) (fun _ => 0) 0 0 10))).set 66 (ab_ai 0 10 (ab_cp (fun _ => 0) (fun _ => 0) 0 0 10))).set 67 (ab_ai 0 10 (ab_cp (fun _ => 0) (fun _ => 0) 0 0 10))).set 127 (ab_ai 0 4 (ab_up (fun _ => 0) (0) (0)))).set 128 (ab_ai 2 4 (ab_up (fun _ => 0) (0) (1))))) rfl ?_
  refine ev_iconst de_Mo_image_31 ?_
  refine ev_istore_n (l' := [_, _, _]) de_Mo_image_32 rfl (Nat.le_of_ble_eq_true rfl) rfl ?_
  refine ev_world (w' := (((((((((((((((fw_0.set 30 (ab_ai 2 4 (ab_up (fun _ => 0) (0) (1)))).set 56 (ab_ai 0 7 (ab_cp (fun _ => 0) (fun _ => 0) 0 0 7))).set 57 (ab_ai 0 7 (ab_cp (fun _ => 0) (fun _ => 0) 0 0 7))).set 58 (ab_ai 0 7 (ab_cp (fun _ => 0) (fun _ => 0) 0 0 7))).set 59 (ab_ai 0 35 (ab_cp (fun _ => 0) (fun _ => 0) 0 0 35))).set 60 (ab_al 24 (ab_cp (fun _ => 0) (fun _ => 0) 0 0 24))).set 61 (ab_ai 0 24 (ab_cp (fun _ => 0) (fun _ => 0) 0 0 24))).set 62 (ab_ai 0 12 (ab_cp (fun _ => 0) (fun _ => 0) 0 0 12))).set 64 (ab_ai 0 10 (ab_cp (fun _ => 0) (fun _ => 0) 0 0 10))).set 65 (ab_ai 0 10 (ab_cp (fun _ => 0) (fun _ => 0) 0 0 10))).set 66 (ab_ai 0 10 (ab_cp (fun _ => 0) (fun _ => 0) 0 0 10))).set 67 (ab_ai 0 10 (ab_cp (fun _ => 0) (fun _ => 0) 0 0 10))).set 126 (ab_ai 0 764 (fun _ => 0))).set 127 (ab_ai 0 4 (ab_up (fun _ => 0) (0) (0)))).set 128 (ab_ai 2 4 (ab_up (fun _ => 0) (0) (1))))) rfl ?_
  exact lp_image_0 192 0 _ (by omega) (by omega) (by omega)
set_option maxHeartbeats 4000000 in
set_option maxRecDepth 20000 in
theorem lp_image_1 : ∀ (n : Nat) (i : Int) (f : Int → Int), 0 ≤ i → i ≤ 191 → 191 < i + n → ab_Ev g_G g_rs mt_Mo_image 1 0 0 33 [some (ab_R (107)), some (ab_I (1)), some (ab_I (i))] [] (((((((((((((((fw_0.set 30 (ab_ai 2 4 (ab_up (fun _ => 0) (1) (1)))).set 69 (ab_ai 0 7 (ab_cp (fun _ => 0) (fun _ => 0) 0 0 7))).set 70 (ab_ai 0 7 (ab_cp (fun _ => 0) (fun _ => 0) 0 0 7))).set 71 (ab_ai 0 7 (ab_cp (fun _ => 0) (fun _ => 0) 0 0 7))).set 72 (ab_ai 0 35 (ab_cp (fun _ => 0) (fun _ => 0) 0 0 35))).set 73 (ab_al 24 (ab_cp (fun _ => 0) (fun _ => 0) 0 0 24))).set 74 (ab_ai 0 24 (ab_cp (fun _ => 0) (fun _ => 0) 0 0 24))).set 75 (ab_ai 0 12 (ab_cp (fun _ => 0) (fun _ => 0) 0 0 12))).set 77 (ab_ai 0 10 (ab_cp (fun _ => 0) (fun _ => 0) 0 0 10))).set 78 (ab_ai 0 10 (ab_cp (fun _ => 0) (fun _ => 0) 0 0 10))).set 79 (ab_ai 0 10 (ab_cp (fun _ => 0) (fun _ => 0) 0 0 10))).set 80 (ab_ai 0 10 (ab_cp (fun _ => 0) (fun _ => 0) 0 0 10))).set 126 (ab_ai 0 764 (f))).set 127 (ab_ai 0 4 (ab_up (fun _ => 0) (1) (0)))).set 128 (ab_ai 2 4 (ab_up (fun _ => 0) (1) (1)))) (fun r w2 => r = some (ab_I 0) ∧ w2.length = ((((((((((((fw_0.set 30 (ab_ai 2 4 (ab_up (fun _ => 0) (1) (1)))).set 69 (ab_ai 0 7 (ab_cp (fun _ => 0) (fun _ => 0) 0 0 7))).set 70 (ab_ai 0 7 (ab_cp (fun _ => 0) (fun _ => 0) 0 0 7))).set 71 (ab_ai 0 7 (ab_cp (fun _ => 0) (fun _ => 0) 0 0 7))).set 72 (ab_ai 0 35 (ab_cp (fun _ => 0) (fun _ => 0) 0 0 35))).set 73 (ab_al 24 (ab_cp (fun _ => 0) (fun _ => 0) 0 0 24))).set 74 (ab_ai 0 24 (ab_cp (fun _ => 0) (fun _ => 0) 0 0 24))).set 75 (ab_ai 0 12 (ab_cp (fun _ => 0) (fun _ => 0) 0 0 12))).set 77 (ab_ai 0 10 (ab_cp (fun _ => 0) (fun _ => 0) 0 0 10))).set 78 (ab_ai 0 10 (ab_cp (fun _ => 0) (fun _ => 0) 0 0 10))).set 79 (ab_ai 0 10 (ab_cp (fun _ => 0) (fun _ => 0) 0 0 10))).set 80 (ab_ai 0 10 (ab_cp (fun _ => 0) (fun _ => 0) 0 0 10))).length) := by
  intro n
  induction n with
  | zero =>
    intro i f h1 h2 h3
    omega
  | succ n ih =>
    intro i f h1 h2 h3
    refine ev_iload_n de_Mo_image_33 rfl rfl ?_
    refine ev_sipush de_Mo_image_34 rfl ?_
    refine ev_icmp_ge (tgt := 64) de_Mo_image_37 (by decide) (by omega) (by decide) (fun h37 => ?_) (fun h37 => ?_)
    · skip
      refine ev_aload_n de_Mo_image_64 rfl rfl ?_
      refine ev_getfield de_Mo_image_65 rfl fl_Mo_39 rfl ?_
      refine ev_bipush de_Mo_image_68 rfl ?_
      refine ev_iaload de_Mo_image_70 rfl (by decide) (by decide) (by decide) ?_
      refine ev_top (b := ab_I (0)) rfl ?_
      exact ev_ireturn de_Mo_image_71 rfl ⟨rfl, rfl⟩
    · skip
      refine ev_aload_n de_Mo_image_40 rfl rfl ?_
      refine ev_getfield de_Mo_image_41 rfl fl_Mo_66 rfl ?_
      refine ev_sipush de_Mo_image_44 rfl ?_
      refine ev_iload_n de_Mo_image_47 rfl rfl ?_
      refine ev_imul de_Mo_image_48 ?_
      refine ev_top (b := ab_I (191)) rfl ?_
      refine ev_iload_n de_Mo_image_49 rfl rfl ?_
      refine ev_iadd de_Mo_image_50 ?_
      refine ev_aload_n de_Mo_image_51 rfl rfl ?_
      refine ev_getfield de_Mo_image_52 rfl fl_Mo_39 rfl ?_
      refine ev_iload_n de_Mo_image_55 rfl rfl ?_
      refine ev_iaload de_Mo_image_56 rfl (by omega) (by omega) (by omega) ?_
      refine ev_top (b := ab_I (0)) rfl ?_
      refine ev_iastore de_Mo_image_57 rfl (by omega) (by omega) (by omega) ?_
      refine ev_world (w' := (((((((((((((((fw_0.set 30 (ab_ai 2 4 (ab_up (fun _ => 0) (1) (1)))).set 69 (ab_ai 0 7 (ab_cp (fun _ => 0) (fun _ => 0) 0 0 7))).set 70 (ab_ai 0 7 (ab_cp (fun _ => 0) (fun _ => 0) 0 0 7))).set 71 (ab_ai 0 7 (ab_cp (fun _ => 0) (fun _ => 0) 0 0 7))).set 72 (ab_ai 0 35 (ab_cp (fun _ => 0) (fun _ => 0) 0 0 35))).set 73 (ab_al 24 (ab_cp (fun _ => 0) (fun _ => 0) 0 0 24))).set 74 (ab_ai 0 24 (ab_cp (fun _ => 0) (fun _ => 0) 0 0 24))).set 75 (ab_ai 0 12 (ab_cp (fun _ => 0) (fun _ => 0) 0 0 12))).set 77 (ab_ai 0 10 (ab_cp (fun _ => 0) (fun _ => 0) 0 0 10))).set 78 (ab_ai 0 10 (ab_cp (fun _ => 0) (fun _ => 0) 0 0 10))).set 79 (ab_ai 0 10 (ab_cp (fun _ => 0) (fun _ => 0) 0 0 10))).set 80 (ab_ai 0 10 (ab_cp (fun _ => 0) (fun _ => 0) 0 0 10))).set 126 (ab_ai 0 764 (_))).set 127 (ab_ai 0 4 (ab_up (fun _ => 0) (1) (0)))).set 128 (ab_ai 2 4 (ab_up (fun _ => 0) (1) (1))))) rfl ?_
      refine ev_iinc (l' := [_, _, _]) de_Mo_image_58 rfl rfl ?_
      refine ev_goto (tgt := 33) de_Mo_image_61 (by decide) ?_
      exact ih (i + 1) _ (by omega) (by omega) (by omega)
set_option maxHeartbeats 4000000 in
set_option maxRecDepth 20000 in
theorem yy_image_1  : ab_Mt g_G g_rs mt_Mo_image 1 0 0 [ab_R (107), ab_I (1)] ((((((((((((fw_0.set 30 (ab_ai 2 4 (ab_up (fun _ => 0) (1) (1)))).set 69 (ab_ai 0 7 (ab_cp (fun _ => 0) (fun _ => 0) 0 0 7))).set 70 (ab_ai 0 7 (ab_cp (fun _ => 0) (fun _ => 0) 0 0 7))).set 71 (ab_ai 0 7 (ab_cp (fun _ => 0) (fun _ => 0) 0 0 7))).set 72 (ab_ai 0 35 (ab_cp (fun _ => 0) (fun _ => 0) 0 0 35))).set 73 (ab_al 24 (ab_cp (fun _ => 0) (fun _ => 0) 0 0 24))).set 74 (ab_ai 0 24 (ab_cp (fun _ => 0) (fun _ => 0) 0 0 24))).set 75 (ab_ai 0 12 (ab_cp (fun _ => 0) (fun _ => 0) 0 0 12))).set 77 (ab_ai 0 10 (ab_cp (fun _ => 0) (fun _ => 0) 0 0 10))).set 78 (ab_ai 0 10 (ab_cp (fun _ => 0) (fun _ => 0) 0 0 10))).set 79 (ab_ai 0 10 (ab_cp (fun _ => 0) (fun _ => 0) 0 0 10))).set 80 (ab_ai 0 10 (ab_cp (fun _ => 0) (fun _ => 0) 0 0 10))) (fun r w2 => r = some (ab_I 0) ∧ w2.length = ((((((((((((fw_0.set 30 (ab_ai 2 4 (ab_up (fun _ => 0) (1) (1)))).set 69 (ab_ai 0 7 (ab_cp (fun _ => 0) (fun _ => 0) 0 0 7))).set 70 (ab_ai 0 7 (ab_cp (fun _ => 0) (fun _ => 0) 0 0 7))).set 71 (ab_ai 0 7 (ab_cp (fun _ => 0) (fun _ => 0) 0 0 7))).set 72 (ab_ai 0 35 (ab_cp (fun _ => 0) (fun _ => 0) 0 0 35))).set 73 (ab_al 24 (ab_cp (fun _ => 0) (fun _ => 0) 0 0 24))).set 74 (ab_ai 0 24 (ab_cp (fun _ => 0) (fun _ => 0) 0 0 24))).set 75 (ab_ai 0 12 (ab_cp (fun _ => 0) (fun _ => 0) 0 0 12))).set 77 (ab_ai 0 10 (ab_cp (fun _ => 0) (fun _ => 0) 0 0 10))).set 78 (ab_ai 0 10 (ab_cp (fun _ => 0) (fun _ => 0) 0 0 10))).set 79 (ab_ai 0 10 (ab_cp (fun _ => 0) (fun _ => 0) 0 0 10))).set 80 (ab_ai 0 10 (ab_cp (fun _ => 0) (fun _ => 0) 0 0 10))).length) := by
  refine ab_Mt.of rfl (Nat.le_of_ble_eq_true rfl) ?_
  show ab_Ev g_G g_rs mt_Mo_image _ _ _ 0 [some (ab_R (107)), some (ab_I (1)), none] [] _ _
  refine ev_iload_n de_Mo_image_0 rfl rfl ?_
  refine ev_i2l de_Mo_image_1 (by decide) ?_
  refine ev_lconsti (n := 0) de_Mo_image_2 (by decide) ?_
  refine ev_ldc2i (n := 3) de_Mo_image_3 cn_Mo_352 (by decide) ?_
  refine ev_sv de_Mo_image_6 (co_Mo_in _ ((1)) (0) (3) (by first | decide | omega) (by decide) (by decide)) kb_Mo_115 sc_Mo_in rfl (Nat.le_of_ble_eq_true rfl) (by decide) rfl ?_
  refine ev_top (b := ab_I 1) (congrArg Sum.inl (if_pos (by first | decide | omega))) ?_
  refine ev_if_ne (tgt := 14) de_Mo_image_9 (by decide) (by decide) (fun _ => ?_) (fun h => absurd h (by decide))
  refine ev_aload_n de_Mo_image_14 rfl rfl ?_
  refine ev_getfield de_Mo_image_15 rfl fl_Mo_72 rfl ?_
  refine ev_iload_n de_Mo_image_18 rfl rfl ?_
  refine ev_iconst de_Mo_image_19 ?_
  refine ev_zastore de_Mo_image_20 rfl (by decide) (by decide) (by decide) (by decide) ?_
  refine ev_world (w' := (((((((((((((fw_0.set 30 (ab_ai 2 4 (ab_up (fun _ => 0) (1) (1)))).set 69 (ab_ai 0 7 (ab_cp (fun _ => 0) (fun _ => 0) 0 0 7))).set 70 (ab_ai 0 7 (ab_cp (fun _ => 0) (fun _ => 0) 0 0 7))).set 71 (ab_ai 0 7 (ab_cp (fun _ => 0) (fun _ => 0) 0 0 7))).set 72 (ab_ai 0 35 (ab_cp (fun _ => 0) (fun _ => 0) 0 0 35))).set 73 (ab_al 24 (ab_cp (fun _ => 0) (fun _ => 0) 0 0 24))).set 74 (ab_ai 0 24 (ab_cp (fun _ => 0) (fun _ => 0) 0 0 24))).set 75 (ab_ai 0 12 (ab_cp (fun _ => 0) (fun _ => 0) 0 0 12))).set 77 (ab_ai 0 10 (ab_cp (fun _ => 0) (fun _ => 0) 0 0 10))).set 78 (ab_ai 0 10 (ab_cp (fun _ => 0) (fun _ => 0) 0 0 10))).set 79 (ab_ai 0 10 (ab_cp (fun _ => 0) (fun _ => 0) 0 0 10))).set 80 (ab_ai 0 10 (ab_cp (fun _ => 0) (fun _ => 0) 0 0 10))).set 128 (ab_ai 2 4 (ab_up (fun _ => 0) (1) (1))))) rfl ?_
  refine ev_aload_n de_Mo_image_21 rfl rfl ?_
  refine ev_getfield de_Mo_image_22 rfl fl_Mo_69 rfl ?_
  refine ev_iload_n de_Mo_image_25 rfl rfl ?_
  refine ev_aload_n de_Mo_image_26 rfl rfl ?_
  refine ev_getfield de_Mo_image_27 rfl fl_Mo_465 rfl ?_
  refine ev_iastore de_Mo_image_30 rfl (by decide) (by decide) (by decide) ?_
  refine ev_world (w' := ((((((((((((((fw_0.set 30 (ab_ai 2 4 (ab_up (fun _ => 0) (1) (1)))).set 69 (ab_ai 0 7 (ab_cp (fun _ => 0) (fun _ => 0) 0 0 7))).set 70 (ab_ai 0 7 (ab_cp (fun _ => 0) (fun _ => 0) 0 0 7))).set 71 (ab_ai 0 7 (ab_cp (fun _ => 0) (fun _ => 0) 0 0 7))).set 72 (ab_ai 0 35 (ab_cp (fun _ => 0) (fun _ => 0) 0 0 35))).set 73 (ab_al 24 (ab_cp (fun _ => 0) (fun _ => 0) 0 0 24))).set 74 (ab_ai 0 24 (ab_cp (fun _ => 0) (fun _ => 0) 0 0 24))).set 75 (ab_ai 0 12 (ab_cp (fun _ => 0) (fun _ => 0) 0 0 12))).set 77 (ab_ai 0 10 (ab_cp (fun _ => 0) (fun _ => 0) 0 0 10))).set 78 (ab_ai 0 10 (ab_cp (fun _ => 0) (fun _ => 0) 0 0 10))).set 79 (ab_ai 0 10 (ab_cp (fun _ => 0) (fun _ => 0) 0 0 10))).set 80 (ab_ai 0 10 (ab_cp (fun _ => 0) (fun _ => 0) 0 0 10))).set 127 (ab_ai 0 4 (ab_up (fun _ => 0) (1) (0)))).set 128 (ab_ai 2 4 (ab_up (fun _ => 0) (1) (1))))) rfl ?_
  refine ev_iconst de_Mo_image_31 ?_
  refine ev_istore_n (l' := [_, _, _]) de_Mo_image_32 rfl (Nat.le_of_ble_eq_true rfl) rfl ?_
  refine ev_world (w' := (((((((((((((((fw_0.set 30 (ab_ai 2 4 (ab_up (fun _ => 0) (1) (1)))).set 69 (ab_ai 0 7 (ab_cp (fun _ => 0) (fun _ => 0) 0 0 7))).set 70 (ab_ai 0 7 (ab_cp (fun _ => 0) (fun _ => 0) 0 0 7))).set 71 (ab_ai 0 7 (ab_cp (fun _ => 0) (fun _ => 0) 0 0 7))).set 72 (ab_ai 0 35 (ab_cp (fun _ => 0) (fun _ => 0) 0 0 35))).set 73 (ab_al 24 (ab_cp (fun _ => 0) (fun _ => 0) 0 0 24))).set 74 (ab_ai 0 24 (ab_cp (fun _ => 0) (fun _ => 0) 0 0 24))).set 75 (ab_ai 0 12 (ab_cp (fun _ => 0) (fun _ => 0) 0 0 12))).set 77 (ab_ai 0 10 (ab_cp (fun _ => 0) (fun _ => 0) 0 0 10))).set 78 (ab_ai 0 10 (ab_cp (fun _ => 0) (fun _ => 0) 0 0 10))).set 79 (ab_ai 0 10 (ab_cp (fun _ => 0) (fun _ => 0) 0 0 10))).set 80 (ab_ai 0 10 (ab_cp (fun _ => 0) (fun _ => 0) 0 0 10))).set 126 (ab_ai 0 764 (fun _ => 0))).set 127 (ab_ai 0 4 (ab_up (fun _ => 0) (1) (0)))).set 128 (ab_ai 2 4 (ab_up (fun _ => 0) (1) (1))))) rfl ?_
  exact lp_image_1 192 0 _ (by omega) (by omega) (by omega)
set_option maxHeartbeats 4000000 in
set_option maxRecDepth 20000 in
theorem lp_image_2 : ∀ (n : Nat) (i : Int) (f : Int → Int), 0 ≤ i → i ≤ 191 → 191 < i + n → ab_Ev g_G g_rs mt_Mo_image 1 0 0 33 [some (ab_R (107)), some (ab_I (2)), some (ab_I (i))] [] (((((((((((((((fw_0.set 30 (ab_ai 2 4 (ab_up (fun _ => 0) (2) (1)))).set 82 (ab_ai 0 7 (ab_cp (fun _ => 0) (fun _ => 0) 0 0 7))).set 83 (ab_ai 0 7 (ab_cp (fun _ => 0) (fun _ => 0) 0 0 7))).set 84 (ab_ai 0 7 (ab_cp (fun _ => 0) (fun _ => 0) 0 0 7))).set 85 (ab_ai 0 35 (ab_cp (fun _ => 0) (fun _ => 0) 0 0 35))).set 86 (ab_al 24 (ab_cp (fun _ => 0) (fun _ => 0) 0 0 24))).set 87 (ab_ai 0 24 (ab_cp (fun _ => 0) (fun _ => 0) 0 0 24))).set 88 (ab_ai 0 12 (ab_cp (fun _ => 0) (fun _ => 0) 0 0 12))).set 90 (ab_ai 0 10 (ab_cp (fun _ => 0) (fun _ => 0) 0 0 10))).set 91 (ab_ai 0 10 (ab_cp (fun _ => 0) (fun _ => 0) 0 0 10))).set 92 (ab_ai 0 10 (ab_cp (fun _ => 0) (fun _ => 0) 0 0 10))).set 93 (ab_ai 0 10 (ab_cp (fun _ => 0) (fun _ => 0) 0 0 10))).set 126 (ab_ai 0 764 (f))).set 127 (ab_ai 0 4 (ab_up (fun _ => 0) (2) (0)))).set 128 (ab_ai 2 4 (ab_up (fun _ => 0) (2) (1)))) (fun r w2 => r = some (ab_I 0) ∧ w2.length = ((((((((((((fw_0.set 30 (ab_ai 2 4 (ab_up (fun _ => 0) (2) (1)))).set 82 (ab_ai 0 7 (ab_cp (fun _ => 0) (fun _ => 0) 0 0 7))).set 83 (ab_ai 0 7 (ab_cp (fun _ => 0) (fun _ => 0) 0 0 7))).set 84 (ab_ai 0 7 (ab_cp (fun _ => 0) (fun _ => 0) 0 0 7))).set 85 (ab_ai 0 35 (ab_cp (fun _ => 0) (fun _ => 0) 0 0 35))).set 86 (ab_al 24 (ab_cp (fun _ => 0) (fun _ => 0) 0 0 24))).set 87 (ab_ai 0 24 (ab_cp (fun _ => 0) (fun _ => 0) 0 0 24))).set 88 (ab_ai 0 12 (ab_cp (fun _ => 0) (fun _ => 0) 0 0 12))).set 90 (ab_ai 0 10 (ab_cp (fun _ => 0) (fun _ => 0) 0 0 10))).set 91 (ab_ai 0 10 (ab_cp (fun _ => 0) (fun _ => 0) 0 0 10))).set 92 (ab_ai 0 10 (ab_cp (fun _ => 0) (fun _ => 0) 0 0 10))).set 93 (ab_ai 0 10 (ab_cp (fun _ => 0) (fun _ => 0) 0 0 10))).length) := by
  intro n
  induction n with
  | zero =>
    intro i f h1 h2 h3
    omega
  | succ n ih =>
    intro i f h1 h2 h3
    refine ev_iload_n de_Mo_image_33 rfl rfl ?_
    refine ev_sipush de_Mo_image_34 rfl ?_
    refine ev_icmp_ge (tgt := 64) de_Mo_image_37 (by decide) (by omega) (by decide) (fun h37 => ?_) (fun h37 => ?_)
    · skip
      refine ev_aload_n de_Mo_image_64 rfl rfl ?_
      refine ev_getfield de_Mo_image_65 rfl fl_Mo_39 rfl ?_
      refine ev_bipush de_Mo_image_68 rfl ?_
      refine ev_iaload de_Mo_image_70 rfl (by decide) (by decide) (by decide) ?_
      refine ev_top (b := ab_I (0)) rfl ?_
      exact ev_ireturn de_Mo_image_71 rfl ⟨rfl, rfl⟩
    · skip
      refine ev_aload_n de_Mo_image_40 rfl rfl ?_
      refine ev_getfield de_Mo_image_41 rfl fl_Mo_66 rfl ?_
      refine ev_sipush de_Mo_image_44 rfl ?_
      refine ev_iload_n de_Mo_image_47 rfl rfl ?_
      refine ev_imul de_Mo_image_48 ?_
      refine ev_top (b := ab_I (382)) rfl ?_
      refine ev_iload_n de_Mo_image_49 rfl rfl ?_
      refine ev_iadd de_Mo_image_50 ?_
      refine ev_aload_n de_Mo_image_51 rfl rfl ?_
      refine ev_getfield de_Mo_image_52 rfl fl_Mo_39 rfl ?_
      refine ev_iload_n de_Mo_image_55 rfl rfl ?_
      refine ev_iaload de_Mo_image_56 rfl (by omega) (by omega) (by omega) ?_
      refine ev_top (b := ab_I (0)) rfl ?_
      refine ev_iastore de_Mo_image_57 rfl (by omega) (by omega) (by omega) ?_
      refine ev_world (w' := (((((((((((((((fw_0.set 30 (ab_ai 2 4 (ab_up (fun _ => 0) (2) (1)))).set 82 (ab_ai 0 7 (ab_cp (fun _ => 0) (fun _ => 0) 0 0 7))).set 83 (ab_ai 0 7 (ab_cp (fun _ => 0) (fun _ => 0) 0 0 7))).set 84 (ab_ai 0 7 (ab_cp (fun _ => 0) (fun _ => 0) 0 0 7))).set 85 (ab_ai 0 35 (ab_cp (fun _ => 0) (fun _ => 0) 0 0 35))).set 86 (ab_al 24 (ab_cp (fun _ => 0) (fun _ => 0) 0 0 24))).set 87 (ab_ai 0 24 (ab_cp (fun _ => 0) (fun _ => 0) 0 0 24))).set 88 (ab_ai 0 12 (ab_cp (fun _ => 0) (fun _ => 0) 0 0 12))).set 90 (ab_ai 0 10 (ab_cp (fun _ => 0) (fun _ => 0) 0 0 10))).set 91 (ab_ai 0 10 (ab_cp (fun _ => 0) (fun _ => 0) 0 0 10))).set 92 (ab_ai 0 10 (ab_cp (fun _ => 0) (fun _ => 0) 0 0 10))).set 93 (ab_ai 0 10 (ab_cp (fun _ => 0) (fun _ => 0) 0 0 10))).set 126 (ab_ai 0 764 (_))).set 127 (ab_ai 0 4 (ab_up (fun _ => 0) (2) (0)))).set 128 (ab_ai 2 4 (ab_up (fun _ => 0) (2) (1))))) rfl ?_
      refine ev_iinc (l' := [_, _, _]) de_Mo_image_58 rfl rfl ?_
      refine ev_goto (tgt := 33) de_Mo_image_61 (by decide) ?_
      exact ih (i + 1) _ (by omega) (by omega) (by omega)
set_option maxHeartbeats 4000000 in
set_option maxRecDepth 20000 in
theorem yy_image_2  : ab_Mt g_G g_rs mt_Mo_image 1 0 0 [ab_R (107), ab_I (2)] ((((((((((((fw_0.set 30 (ab_ai 2 4 (ab_up (fun _ => 0) (2) (1)))).set 82 (ab_ai 0 7 (ab_cp (fun _ => 0) (fun _ => 0) 0 0 7))).set 83 (ab_ai 0 7 (ab_cp (fun _ => 0) (fun _ => 0) 0 0 7))).set 84 (ab_ai 0 7 (ab_cp (fun _ => 0) (fun _ => 0) 0 0 7))).set 85 (ab_ai 0 35 (ab_cp (fun _ => 0) (fun _ => 0) 0 0 35))).set 86 (ab_al 24 (ab_cp (fun _ => 0) (fun _ => 0) 0 0 24))).set 87 (ab_ai 0 24 (ab_cp (fun _ => 0) (fun _ => 0) 0 0 24))).set 88 (ab_ai 0 12 (ab_cp (fun _ => 0) (fun _ => 0) 0 0 12))).set 90 (ab_ai 0 10 (ab_cp (fun _ => 0) (fun _ => 0) 0 0 10))).set 91 (ab_ai 0 10 (ab_cp (fun _ => 0) (fun _ => 0) 0 0 10))).set 92 (ab_ai 0 10 (ab_cp (fun _ => 0) (fun _ => 0) 0 0 10))).set 93 (ab_ai 0 10 (ab_cp (fun _ => 0) (fun _ => 0) 0 0 10))) (fun r w2 => r = some (ab_I 0) ∧ w2.length = ((((((((((((fw_0.set 30 (ab_ai 2 4 (ab_up (fun _ => 0) (2) (1)))).set 82 (ab_ai 0 7 (ab_cp (fun _ => 0) (fun _ => 0) 0 0 7))).set 83 (ab_ai 0 7 (ab_cp (fun _ => 0) (fun _ => 0) 0 0 7))).set 84 (ab_ai 0 7 (ab_cp (fun _ => 0) (fun _ => 0) 0 0 7))).set 85 (ab_ai 0 35 (ab_cp (fun _ => 0) (fun _ => 0) 0 0 35))).set 86 (ab_al 24 (ab_cp (fun _ => 0) (fun _ => 0) 0 0 24))).set 87 (ab_ai 0 24 (ab_cp (fun _ => 0) (fun _ => 0) 0 0 24))).set 88 (ab_ai 0 12 (ab_cp (fun _ => 0) (fun _ => 0) 0 0 12))).set 90 (ab_ai 0 10 (ab_cp (fun _ => 0) (fun _ => 0) 0 0 10))).set 91 (ab_ai 0 10 (ab_cp (fun _ => 0) (fun _ => 0) 0 0 10))).set 92 (ab_ai 0 10 (ab_cp (fun _ => 0) (fun _ => 0) 0 0 10))).set 93 (ab_ai 0 10 (ab_cp (fun _ => 0) (fun _ => 0) 0 0 10))).length) := by
  refine ab_Mt.of rfl (Nat.le_of_ble_eq_true rfl) ?_
  show ab_Ev g_G g_rs mt_Mo_image _ _ _ 0 [some (ab_R (107)), some (ab_I (2)), none] [] _ _
  refine ev_iload_n de_Mo_image_0 rfl rfl ?_
  refine ev_i2l de_Mo_image_1 (by decide) ?_
  refine ev_lconsti (n := 0) de_Mo_image_2 (by decide) ?_
  refine ev_ldc2i (n := 3) de_Mo_image_3 cn_Mo_352 (by decide) ?_
  refine ev_sv de_Mo_image_6 (co_Mo_in _ ((2)) (0) (3) (by first | decide | omega) (by decide) (by decide)) kb_Mo_115 sc_Mo_in rfl (Nat.le_of_ble_eq_true rfl) (by decide) rfl ?_
  refine ev_top (b := ab_I 1) (congrArg Sum.inl (if_pos (by first | decide | omega))) ?_
  refine ev_if_ne (tgt := 14) de_Mo_image_9 (by decide) (by decide) (fun _ => ?_) (fun h => absurd h (by decide))
  refine ev_aload_n de_Mo_image_14 rfl rfl ?_
  refine ev_getfield de_Mo_image_15 rfl fl_Mo_72 rfl ?_
  refine ev_iload_n de_Mo_image_18 rfl rfl ?_
  refine ev_iconst de_Mo_image_19 ?_
  refine ev_zastore de_Mo_image_20 rfl (by decide) (by decide) (by decide) (by decide) ?_
  refine ev_world (w' := (((((((((((((fw_0.set 30 (ab_ai 2 4 (ab_up (fun _ => 0) (2) (1)))).set 82 (ab_ai 0 7 (ab_cp (fun _ => 0) (fun _ => 0) 0 0 7))).set 83 (ab_ai 0 7 (ab_cp (fun _ => 0) (fun _ => 0) 0 0 7))).set 84 (ab_ai 0 7 (ab_cp (fun _ => 0) (fun _ => 0) 0 0 7))).set 85 (ab_ai 0 35 (ab_cp (fun _ => 0) (fun _ => 0) 0 0 35))).set 86 (ab_al 24 (ab_cp (fun _ => 0) (fun _ => 0) 0 0 24))).set 87 (ab_ai 0 24 (ab_cp (fun _ => 0) (fun _ => 0) 0 0 24))).set 88 (ab_ai 0 12 (ab_cp (fun _ => 0) (fun _ => 0) 0 0 12))).set 90 (ab_ai 0 10 (ab_cp (fun _ => 0) (fun _ => 0) 0 0 10))).set 91 (ab_ai 0 10 (ab_cp (fun _ => 0) (fun _ => 0) 0 0 10))).set 92 (ab_ai 0 10 (ab_cp (fun _ => 0) (fun _ => 0) 0 0 10))).set 93 (ab_ai 0 10 (ab_cp (fun _ => 0) (fun _ => 0) 0 0 10))).set 128 (ab_ai 2 4 (ab_up (fun _ => 0) (2) (1))))) rfl ?_
  refine ev_aload_n de_Mo_image_21 rfl rfl ?_
  refine ev_getfield de_Mo_image_22 rfl fl_Mo_69 rfl ?_
  refine ev_iload_n de_Mo_image_25 rfl rfl ?_
  refine ev_aload_n de_Mo_image_26 rfl rfl ?_
  refine ev_getfield de_Mo_image_27 rfl fl_Mo_465 rfl ?_
  refine ev_iastore de_Mo_image_30 rfl (by decide) (by decide) (by decide) ?_
  refine ev_world (w' := ((((((((((((((fw_0.set 30 (ab_ai 2 4 (ab_up (fun _ => 0) (2) (1)))).set 82 (ab_ai 0 7 (ab_cp (fun _ => 0) (fun _ => 0) 0 0 7))).set 83 (ab_ai 0 7 (ab_cp (fun _ => 0) (fun _ => 0) 0 0 7))).set 84 (ab_ai 0 7 (ab_cp (fun _ => 0) (fun _ => 0) 0 0 7))).set 85 (ab_ai 0 35 (ab_cp (fun _ => 0) (fun _ => 0) 0 0 35))).set 86 (ab_al 24 (ab_cp (fun _ => 0) (fun _ => 0) 0 0 24))).set 87 (ab_ai 0 24 (ab_cp (fun _ => 0) (fun _ => 0) 0 0 24))).set 88 (ab_ai 0 12 (ab_cp (fun _ => 0) (fun _ => 0) 0 0 12))).set 90 (ab_ai 0 10 (ab_cp (fun _ => 0) (fun _ => 0) 0 0 10))).set 91 (ab_ai 0 10 (ab_cp (fun _ => 0) (fun _ => 0) 0 0 10))).set 92 (ab_ai 0 10 (ab_cp (fun _ => 0) (fun _ => 0) 0 0 10))).set 93 (ab_ai 0 10 (ab_cp (fun _ => 0) (fun _ => 0) 0 0 10))).set 127 (ab_ai 0 4 (ab_up (fun _ => 0) (2) (0)))).set 128 (ab_ai 2 4 (ab_up (fun _ => 0) (2) (1))))) rfl ?_
  refine ev_iconst de_Mo_image_31 ?_
  refine ev_istore_n (l' := [_, _, _]) de_Mo_image_32 rfl (Nat.le_of_ble_eq_true rfl) rfl ?_
  refine ev_world (w' := (((((((((((((((fw_0.set 30 (ab_ai 2 4 (ab_up (fun _ => 0) (2) (1)))).set 82 (ab_ai 0 7 (ab_cp (fun _ => 0) (fun _ => 0) 0 0 7))).set 83 (ab_ai 0 7 (ab_cp (fun _ => 0) (fun _ => 0) 0 0 7))).set 84 (ab_ai 0 7 (ab_cp (fun _ => 0) (fun _ => 0) 0 0 7))).set 85 (ab_ai 0 35 (ab_cp (fun _ => 0) (fun _ => 0) 0 0 35))).set 86 (ab_al 24 (ab_cp (fun _ => 0) (fun _ => 0) 0 0 24))).set 87 (ab_ai 0 24 (ab_cp (fun _ => 0) (fun _ => 0) 0 0 24))).set 88 (ab_ai 0 12 (ab_cp (fun _ => 0) (fun _ => 0) 0 0 12))).set 90 (ab_ai 0 10 (ab_cp (fun _ => 0) (fun _ => 0) 0 0 10))).set 91 (ab_ai 0 10 (ab_cp (fun _ => 0) (fun _ => 0) 0 0 10))).set 92 (ab_ai 0 10 (ab_cp (fun _ => 0) (fun _ => 0) 0 0 10))).set 93 (ab_ai 0 10 (ab_cp (fun _ => 0) (fun _ => 0) 0 0 10))).set 126 (ab_ai 0 764 (fun _ => 0))).set 127 (ab_ai 0 4 (ab_up (fun _ => 0) (2) (0)))).set 128 (ab_ai 2 4 (ab_up (fun _ => 0) (2) (1))))) rfl ?_
  exact lp_image_2 192 0 _ (by omega) (by omega) (by omega)
set_option maxHeartbeats 4000000 in
set_option maxRecDepth 20000 in
theorem lp_image_3 : ∀ (n : Nat) (i : Int) (f : Int → Int), 0 ≤ i → i ≤ 191 → 191 < i + n → ab_Ev g_G g_rs mt_Mo_image 1 0 0 33 [some (ab_R (107)), some (ab_I (3)), some (ab_I (i))] [] (((((((((((((((fw_0.set 30 (ab_ai 2 4 (ab_up (fun _ => 0) (3) (1)))).set 95 (ab_ai 0 7 (ab_cp (fun _ => 0) (fun _ => 0) 0 0 7))).set 96 (ab_ai 0 7 (ab_cp (fun _ => 0) (fun _ => 0) 0 0 7))).set 97 (ab_ai 0 7 (ab_cp (fun _ => 0) (fun _ => 0) 0 0 7))).set 98 (ab_ai 0 35 (ab_cp (fun _ => 0) (fun _ => 0) 0 0 35))).set 99 (ab_al 24 (ab_cp (fun _ => 0) (fun _ => 0) 0 0 24))).set 100 (ab_ai 0 24 (ab_cp (fun _ => 0) (fun _ => 0) 0 0 24))).set 101 (ab_ai 0 12 (ab_cp (fun _ => 0) (fun _ => 0) 0 0 12))).set 103 (ab_ai 0 10 (ab_cp (fun _ => 0) (fun _ => 0) 0 0 10))).set 104 (ab_ai 0 10 (ab_cp (fun _ => 0) (fun _ => 0) 0 0 10))).set 105 (ab_ai 0 10 (ab_cp (fun _ => 0) (fun _ => 0) 0 0 10))).set 106 (ab_ai 0 10 (ab_cp (fun _ => 0) (fun _ => 0) 0 0 10))).set 126 (ab_ai 0 764 (f))).set 127 (ab_ai 0 4 (ab_up (fun _ => 0) (3) (0)))).set 128 (ab_ai 2 4 (ab_up (fun _ => 0) (3) (1)))) (fun r w2 => r = some (ab_I 0) ∧ w2.length = ((((((((((((fw_0.set 30 (ab_ai 2 4 (ab_up (fun _ => 0) (3) (1)))).set 95 (ab_ai 0 7 (ab_cp (fun _ => 0) (fun _ => 0) 0 0 7))).set 96 (ab_ai 0 7 (ab_cp (fun _ => 0) (fun _ => 0) 0 0 7))).set 97 (ab_ai 0 7 (ab_cp (fun _ => 0) (fun _ => 0) 0 0 7))).set 98 (ab_ai 0 35 (ab_cp (fun _ => 0) (fun _ => 0) 0 0 35))).set 99 (ab_al 24 (ab_cp (fun _ => 0) (fun _ => 0) 0 0 24))).set 100 (ab_ai 0 24 (ab_cp (fun _ => 0) (fun _ => 0) 0 0 24))).set 101 (ab_ai 0 12 (ab_cp (fun _ => 0) (fun _ => 0) 0 0 12))).set 103 (ab_ai 0 10 (ab_cp (fun _ => 0) (fun _ => 0) 0 0 10))).set 104 (ab_ai 0 10 (ab_cp (fun _ => 0) (fun _ => 0) 0 0 10))).set 105 (ab_ai 0 10 (ab_cp (fun _ => 0) (fun _ => 0) 0 0 10))).set 106 (ab_ai 0 10 (ab_cp (fun _ => 0) (fun _ => 0) 0 0 10))).length) := by
  intro n
  induction n with
  | zero =>
    intro i f h1 h2 h3
    omega
  | succ n ih =>
    intro i f h1 h2 h3
    refine ev_iload_n de_Mo_image_33 rfl rfl ?_
    refine ev_sipush de_Mo_image_34 rfl ?_
    refine ev_icmp_ge (tgt := 64) de_Mo_image_37 (by decide) (by omega) (by decide) (fun h37 => ?_) (fun h37 => ?_)
    · skip
      refine ev_aload_n de_Mo_image_64 rfl rfl ?_
      refine ev_getfield de_Mo_image_65 rfl fl_Mo_39 rfl ?_
      refine ev_bipush de_Mo_image_68 rfl ?_
      refine ev_iaload de_Mo_image_70 rfl (by decide) (by decide) (by decide) ?_
      refine ev_top (b := ab_I (0)) rfl ?_
      exact ev_ireturn de_Mo_image_71 rfl ⟨rfl, rfl⟩
    · skip
      refine ev_aload_n de_Mo_image_40 rfl rfl ?_
      refine ev_getfield de_Mo_image_41 rfl fl_Mo_66 rfl ?_
      refine ev_sipush de_Mo_image_44 rfl ?_
      refine ev_iload_n de_Mo_image_47 rfl rfl ?_
      refine ev_imul de_Mo_image_48 ?_
      refine ev_top (b := ab_I (573)) rfl ?_
      refine ev_iload_n de_Mo_image_49 rfl rfl ?_
      refine ev_iadd de_Mo_image_50 ?_
      refine ev_aload_n de_Mo_image_51 rfl rfl ?_
      refine ev_getfield de_Mo_image_52 rfl fl_Mo_39 rfl ?_
      refine ev_iload_n de_Mo_image_55 rfl rfl ?_
      refine ev_iaload de_Mo_image_56 rfl (by omega) (by omega) (by omega) ?_
      refine ev_top (b := ab_I (0)) rfl ?_
      refine ev_iastore de_Mo_image_57 rfl (by omega) (by omega) (by omega) ?_
      refine ev_world (w' := (((((((((((((((fw_0.set 30 (ab_ai 2 4 (ab_up (fun _ => 0) (3) (1)))).set 95 (ab_ai 0 7 (ab_cp (fun _ => 0) (fun _ => 0) 0 0 7))).set 96 (ab_ai 0 7 (ab_cp (fun _ => 0) (fun _ => 0) 0 0 7))).set 97 (ab_ai 0 7 (ab_cp (fun _ => 0) (fun _ => 0) 0 0 7))).set 98 (ab_ai 0 35 (ab_cp (fun _ => 0) (fun _ => 0) 0 0 35))).set 99 (ab_al 24 (ab_cp (fun _ => 0) (fun _ => 0) 0 0 24))).set 100 (ab_ai 0 24 (ab_cp (fun _ => 0) (fun _ => 0) 0 0 24))).set 101 (ab_ai 0 12 (ab_cp (fun _ => 0) (fun _ => 0) 0 0 12))).set 103 (ab_ai 0 10 (ab_cp (fun _ => 0) (fun _ => 0) 0 0 10))).set 104 (ab_ai 0 10 (ab_cp (fun _ => 0) (fun _ => 0) 0 0 10))).set 105 (ab_ai 0 10 (ab_cp (fun _ => 0) (fun _ => 0) 0 0 10))).set 106 (ab_ai 0 10 (ab_cp (fun _ => 0) (fun _ => 0) 0 0 10))).set 126 (ab_ai 0 764 (_))).set 127 (ab_ai 0 4 (ab_up (fun _ => 0) (3) (0)))).set 128 (ab_ai 2 4 (ab_up (fun _ => 0) (3) (1))))) rfl ?_
      refine ev_iinc (l' := [_, _, _]) de_Mo_image_58 rfl rfl ?_
      refine ev_goto (tgt := 33) de_Mo_image_61 (by decide) ?_
      exact ih (i + 1) _ (by omega) (by omega) (by omega)
set_option maxHeartbeats 4000000 in
set_option maxRecDepth 20000 in
theorem yy_image_3  : ab_Mt g_G g_rs mt_Mo_image 1 0 0 [ab_R (107), ab_I (3)] ((((((((((((fw_0.set 30 (ab_ai 2 4 (ab_up (fun _ => 0) (3) (1)))).set 95 (ab_ai 0 7 (ab_cp (fun _ => 0) (fun _ => 0) 0 0 7))).set 96 (ab_ai 0 7 (ab_cp (fun _ => 0) (fun _ => 0) 0 0 7))).set 97 (ab_ai 0 7 (ab_cp (fun _ => 0) (fun _ => 0) 0 0 7))).set 98 (ab_ai 0 35 (ab_cp (fun _ => 0) (fun _ => 0) 0 0 35))).set 99 (ab_al 24 (ab_cp (fun _ => 0) (fun _ => 0) 0 0 24))).set 100 (ab_ai 0 24 (ab_cp (fun _ => 0) (fun _ => 0) 0 0 24))).set 101 (ab_ai 0 12 (ab_cp (fun _ => 0) (fun _ => 0) 0 0 12))).set 103 (ab_ai 0 10 (ab_cp (fun _ => 0) (fun _ => 0) 0 0 10))).set 104 (ab_ai 0 10 (ab_cp (fun _ => 0) (fun _ => 0) 0 0 10))).set 105 (ab_ai 0 10 (ab_cp (fun _ => 0) (fun _ => 0) 0 0 10))).set 106 (ab_ai 0 10 (ab_cp (fun _ => 0) (fun _ => 0) 0 0 10))) (fun r w2 => r = some (ab_I 0) ∧ w2.length = ((((((((((((fw_0.set 30 (ab_ai 2 4 (ab_up (fun _ => 0) (3) (1)))).set 95 (ab_ai 0 7 (ab_cp (fun _ => 0) (fun _ => 0) 0 0 7))).set 96 (ab_ai 0 7 (ab_cp (fun _ => 0) (fun _ => 0) 0 0 7))).set 97 (ab_ai 0 7 (ab_cp (fun _ => 0) (fun _ => 0) 0 0 7))).set 98 (ab_ai 0 35 (ab_cp (fun _ => 0) (fun _ => 0) 0 0 35))).set 99 (ab_al 24 (ab_cp (fun _ => 0) (fun _ => 0) 0 0 24))).set 100 (ab_ai 0 24 (ab_cp (fun _ => 0) (fun _ => 0) 0 0 24))).set 101 (ab_ai 0 12 (ab_cp (fun _ => 0) (fun _ => 0) 0 0 12))).set 103 (ab_ai 0 10 (ab_cp (fun _ => 0) (fun _ => 0) 0 0 10))).set 104 (ab_ai 0 10 (ab_cp (fun _ => 0) (fun _ => 0) 0 0 10))).set 105 (ab_ai 0 10 (ab_cp (fun _ => 0) (fun _ => 0) 0 0 10))).set 106 (ab_ai 0 10 (ab_cp (fun _ => 0) (fun _ => 0) 0 0 10))).length) := by
  refine ab_Mt.of rfl (Nat.le_of_ble_eq_true rfl) ?_
  show ab_Ev g_G g_rs mt_Mo_image _ _ _ 0 [some (ab_R (107)), some (ab_I (3)), none] [] _ _
  refine ev_iload_n de_Mo_image_0 rfl rfl ?_
  refine ev_i2l de_Mo_image_1 (by decide) ?_
  refine ev_lconsti (n := 0) de_Mo_image_2 (by decide) ?_
  refine ev_ldc2i (n := 3) de_Mo_image_3 cn_Mo_352 (by decide) ?_
  refine ev_sv de_Mo_image_6 (co_Mo_in _ ((3)) (0) (3) (by first | decide | omega) (by decide) (by decide)) kb_Mo_115 sc_Mo_in rfl (Nat.le_of_ble_eq_true rfl) (by decide) rfl ?_
  refine ev_top (b := ab_I 1) (congrArg Sum.inl (if_pos (by first | decide | omega))) ?_
  refine ev_if_ne (tgt := 14) de_Mo_image_9 (by decide) (by decide) (fun _ => ?_) (fun h => absurd h (by decide))
  refine ev_aload_n de_Mo_image_14 rfl rfl ?_
  refine ev_getfield de_Mo_image_15 rfl fl_Mo_72 rfl ?_
  refine ev_iload_n de_Mo_image_18 rfl rfl ?_
  refine ev_iconst de_Mo_image_19 ?_
  refine ev_zastore de_Mo_image_20 rfl (by decide) (by decide) (by decide) (by decide) ?_
  refine ev_world (w' := (((((((((((((fw_0.set 30 (ab_ai 2 4 (ab_up (fun _ => 0) (3) (1)))).set 95 (ab_ai 0 7 (ab_cp (fun _ => 0) (fun _ => 0) 0 0 7))).set 96 (ab_ai 0 7 (ab_cp (fun _ => 0) (fun _ => 0) 0 0 7))).set 97 (ab_ai 0 7 (ab_cp (fun _ => 0) (fun _ => 0) 0 0 7))).set 98 (ab_ai 0 35 (ab_cp (fun _ => 0) (fun _ => 0) 0 0 35))).set 99 (ab_al 24 (ab_cp (fun _ => 0) (fun _ => 0) 0 0 24))).set 100 (ab_ai 0 24 (ab_cp (fun _ => 0) (fun _ => 0) 0 0 24))).set 101 (ab_ai 0 12 (ab_cp (fun _ => 0) (fun _ => 0) 0 0 12))).set 103 (ab_ai 0 10 (ab_cp (fun _ => 0) (fun _ => 0) 0 0 10))).set 104 (ab_ai 0 10 (ab_cp (fun _ => 0) (fun _ => 0) 0 0 10))).set 105 (ab_ai 0 10 (ab_cp (fun _ => 0) (fun _ => 0) 0 0 10))).set 106 (ab_ai 0 10 (ab_cp (fun _ => 0) (fun _ => 0) 0 0 10))).set 128 (ab_ai 2 4 (ab_up (fun _ => 0) (3) (1))))) rfl ?_
  refine ev_aload_n de_Mo_image_21 rfl rfl ?_
  refine ev_getfield de_Mo_image_22 rfl fl_Mo_69 rfl ?_
  refine ev_iload_n de_Mo_image_25 rfl rfl ?_
  refine ev_aload_n de_Mo_image_26 rfl rfl ?_
  refine ev_getfield de_Mo_image_27 rfl fl_Mo_465 rfl ?_
  refine ev_iastore de_Mo_image_30 rfl (by decide) (by decide) (by decide) ?_
  refine ev_world (w' := ((((((((((((((fw_0.set 30 (ab_ai 2 4 (ab_up (fun _ => 0) (3) (1)))).set 95 (ab_ai 0 7 (ab_cp (fun _ => 0) (fun _ => 0) 0 0 7))).set 96 (ab_ai 0 7 (ab_cp (fun _ => 0) (fun _ => 0) 0 0 7))).set 97 (ab_ai 0 7 (ab_cp (fun _ => 0) (fun _ => 0) 0 0 7))).set 98 (ab_ai 0 35 (ab_cp (fun _ => 0) (fun _ => 0) 0 0 35))).set 99 (ab_al 24 (ab_cp (fun _ => 0) (fun _ => 0) 0 0 24))).set 100 (ab_ai 0 24 (ab_cp (fun _ => 0) (fun _ => 0) 0 0 24))).set 101 (ab_ai 0 12 (ab_cp (fun _ => 0) (fun _ => 0) 0 0 12))).set 103 (ab_ai 0 10 (ab_cp (fun _ => 0) (fun _ => 0) 0 0 10))).set 104 (ab_ai 0 10 (ab_cp (fun _ => 0) (fun _ => 0) 0 0 10))).set 105 (ab_ai 0 10 (ab_cp (fun _ => 0) (fun _ => 0) 0 0 10))).set 106 (ab_ai 0 10 (ab_cp (fun _ => 0) (fun _ => 0) 0 0 10))).set 127 (ab_ai 0 4 (ab_up (fun _ => 0) (3) (0)))).set 128 (ab_ai 2 4 (ab_up (fun _ => 0) (3) (1))))) rfl ?_
  refine ev_iconst de_Mo_image_31 ?_
  refine ev_istore_n (l' := [_, _, _]) de_Mo_image_32 rfl (Nat.le_of_ble_eq_true rfl) rfl ?_
  refine ev_world (w' := (((((((((((((((fw_0.set 30 (ab_ai 2 4 (ab_up (fun _ => 0) (3) (1)))).set 95 (ab_ai 0 7 (ab_cp (fun _ => 0) (fun _ => 0) 0 0 7))).set 96 (ab_ai 0 7 (ab_cp (fun _ => 0) (fun _ => 0) 0 0 7))).set 97 (ab_ai 0 7 (ab_cp (fun _ => 0) (fun _ => 0) 0 0 7))).set 98 (ab_ai 0 35 (ab_cp (fun _ => 0) (fun _ => 0) 0 0 35))).set 99 (ab_al 24 (ab_cp (fun _ => 0) (fun _ => 0) 0 0 24))).set 100 (ab_ai 0 24 (ab_cp (fun _ => 0) (fun _ => 0) 0 0 24))).set 101 (ab_ai 0 12 (ab_cp (fun _ => 0) (fun _ => 0) 0 0 12))).set 103 (ab_ai 0 10 (ab_cp (fun _ => 0) (fun _ => 0) 0 0 10))).set 104 (ab_ai 0 10 (ab_cp (fun _ => 0) (fun _ => 0) 0 0 10))).set 105 (ab_ai 0 10 (ab_cp (fun _ => 0) (fun _ => 0) 0 0 10))).set 106 (ab_ai 0 10 (ab_cp (fun _ => 0) (fun _ => 0) 0 0 10))).set 126 (ab_ai 0 764 (fun _ => 0))).set 127 (ab_ai 0 4 (ab_up (fun _ => 0) (3) (0)))).set 128 (ab_ai 2 4 (ab_up (fun _ => 0) (3) (1))))) rfl ?_
  exact lp_image_3 192 0 _ (by omega) (by omega) (by omega)
