def fw_a : ab_W := [ab_ob 10 [ab_N, ab_N, ab_N, ab_N, ab_N, ab_N, ab_I (0), ab_N, ab_N, ab_N, ab_N, ab_N, ab_N]]
def fw_2 : ab_W := [ab_ob 10 [ab_N, ab_N, ab_N, ab_N, ab_N, ab_N, ab_I (0), ab_N, ab_N, ab_N, ab_N, ab_N, ab_N], ab_ob 8 [ab_N, ab_I (0), ab_I (0), ab_N, ab_I (0), ab_I (0), ab_I (0), ab_I (0), ab_I (0)]]
def fw_3 : ab_W := [ab_ob 10 [ab_N, ab_N, ab_N, ab_N, ab_N, ab_N, ab_I (0), ab_N, ab_N, ab_N, ab_N, ab_N, ab_N], ab_ob 8 [ab_R (2), ab_I (0), ab_I (0), ab_R (ab_sb + 0), ab_I (0), ab_I (0), ab_I (0), ab_I (0), ab_I (0)], ab_ai 1 400 (fun _ => 0)]
theorem de_Ta_init_0 : decode prog_11_method_1_code 0 = .ok (.aload_n 0, 1) := by decide +kernel
theorem de_Ta_init_1 : decode prog_11_method_1_code 1 = .ok (.invokespecial 3, 3) := by decide +kernel
theorem de_Ta_init_4 : decode prog_11_method_1_code 4 = .ok (.aload_n 0, 1) := by decide +kernel
theorem de_Ta_init_5 : decode prog_11_method_1_code 5 = .ok (.sipush 400, 3) := by decide +kernel
theorem de_Ta_init_8 : decode prog_11_method_1_code 8 = .ok (.newarray .byte, 2) := by decide +kernel
theorem de_Ta_init_10 : decode prog_11_method_1_code 10 = .ok (.putfield 9, 3) := by decide +kernel
theorem de_Ta_init_13 : decode prog_11_method_1_code 13 = .ok (.aload_n 0, 1) := by decide +kernel
theorem de_Ta_init_14 : decode prog_11_method_1_code 14 = .ok (.ldc 15, 2) := by decide +kernel
theorem de_Ta_init_16 : decode prog_11_method_1_code 16 = .ok (.putfield 17, 3) := by decide +kernel
theorem de_Ta_init_19 : decode prog_11_method_1_code 19 = .ok (.return_, 1) := by decide +kernel
set_option maxHeartbeats 4000000 in
set_option maxRecDepth 20000 in
theorem fx_2  : ab_Mt g_G g_rs mt_Ta_init 1 1 400 [ab_R (1)] fw_2 (ab_is none fw_3) := by
  refine ab_Mt.of rfl (Nat.le_of_ble_eq_true rfl) ?_
  show ab_Ev g_G g_rs mt_Ta_init _ _ _ 0 [some (ab_R (1))] [] _ _
  refine ev_aload_n de_Ta_init_0 rfl rfl ?_
  refine ev_objInit de_Ta_init_1 oi_Ta (Nat.le_of_ble_eq_true rfl) (by decide) ?_
  refine ev_aload_n de_Ta_init_4 rfl rfl ?_
  refine ev_sipush de_Ta_init_5 rfl ?_
  refine ev_newab (n := 400) (bc := 0) (bs := 0) de_Ta_init_8 ac_byte (by decide) (by decide) (Nat.le_of_ble_eq_true rfl) (ab_okW_of (by decide +kernel)) (ab_okL_of rfl) (ab_okS_of rfl) ?_
  refine ev_top (b := ab_R 2) rfl ?_
  refine ev_world (w' := (fw_2 ++ [ab_ai 1 400 (fun _ => 0)])) rfl ?_
  refine ev_putfield de_Ta_init_10 rfl fp_Ta_9 (Nat.le_of_ble_eq_true rfl) trivial ?_
  refine ev_world (w' := ((fw_2.set 1 (ab_ob 8 [ab_R (2), ab_I (0), ab_I (0), ab_N, ab_I (0), ab_I (0), ab_I (0), ab_I (0), ab_I (0)])) ++ [ab_ai 1 400 (fun _ => 0)])) rfl ?_
  refine ev_aload_n de_Ta_init_13 rfl rfl ?_
  refine ev_ldcS (k := 0) de_Ta_init_14 (List.mem_of_getElem? (i := 0) rfl) (by decide) ?_
  refine ev_putfield de_Ta_init_16 rfl (fp_Ta_17 _) (Nat.le_of_ble_eq_true rfl) trivial ?_
  refine ev_world (w' := ((fw_2.set 1 (ab_ob 8 [ab_R (2), ab_I (0), ab_I (0), ab_R (ab_sb + 0), ab_I (0), ab_I (0), ab_I (0), ab_I (0), ab_I (0)])) ++ [ab_ai 1 400 (fun _ => 0)])) rfl ?_
  exact ev_return de_Ta_init_19 rfl ⟨rfl, rfl⟩
def fw_4 : ab_W := [ab_ob 10 [ab_R (1), ab_N, ab_N, ab_N, ab_N, ab_N, ab_I (0), ab_N, ab_N, ab_N, ab_N, ab_N, ab_N], ab_ob 8 [ab_R (2), ab_I (0), ab_I (0), ab_R (ab_sb + 0), ab_I (0), ab_I (0), ab_I (0), ab_I (0), ab_I (0)], ab_ai 1 400 (fun _ => 0), ab_ob 5 [ab_I (0), ab_I (0), ab_I (0), ab_I (0), ab_I (0), ab_I (0), ab_I (0), ab_I (0), ab_I (0), ab_I (0), ab_N, ab_N, ab_N, ab_N, ab_N, ab_N, ab_N, ab_N]]
def fw_5 : ab_W := [ab_ob 10 [ab_R (1), ab_N, ab_N, ab_N, ab_N, ab_N, ab_I (0), ab_N, ab_N, ab_N, ab_N, ab_N, ab_N], ab_ob 8 [ab_R (2), ab_I (0), ab_I (0), ab_R (ab_sb + 0), ab_I (0), ab_I (0), ab_I (0), ab_I (0), ab_I (0)], ab_ai 1 400 (fun _ => 0), ab_ob 5 [ab_I (0), ab_I (0), ab_I (0), ab_I (0), ab_I (0), ab_I (0), ab_I (0), ab_I (0), ab_I (0), ab_I (0), ab_R (4), ab_R (5), ab_R (6), ab_R (7), ab_R (8), ab_R (9), ab_R (10), ab_N], ab_ai 0 7 (fun _ => 0), ab_ai 0 7 (fun _ => 0), ab_ai 0 7 (fun _ => 0), ab_ai 0 35 (fun _ => 0), ab_al 24 (fun _ => 0), ab_ai 0 24 (fun _ => 0), ab_ai 0 12 (fun _ => 0), ab_ob 1 [ab_I (0), ab_N, ab_N, ab_N, ab_N]]
def fw_6 : ab_W := [ab_ob 10 [ab_R (1), ab_N, ab_N, ab_N, ab_N, ab_N, ab_I (0), ab_N, ab_N, ab_N, ab_N, ab_N, ab_N], ab_ob 8 [ab_R (2), ab_I (0), ab_I (0), ab_R (ab_sb + 0), ab_I (0), ab_I (0), ab_I (0), ab_I (0), ab_I (0)], ab_ai 1 400 (fun _ => 0), ab_ob 5 [ab_I (0), ab_I (0), ab_I (0), ab_I (0), ab_I (0), ab_I (0), ab_I (0), ab_I (0), ab_I (0), ab_I (0), ab_R (4), ab_R (5), ab_R (6), ab_R (7), ab_R (8), ab_R (9), ab_R (10), ab_N], ab_ai 0 7 (fun _ => 0), ab_ai 0 7 (fun _ => 0), ab_ai 0 7 (fun _ => 0), ab_ai 0 35 (fun _ => 0), ab_al 24 (fun _ => 0), ab_ai 0 24 (fun _ => 0), ab_ai 0 12 (fun _ => 0), ab_ob 1 [ab_I (0), ab_R (12), ab_R (13), ab_R (14), ab_R (15)], ab_ai 0 10 (fun _ => 0), ab_ai 0 10 (fun _ => 0), ab_ai 0 10 (fun _ => 0), ab_ai 0 10 (fun _ => 0)]
theorem de_Di_init_0 : decode prog_3_method_1_code 0 = .ok (.aload_n 0, 1) := by decide +kernel
theorem de_Di_init_1 : decode prog_3_method_1_code 1 = .ok (.invokespecial 3, 3) := by decide +kernel
theorem de_Di_init_4 : decode prog_3_method_1_code 4 = .ok (.aload_n 0, 1) := by decide +kernel
theorem de_Di_init_5 : decode prog_3_method_1_code 5 = .ok (.bipush 10, 2) := by decide +kernel
theorem de_Di_init_7 : decode prog_3_method_1_code 7 = .ok (.newarray .int, 2) := by decide +kernel
theorem de_Di_init_9 : decode prog_3_method_1_code 9 = .ok (.putfield 9, 3) := by decide +kernel
theorem de_Di_init_12 : decode prog_3_method_1_code 12 = .ok (.aload_n 0, 1) := by decide +kernel
theorem de_Di_init_13 : decode prog_3_method_1_code 13 = .ok (.bipush 10, 2) := by decide +kernel
theorem de_Di_init_15 : decode prog_3_method_1_code 15 = .ok (.newarray .int, 2) := by decide +kernel
theorem de_Di_init_17 : decode prog_3_method_1_code 17 = .ok (.putfield 15, 3) := by decide +kernel
theorem de_Di_init_20 : decode prog_3_method_1_code 20 = .ok (.aload_n 0, 1) := by decide +kernel
theorem de_Di_init_21 : decode prog_3_method_1_code 21 = .ok (.bipush 10, 2) := by decide +kernel
theorem de_Di_init_23 : decode prog_3_method_1_code 23 = .ok (.newarray .int, 2) := by decide +kernel
theorem de_Di_init_25 : decode prog_3_method_1_code 25 = .ok (.putfield 18, 3) := by decide +kernel
theorem de_Di_init_28 : decode prog_3_method_1_code 28 = .ok (.aload_n 0, 1) := by decide +kernel
theorem de_Di_init_29 : decode prog_3_method_1_code 29 = .ok (.bipush 10, 2) := by decide +kernel
theorem de_Di_init_31 : decode prog_3_method_1_code 31 = .ok (.newarray .int, 2) := by decide +kernel
theorem de_Di_init_33 : decode prog_3_method_1_code 33 = .ok (.putfield 21, 3) := by decide +kernel
theorem de_Di_init_36 : decode prog_3_method_1_code 36 = .ok (.return_, 1) := by decide +kernel
set_option maxHeartbeats 4000000 in
set_option maxRecDepth 20000 in
theorem fx_4  : ab_Mt g_G g_rs mt_Di_init 1 4 40 [ab_R (11)] fw_5 (ab_is none fw_6) := by
  refine ab_Mt.of rfl (Nat.le_of_ble_eq_true rfl) ?_
  show ab_Ev g_G g_rs mt_Di_init _ _ _ 0 [some (ab_R (11))] [] _ _
  refine ev_aload_n de_Di_init_0 rfl rfl ?_
  refine ev_objInit de_Di_init_1 oi_Di (Nat.le_of_ble_eq_true rfl) (by decide) ?_
  refine ev_aload_n de_Di_init_4 rfl rfl ?_
  refine ev_bipush de_Di_init_5 rfl ?_
  refine ev_newai (n := 10) (bc := 3) (bs := 30) de_Di_init_7 ac_int (by decide) (by decide) (Nat.le_of_ble_eq_true rfl) (ab_okW_of (by decide +kernel)) (ab_okL_of rfl) (ab_okS_of rfl) ?_
  refine ev_top (b := ab_R 12) rfl ?_
  refine ev_world (w' := (fw_5 ++ [ab_ai 0 10 (fun _ => 0)])) rfl ?_
  refine ev_putfield de_Di_init_9 rfl fp_Di_9 (Nat.le_of_ble_eq_true rfl) trivial ?_
  refine ev_world (w' := ((fw_5.set 11 (ab_ob 1 [ab_I (0), ab_R (12), ab_N, ab_N, ab_N])) ++ [ab_ai 0 10 (fun _ => 0)])) rfl ?_
  refine ev_aload_n de_Di_init_12 rfl rfl ?_
  refine ev_bipush de_Di_init_13 rfl ?_
  refine ev_newai (n := 10) (bc := 2) (bs := 20) de_Di_init_15 ac_int (by decide) (by decide) (Nat.le_of_ble_eq_true rfl) (ab_okW_of (by decide +kernel)) (ab_okL_of rfl) (ab_okS_of rfl) ?_
  refine ev_top (b := ab_R 13) rfl ?_
  refine ev_world (w' := ((fw_5.set 11 (ab_ob 1 [ab_I (0), ab_R (12), ab_N, ab_N, ab_N])) ++ [ab_ai 0 10 (fun _ => 0), ab_ai 0 10 (fun _ => 0)])) rfl ?_
  refine ev_putfield de_Di_init_17 rfl fp_Di_15 (Nat.le_of_ble_eq_true rfl) trivial ?_
  refine ev_world (w' := ((fw_5.set 11 (ab_ob 1 [ab_I (0), ab_R (12), ab_R (13), ab_N, ab_N])) ++ [ab_ai 0 10 (fun _ => 0), ab_ai 0 10 (fun _ => 0)])) rfl ?_
  refine ev_aload_n de_Di_init_20 rfl rfl ?_
  refine ev_bipush de_Di_init_21 rfl ?_
  refine ev_newai (n := 10) (bc := 1) (bs := 10) de_Di_init_23 ac_int (by decide) (by decide) (Nat.le_of_ble_eq_true rfl) (ab_okW_of (by decide +kernel)) (ab_okL_of rfl) (ab_okS_of rfl) ?_
  refine ev_top (b := ab_R 14) rfl ?_
  refine ev_world (w' := ((fw_5.set 11 (ab_ob 1 [ab_I (0), ab_R (12), ab_R (13), ab_N, ab_N])) ++ [ab_ai 0 10 (fun _ => 0), ab_ai 0 10 (fun _ => 0), ab_ai 0 10 (fun _ => 0)])) rfl ?_
  refine ev_putfield de_Di_init_25 rfl fp_Di_18 (Nat.le_of_ble_eq_true rfl) trivial ?_
  refine ev_world (w' := ((fw_5.set 11 (ab_ob 1 [ab_I (0), ab_R (12), ab_R (13), ab_R (14), ab_N])) ++ [ab_ai 0 10 (fun _ => 0), ab_ai 0 10 (fun _ => 0), ab_ai 0 10 (fun _ => 0)])) rfl ?_
  refine ev_aload_n de_Di_init_28 rfl rfl ?_
  refine ev_bipush de_Di_init_29 rfl ?_
  refine ev_newai (n := 10) (bc := 0) (bs := 0) de_Di_init_31 ac_int (by decide) (by decide) (Nat.le_of_ble_eq_true rfl) (ab_okW_of (by decide +kernel)) (ab_okL_of rfl) (ab_okS_of rfl) ?_
  refine ev_top (b := ab_R 15) rfl ?_
  refine ev_world (w' := ((fw_5.set 11 (ab_ob 1 [ab_I (0), ab_R (12), ab_R (13), ab_R (14), ab_N])) ++ [ab_ai 0 10 (fun _ => 0), ab_ai 0 10 (fun _ => 0), ab_ai 0 10 (fun _ => 0), ab_ai 0 10 (fun _ => 0)])) rfl ?_
  refine ev_putfield de_Di_init_33 rfl fp_Di_21 (Nat.le_of_ble_eq_true rfl) trivial ?_
  refine ev_world (w' := ((fw_5.set 11 (ab_ob 1 [ab_I (0), ab_R (12), ab_R (13), ab_R (14), ab_R (15)])) ++ [ab_ai 0 10 (fun _ => 0), ab_ai 0 10 (fun _ => 0), ab_ai 0 10 (fun _ => 0), ab_ai 0 10 (fun _ => 0)])) rfl ?_
  exact ev_return de_Di_init_36 rfl ⟨rfl, rfl⟩
def fw_7 : ab_W := [ab_ob 10 [ab_R (1), ab_N, ab_N, ab_N, ab_N, ab_N, ab_I (0), ab_N, ab_N, ab_N, ab_N, ab_N, ab_N], ab_ob 8 [ab_R (2), ab_I (0), ab_I (0), ab_R (ab_sb + 0), ab_I (0), ab_I (0), ab_I (0), ab_I (0), ab_I (0)], ab_ai 1 400 (fun _ => 0), ab_ob 5 [ab_I (0), ab_I (0), ab_I (0), ab_I (0), ab_I (0), ab_I (0), ab_I (0), ab_I (0), ab_I (0), ab_I (0), ab_R (4), ab_R (5), ab_R (6), ab_R (7), ab_R (8), ab_R (9), ab_R (10), ab_R (11)], ab_ai 0 7 (fun _ => 0), ab_ai 0 7 (fun _ => 0), ab_ai 0 7 (fun _ => 0), ab_ai 0 35 (fun _ => 0), ab_al 24 (fun _ => 0), ab_ai 0 24 (fun _ => 0), ab_ai 0 12 (fun _ => 0), ab_ob 1 [ab_I (0), ab_R (12), ab_R (13), ab_R (14), ab_R (15)], ab_ai 0 10 (fun _ => 0), ab_ai 0 10 (fun _ => 0), ab_ai 0 10 (fun _ => 0), ab_ai 0 10 (fun _ => 0)]
theorem de_Ri_init_0 : decode prog_7_method_1_code 0 = .ok (.aload_n 0, 1) := by decide +kernel
theorem de_Ri_init_1 : decode prog_7_method_1_code 1 = .ok (.invokespecial 3, 3) := by decide +kernel
theorem de_Ri_init_4 : decode prog_7_method_1_code 4 = .ok (.aload_n 0, 1) := by decide +kernel
theorem de_Ri_init_5 : decode prog_7_method_1_code 5 = .ok (.bipush 7, 2) := by decide +kernel
theorem de_Ri_init_7 : decode prog_7_method_1_code 7 = .ok (.newarray .int, 2) := by decide +kernel
theorem de_Ri_init_9 : decode prog_7_method_1_code 9 = .ok (.putfield 9, 3) := by decide +kernel
theorem de_Ri_init_12 : decode prog_7_method_1_code 12 = .ok (.aload_n 0, 1) := by decide +kernel
theorem de_Ri_init_13 : decode prog_7_method_1_code 13 = .ok (.bipush 7, 2) := by decide +kernel
theorem de_Ri_init_15 : decode prog_7_method_1_code 15 = .ok (.newarray .int, 2) := by decide +kernel
theorem de_Ri_init_17 : decode prog_7_method_1_code 17 = .ok (.putfield 15, 3) := by decide +kernel
theorem de_Ri_init_20 : decode prog_7_method_1_code 20 = .ok (.aload_n 0, 1) := by decide +kernel
theorem de_Ri_init_21 : decode prog_7_method_1_code 21 = .ok (.bipush 7, 2) := by decide +kernel
theorem de_Ri_init_23 : decode prog_7_method_1_code 23 = .ok (.newarray .int, 2) := by decide +kernel
theorem de_Ri_init_25 : decode prog_7_method_1_code 25 = .ok (.putfield 18, 3) := by decide +kernel
theorem de_Ri_init_28 : decode prog_7_method_1_code 28 = .ok (.aload_n 0, 1) := by decide +kernel
theorem de_Ri_init_29 : decode prog_7_method_1_code 29 = .ok (.bipush 35, 2) := by decide +kernel
theorem de_Ri_init_31 : decode prog_7_method_1_code 31 = .ok (.newarray .int, 2) := by decide +kernel
theorem de_Ri_init_33 : decode prog_7_method_1_code 33 = .ok (.putfield 21, 3) := by decide +kernel
theorem de_Ri_init_36 : decode prog_7_method_1_code 36 = .ok (.aload_n 0, 1) := by decide +kernel
theorem de_Ri_init_37 : decode prog_7_method_1_code 37 = .ok (.bipush 24, 2) := by decide +kernel
theorem de_Ri_init_39 : decode prog_7_method_1_code 39 = .ok (.newarray .long, 2) := by decide +kernel
theorem de_Ri_init_41 : decode prog_7_method_1_code 41 = .ok (.putfield 24, 3) := by decide +kernel
theorem de_Ri_init_44 : decode prog_7_method_1_code 44 = .ok (.aload_n 0, 1) := by decide +kernel
theorem de_Ri_init_45 : decode prog_7_method_1_code 45 = .ok (.bipush 24, 2) := by decide +kernel
theorem de_Ri_init_47 : decode prog_7_method_1_code 47 = .ok (.newarray .int, 2) := by decide +kernel
theorem de_Ri_init_49 : decode prog_7_method_1_code 49 = .ok (.putfield 28, 3) := by decide +kernel
theorem de_Ri_init_52 : decode prog_7_method_1_code 52 = .ok (.aload_n 0, 1) := by decide +kernel
theorem de_Ri_init_53 : decode prog_7_method_1_code 53 = .ok (.bipush 12, 2) := by decide +kernel
theorem de_Ri_init_55 : decode prog_7_method_1_code 55 = .ok (.newarray .int, 2) := by decide +kernel
theorem de_Ri_init_57 : decode prog_7_method_1_code 57 = .ok (.putfield 31, 3) := by decide +kernel
theorem de_Ri_init_60 : decode prog_7_method_1_code 60 = .ok (.aload_n 0, 1) := by decide +kernel
theorem de_Ri_init_61 : decode prog_7_method_1_code 61 = .ok (.new 34, 3) := by decide +kernel
theorem de_Ri_init_64 : decode prog_7_method_1_code 64 = .ok (.dup, 1) := by decide +kernel
theorem de_Ri_init_65 : decode prog_7_method_1_code 65 = .ok (.invokespecial 36, 3) := by decide +kernel
theorem de_Ri_init_68 : decode prog_7_method_1_code 68 = .ok (.putfield 37, 3) := by decide +kernel
theorem de_Ri_init_71 : decode prog_7_method_1_code 71 = .ok (.return_, 1) := by decide +kernel
set_option maxHeartbeats 4000000 in
set_option maxRecDepth 20000 in
theorem fx_3  : ab_Mt g_G g_rs mt_Ri_init 2 12 161 [ab_R (3)] fw_4 (ab_is none fw_7) := by
  refine ab_Mt.of rfl (Nat.le_of_ble_eq_true rfl) ?_
  show ab_Ev g_G g_rs mt_Ri_init _ _ _ 0 [some (ab_R (3))] [] _ _
  refine ev_aload_n de_Ri_init_0 rfl rfl ?_
  refine ev_objInit de_Ri_init_1 oi_Ri (Nat.le_of_ble_eq_true rfl) (by decide) ?_
  refine ev_aload_n de_Ri_init_4 rfl rfl ?_
  refine ev_bipush de_Ri_init_5 rfl ?_
  refine ev_newai (n := 7) (bc := 11) (bs := 154) de_Ri_init_7 ac_int (by decide) (by decide) (Nat.le_of_ble_eq_true rfl) (ab_okW_of (by decide +kernel)) (ab_okL_of rfl) (ab_okS_of rfl) ?_
  refine ev_top (b := ab_R 4) rfl ?_
  refine ev_world (w' := (fw_4 ++ [ab_ai 0 7 (fun _ => 0)])) rfl ?_
  refine ev_putfield de_Ri_init_9 rfl fp_Ri_9 (Nat.le_of_ble_eq_true rfl) trivial ?_
  refine ev_world (w' := ((fw_4.set 3 (ab_ob 5 [ab_I (0), ab_I (0), ab_I (0), ab_I (0), ab_I (0), ab_I (0), ab_I (0), ab_I (0), ab_I (0), ab_I (0), ab_R (4), ab_N, ab_N, ab_N, ab_N, ab_N, ab_N, ab_N])) ++ [ab_ai 0 7 (fun _ => 0)])) rfl ?_
  refine ev_aload_n de_Ri_init_12 rfl rfl ?_
  refine ev_bipush de_Ri_init_13 rfl ?_
  refine ev_newai (n := 7) (bc := 10) (bs := 147) de_Ri_init_15 ac_int (by decide) (by decide) (Nat.le_of_ble_eq_true rfl) (ab_okW_of (by decide +kernel)) (ab_okL_of rfl) (ab_okS_of rfl) ?_
  refine ev_top (b := ab_R 5) rfl ?_
  refine ev_world (w' := ((fw_4.set 3 (ab_ob 5 [ab_I (0), ab_I (0), ab_I (0), ab_I (0), ab_I (0), ab_I (0), ab_I (0), ab_I (0), ab_I (0), ab_I (0), ab_R (4), ab_N, ab_N, ab_N, ab_N, ab_N, ab_N, ab_N])) ++ [ab_ai 0 7 (fun _ => 0), ab_ai 0 7 (fun _ => 0)])) rfl ?_
  refine ev_putfield de_Ri_init_17 rfl fp_Ri_15 (Nat.le_of_ble_eq_true rfl) trivial ?_
  refine ev_world (w' := ((fw_4.set 3 (ab_ob 5 [ab_I (0), ab_I (0), ab_I (0), ab_I (0), ab_I (0), ab_I (0), ab_I (0), ab_I (0), ab_I (0), ab_I (0), ab_R (4), ab_R (5), ab_N, ab_N, ab_N, ab_N, ab_N, ab_N])) ++ [ab_ai 0 7 (fun _ => 0), ab_ai 0 7 (fun _ => 0)])) rfl ?_
  refine ev_aload_n de_Ri_init_20 rfl rfl ?_
  refine ev_bipush de_Ri_init_21 rfl ?_
  refine ev_newai (n := 7) (bc := 9) (bs := 140) de_Ri_init_23 ac_int (by decide) (by decide) (Nat.le_of_ble_eq_true rfl) (ab_okW_of (by decide +kernel)) (ab_okL_of rfl) (ab_okS_of rfl) ?_
  refine ev_top (b := ab_R 6) rfl ?_
  refine ev_world (w' := ((fw_4.set 3 (ab_ob 5 [ab_I (0), ab_I (0), ab_I (0), ab_I (0), ab_I (0), ab_I (0), ab_I (0), ab_I (0), ab_I (0), ab_I (0), ab_R (4), ab_R (5), ab_N, ab_N, ab_N, ab_N, ab_N, ab_N])) ++ [ab_ai 0 7 (fun _ => 0), ab_ai 0 7 (fun _ => 0), ab_ai 0 7 (fun _ => 0)])) rfl ?_
  refine ev_putfield de_Ri_init_25 rfl fp_Ri_18 (Nat.le_of_ble_eq_true rfl) trivial ?_
  refine ev_world (w' := ((fw_4.set 3 (ab_ob 5 [ab_I (0), ab_I (0), ab_I (0), ab_I (0), ab_I (0), ab_I (0), ab_I (0), ab_I (0), ab_I (0), ab_I (0), ab_R (4), ab_R (5), ab_R (6), ab_N, ab_N, ab_N, ab_N, ab_N])) ++ [ab_ai 0 7 (fun _ => 0), ab_ai 0 7 (fun _ => 0), ab_ai 0 7 (fun _ => 0)])) rfl ?_
  refine ev_aload_n de_Ri_init_28 rfl rfl ?_
  refine ev_bipush de_Ri_init_29 rfl ?_
  refine ev_newai (n := 35) (bc := 8) (bs := 105) de_Ri_init_31 ac_int (by decide) (by decide) (Nat.le_of_ble_eq_true rfl) (ab_okW_of (by decide +kernel)) (ab_okL_of rfl) (ab_okS_of rfl) ?_
  refine ev_top (b := ab_R 7) rfl ?_
  refine ev_world (w' := ((fw_4.set 3 (ab_ob 5 [ab_I (0), ab_I (0), ab_I (0), ab_I (0), ab_I (0), ab_I (0), ab_I (0), ab_I (0), ab_I (0), ab_I (0), ab_R (4), ab_R (5), ab_R (6), ab_N, ab_N, ab_N, ab_N, ab_N])) ++ [ab_ai 0 7 (fun _ => 0), ab_ai 0 7 (fun _ => 0), ab_ai 0 7 (fun _ => 0), ab_ai 0 35 (fun _ => 0)])) rfl ?_
  refine ev_putfield de_Ri_init_33 rfl fp_Ri_21 (Nat.le_of_ble_eq_true rfl) trivial ?_
  refine ev_world (w' := ((fw_4.set 3 (ab_ob 5 [ab_I (0), ab_I (0), ab_I (0), ab_I (0), ab_I (0), ab_I (0), ab_I (0), ab_I (0), ab_I (0), ab_I (0), ab_R (4), ab_R (5), ab_R (6), ab_R (7), ab_N, ab_N, ab_N, ab_N])) ++ [ab_ai 0 7 (fun _ => 0), ab_ai 0 7 (fun _ => 0), ab_ai 0 7 (fun _ => 0), ab_ai 0 35 (fun _ => 0)])) rfl ?_
  refine ev_aload_n de_Ri_init_36 rfl rfl ?_
  refine ev_bipush de_Ri_init_37 rfl ?_
  refine ev_newal (n := 24) (bc := 7) (bs := 81) de_Ri_init_39 ac_long (by decide) (by decide) (Nat.le_of_ble_eq_true rfl) (ab_okW_of (by decide +kernel)) (ab_okL_of rfl) (ab_okS_of rfl) ?_
  refine ev_top (b := ab_R 8) rfl ?_
  refine ev_world (w' := ((fw_4.set 3 (ab_ob 5 [ab_I (0), ab_I (0), ab_I (0), ab_I (0), ab_I (0), ab_I (0), ab_I (0), ab_I (0), ab_I (0), ab_I (0), ab_R (4), ab_R (5), ab_R (6), ab_R (7), ab_N, ab_N, ab_N, ab_N])) ++ [ab_ai 0 7 (fun _ => 0), ab_ai 0 7 (fun _ => 0), ab_ai 0 7 (fun _ => 0), ab_ai 0 35 (fun _ => 0), ab_al 24 (fun _ => 0)])) rfl ?_
  refine ev_putfield de_Ri_init_41 rfl fp_Ri_24 (Nat.le_of_ble_eq_true rfl) trivial ?_
  refine ev_world (w' := ((fw_4.set 3 (ab_ob 5 [ab_I (0), ab_I (0), ab_I (0), ab_I (0), ab_I (0), ab_I (0), ab_I (0), ab_I (0), ab_I (0), ab_I (0), ab_R (4), ab_R (5), ab_R (6), ab_R (7), ab_R (8), ab_N, ab_N, ab_N])) ++ [ab_ai 0 7 (fun _ => 0), ab_ai 0 7 (fun _ => 0), ab_ai 0 7 (fun _ => 0), ab_ai 0 35 (fun _ => 0), ab_al 24 (fun _ => 0)])) rfl ?_
  refine ev_aload_n de_Ri_init_44 rfl rfl ?_
  refine ev_bipush de_Ri_init_45 rfl ?_
  refine ev_newai (n := 24) (bc := 6) (bs := 57) de_Ri_init_47 ac_int (by decide) (by decide) (Nat.le_of_ble_eq_true rfl) (ab_okW_of (by decide +kernel)) (ab_okL_of rfl) (ab_okS_of rfl) ?_
  refine ev_top (b := ab_R 9) rfl ?_
  refine ev_world (w' := ((fw_4.set 3 (ab_ob 5 [ab_I (0), ab_I (0), ab_I (0), ab_I (0), ab_I (0), ab_I (0), ab_I (0), ab_I (0), ab_I (0), ab_I (0), ab_R (4), ab_R (5), ab_R (6), ab_R (7), ab_R (8), ab_N, ab_N, ab_N])) ++ [ab_ai 0 7 (fun _ => 0), ab_ai 0 7 (fun _ => 0), ab_ai 0 7 (fun _ => 0), ab_ai 0 35 (fun _ => 0), ab_al 24 (fun _ => 0), ab_ai 0 24 (fun _ => 0)])) rfl ?_
  refine ev_putfield de_Ri_init_49 rfl fp_Ri_28 (Nat.le_of_ble_eq_true rfl) trivial ?_
  refine ev_world (w' := ((fw_4.set 3 (ab_ob 5 [ab_I (0), ab_I (0), ab_I (0), ab_I (0), ab_I (0), ab_I (0), ab_I (0), ab_I (0), ab_I (0), ab_I (0), ab_R (4), ab_R (5), ab_R (6), ab_R (7), ab_R (8), ab_R (9), ab_N, ab_N])) ++ [ab_ai 0 7 (fun _ => 0), ab_ai 0 7 (fun _ => 0), ab_ai 0 7 (fun _ => 0), ab_ai 0 35 (fun _ => 0), ab_al 24 (fun _ => 0), ab_ai 0 24 (fun _ => 0)])) rfl ?_
  refine ev_aload_n de_Ri_init_52 rfl rfl ?_
  refine ev_bipush de_Ri_init_53 rfl ?_
  refine ev_newai (n := 12) (bc := 5) (bs := 45) de_Ri_init_55 ac_int (by decide) (by decide) (Nat.le_of_ble_eq_true rfl) (ab_okW_of (by decide +kernel)) (ab_okL_of rfl) (ab_okS_of rfl) ?_
  refine ev_top (b := ab_R 10) rfl ?_
  refine ev_world (w' := ((fw_4.set 3 (ab_ob 5 [ab_I (0), ab_I (0), ab_I (0), ab_I (0), ab_I (0), ab_I (0), ab_I (0), ab_I (0), ab_I (0), ab_I (0), ab_R (4), ab_R (5), ab_R (6), ab_R (7), ab_R (8), ab_R (9), ab_N, ab_N])) ++ [ab_ai 0 7 (fun _ => 0), ab_ai 0 7 (fun _ => 0), ab_ai 0 7 (fun _ => 0), ab_ai 0 35 (fun _ => 0), ab_al 24 (fun _ => 0), ab_ai 0 24 (fun _ => 0), ab_ai 0 12 (fun _ => 0)])) rfl ?_
  refine ev_putfield de_Ri_init_57 rfl fp_Ri_31 (Nat.le_of_ble_eq_true rfl) trivial ?_
  refine ev_world (w' := ((fw_4.set 3 (ab_ob 5 [ab_I (0), ab_I (0), ab_I (0), ab_I (0), ab_I (0), ab_I (0), ab_I (0), ab_I (0), ab_I (0), ab_I (0), ab_R (4), ab_R (5), ab_R (6), ab_R (7), ab_R (8), ab_R (9), ab_R (10), ab_N])) ++ [ab_ai 0 7 (fun _ => 0), ab_ai 0 7 (fun _ => 0), ab_ai 0 7 (fun _ => 0), ab_ai 0 35 (fun _ => 0), ab_al 24 (fun _ => 0), ab_ai 0 24 (fun _ => 0), ab_ai 0 12 (fun _ => 0)])) rfl ?_
  refine ev_aload_n de_Ri_init_60 rfl rfl ?_
  refine ev_new (N := 5) (bc := 4) (bs := 40) de_Ri_init_61 nw_Ri_34 (Nat.le_of_ble_eq_true rfl) (ab_okW_of (by decide +kernel)) (ab_okS_of rfl) (ab_okL_of rfl) (ab_okS_of rfl) ?_
  refine ev_top (b := ab_R 11) rfl ?_
  refine ev_world (w' := ((fw_4.set 3 (ab_ob 5 [ab_I (0), ab_I (0), ab_I (0), ab_I (0), ab_I (0), ab_I (0), ab_I (0), ab_I (0), ab_I (0), ab_I (0), ab_R (4), ab_R (5), ab_R (6), ab_R (7), ab_R (8), ab_R (9), ab_R (10), ab_N])) ++ [ab_ai 0 7 (fun _ => 0), ab_ai 0 7 (fun _ => 0), ab_ai 0 7 (fun _ => 0), ab_ai 0 35 (fun _ => 0), ab_al 24 (fun _ => 0), ab_ai 0 24 (fun _ => 0), ab_ai 0 12 (fun _ => 0), ab_ob 1 [ab_I (0), ab_N, ab_N, ab_N, ab_N]])) rfl ?_
  refine ev_dup de_Ri_init_64 rfl ?_
  refine ev_world (w' := fw_5) rfl ?_
  refine ev_xn (mc := 4) (ms := 40) (bc := 0) (bs := 0) de_Ri_init_65 fx_4 kb_Ri_36 ⟨im_Di_init, rfl, rfl⟩ rfl (Nat.le_of_ble_eq_true rfl) (by decide) (ab_okL_of rfl) (ab_okS_of rfl) ?_
  refine ev_putfield de_Ri_init_68 rfl fp_Ri_37 (Nat.le_of_ble_eq_true rfl) trivial ?_
  refine ev_world (w' := (fw_6.set 3 (ab_ob 5 [ab_I (0), ab_I (0), ab_I (0), ab_I (0), ab_I (0), ab_I (0), ab_I (0), ab_I (0), ab_I (0), ab_I (0), ab_R (4), ab_R (5), ab_R (6), ab_R (7), ab_R (8), ab_R (9), ab_R (10), ab_R (11)]))) rfl ?_
  exact ev_return de_Ri_init_71 rfl ⟨rfl, rfl⟩
def fw_8 : ab_W := [ab_ob 10 [ab_R (1), ab_R (3), ab_N, ab_N, ab_N, ab_N, ab_I (0), ab_N, ab_N, ab_N, ab_N, ab_N, ab_N], ab_ob 8 [ab_R (2), ab_I (0), ab_I (0), ab_R (ab_sb + 0), ab_I (0), ab_I (0), ab_I (0), ab_I (0), ab_I (0)], ab_ai 1 400 (fun _ => 0), ab_ob 5 [ab_I (0), ab_I (0), ab_I (0), ab_I (0), ab_I (0), ab_I (0), ab_I (0), ab_I (0), ab_I (0), ab_I (0), ab_R (4), ab_R (5), ab_R (6), ab_R (7), ab_R (8), ab_R (9), ab_R (10), ab_R (11)], ab_ai 0 7 (fun _ => 0), ab_ai 0 7 (fun _ => 0), ab_ai 0 7 (fun _ => 0), ab_ai 0 35 (fun _ => 0), ab_al 24 (fun _ => 0), ab_ai 0 24 (fun _ => 0), ab_ai 0 12 (fun _ => 0), ab_ob 1 [ab_I (0), ab_R (12), ab_R (13), ab_R (14), ab_R (15)], ab_ai 0 10 (fun _ => 0), ab_ai 0 10 (fun _ => 0), ab_ai 0 10 (fun _ => 0), ab_ai 0 10 (fun _ => 0), ab_ob 5 [ab_I (0), ab_I (0), ab_I (0), ab_I (0), ab_I (0), ab_I (0), ab_I (0), ab_I (0), ab_I (0), ab_I (0), ab_N, ab_N, ab_N, ab_N, ab_N, ab_N, ab_N, ab_N]]
def fw_9 : ab_W := [ab_ob 10 [ab_R (1), ab_R (3), ab_N, ab_N, ab_N, ab_N, ab_I (0), ab_N, ab_N, ab_N, ab_N, ab_N, ab_N], ab_ob 8 [ab_R (2), ab_I (0), ab_I (0), ab_R (ab_sb + 0), ab_I (0), ab_I (0), ab_I (0), ab_I (0), ab_I (0)], ab_ai 1 400 (fun _ => 0), ab_ob 5 [ab_I (0), ab_I (0), ab_I (0), ab_I (0), ab_I (0), ab_I (0), ab_I (0), ab_I (0), ab_I (0), ab_I (0), ab_R (4), ab_R (5), ab_R (6), ab_R (7), ab_R (8), ab_R (9), ab_R (10), ab_R (11)], ab_ai 0 7 (fun _ => 0), ab_ai 0 7 (fun _ => 0), ab_ai 0 7 (fun _ => 0), ab_ai 0 35 (fun _ => 0), ab_al 24 (fun _ => 0), ab_ai 0 24 (fun _ => 0), ab_ai 0 12 (fun _ => 0), ab_ob 1 [ab_I (0), ab_R (12), ab_R (13), ab_R (14), ab_R (15)], ab_ai 0 10 (fun _ => 0), ab_ai 0 10 (fun _ => 0), ab_ai 0 10 (fun _ => 0), ab_ai 0 10 (fun _ => 0), ab_ob 5 [ab_I (0), ab_I (0), ab_I (0), ab_I (0), ab_I (0), ab_I (0), ab_I (0), ab_I (0), ab_I (0), ab_I (0), ab_R (17), ab_R (18), ab_R (19), ab_R (20), ab_R (21), ab_R (22), ab_R (23), ab_N], ab_ai 0 7 (fun _ => 0), ab_ai 0 7 (fun _ => 0), ab_ai 0 7 (fun _ => 0), ab_ai 0 35 (fun _ => 0), ab_al 24 (fun _ => 0), ab_ai 0 24 (fun _ => 0), ab_ai 0 12 (fun _ => 0), ab_ob 1 [ab_I (0), ab_N, ab_N, ab_N, ab_N]]
def fw_10 : ab_W := [ab_ob 10 [ab_R (1), ab_R (3), ab_N, ab_N, ab_N, ab_N, ab_I (0), ab_N, ab_N, ab_N, ab_N, ab_N, ab_N], ab_ob 8 [ab_R (2), ab_I (0), ab_I (0), ab_R (ab_sb + 0), ab_I (0), ab_I (0), ab_I (0), ab_I (0), ab_I (0)], ab_ai 1 400 (fun _ => 0), ab_ob 5 [ab_I (0), ab_I (0), ab_I (0), ab_I (0), ab_I (0), ab_I (0), ab_I (0), ab_I (0), ab_I (0), ab_I (0), ab_R (4), ab_R (5), ab_R (6), ab_R (7), ab_R (8), ab_R (9), ab_R (10), ab_R (11)], ab_ai 0 7 (fun _ => 0), ab_ai 0 7 (fun _ => 0), ab_ai 0 7 (fun _ => 0), ab_ai 0 35 (fun _ => 0), ab_al 24 (fun _ => 0), ab_ai 0 24 (fun _ => 0), ab_ai 0 12 (fun _ => 0), ab_ob 1 [ab_I (0), ab_R (12), ab_R (13), ab_R (14), ab_R (15)], ab_ai 0 10 (fun _ => 0), ab_ai 0 10 (fun _ => 0), ab_ai 0 10 (fun _ => 0), ab_ai 0 10 (fun _ => 0), ab_ob 5 [ab_I (0), ab_I (0), ab_I (0), ab_I (0), ab_I (0), ab_I (0), ab_I (0), ab_I (0), ab_I (0), ab_I (0), ab_R (17), ab_R (18), ab_R (19), ab_R (20), ab_R (21), ab_R (22), ab_R (23), ab_N], ab_ai 0 7 (fun _ => 0), ab_ai 0 7 (fun _ => 0), ab_ai 0 7 (fun _ => 0), ab_ai 0 35 (fun _ => 0), ab_al 24 (fun _ => 0), ab_ai 0 24 (fun _ => 0), ab_ai 0 12 (fun _ => 0), ab_ob 1 [ab_I (0), ab_R (25), ab_R (26), ab_R (27), ab_R (28)], ab_ai 0 10 (fun _ => 0), ab_ai 0 10 (fun _ => 0), ab_ai 0 10 (fun _ => 0), ab_ai 0 10 (fun _ => 0)]
set_option maxHeartbeats 4000000 in
set_option maxRecDepth 20000 in
theorem fx_6  : ab_Mt g_G g_rs mt_Di_init 1 4 40 [ab_R (24)] fw_9 (ab_is none fw_10) := by
  refine ab_Mt.of rfl (Nat.le_of_ble_eq_true rfl) ?_
  show ab_Ev g_G g_rs mt_Di_init _ _ _ 0 [some (ab_R (24))] [] _ _
  refine ev_aload_n de_Di_init_0 rfl rfl ?_
  refine ev_objInit de_Di_init_1 oi_Di (Nat.le_of_ble_eq_true rfl) (by decide) ?_
  refine ev_aload_n de_Di_init_4 rfl rfl ?_
  refine ev_bipush de_Di_init_5 rfl ?_
  refine ev_newai (n := 10) (bc := 3) (bs := 30) de_Di_init_7 ac_int (by decide) (by decide) (Nat.le_of_ble_eq_true rfl) (ab_okW_of (by decide +kernel)) (ab_okL_of rfl) (ab_okS_of rfl) ?_
  refine ev_top (b := ab_R 25) rfl ?_
  refine ev_world (w' := (fw_9 ++ [ab_ai 0 10 (fun _ => 0)])) rfl ?_
  refine ev_putfield de_Di_init_9 rfl fp_Di_9 (Nat.le_of_ble_eq_true rfl) trivial ?_
  refine ev_world (w' := ((fw_9.set 24 (ab_ob 1 [ab_I (0), ab_R (25), ab_N, ab_N, ab_N])) ++ [ab_ai 0 10 (fun _ => 0)])) rfl ?_
  refine ev_aload_n de_Di_init_12 rfl rfl ?_
  refine ev_bipush de_Di_init_13 rfl ?_
  refine ev_newai (n := 10) (bc := 2) (bs := 20) de_Di_init_15 ac_int (by decide) (by decide) (Nat.le_of_ble_eq_true rfl) (ab_okW_of (by decide +kernel)) (ab_okL_of rfl) (ab_okS_of rfl) ?_
  refine ev_top (b := ab_R 26) rfl ?_
  refine ev_world (w' := ((fw_9.set 24 (ab_ob 1 [ab_I (0), ab_R (25), ab_N, ab_N, ab_N])) ++ [ab_ai 0 10 (fun _ => 0), ab_ai 0 10 (fun _ => 0)])) rfl ?_
  refine ev_putfield de_Di_init_17 rfl fp_Di_15 (Nat.le_of_ble_eq_true rfl) trivial ?_
  refine ev_world (w' := ((fw_9.set 24 (ab_ob 1 [ab_I (0), ab_R (25), ab_R (26), ab_N, ab_N])) ++ [ab_ai 0 10 (fun _ => 0), ab_ai 0 10 (fun _ => 0)])) rfl ?_
  refine ev_aload_n de_Di_init_20 rfl rfl ?_
  refine ev_bipush de_Di_init_21 rfl ?_
  refine ev_newai (n := 10) (bc := 1) (bs := 10) de_Di_init_23 ac_int (by decide) (by decide) (Nat.le_of_ble_eq_true rfl) (ab_okW_of (by decide +kernel)) (ab_okL_of rfl) (ab_okS_of rfl) ?_
  refine ev_top (b := ab_R 27) rfl ?_
  refine ev_world (w' := ((fw_9.set 24 (ab_ob 1 [ab_I (0), ab_R (25), ab_R (26), ab_N, ab_N])) ++ [ab_ai 0 10 (fun _ => 0), ab_ai 0 10 (fun _ => 0), ab_ai 0 10 (fun _ => 0)])) rfl ?_
  refine ev_putfield de_Di_init_25 rfl fp_Di_18 (Nat.le_of_ble_eq_true rfl) trivial ?_
  refine ev_world (w' := ((fw_9.set 24 (ab_ob 1 [ab_I (0), ab_R (25), ab_R (26), ab_R (27), ab_N])) ++ [ab_ai 0 10 (fun _ => 0), ab_ai 0 10 (fun _ => 0), ab_ai 0 10 (fun _ => 0)])) rfl ?_
  refine ev_aload_n de_Di_init_28 rfl rfl ?_
  refine ev_bipush de_Di_init_29 rfl ?_
  refine ev_newai (n := 10) (bc := 0) (bs := 0) de_Di_init_31 ac_int (by decide) (by decide) (Nat.le_of_ble_eq_true rfl) (ab_okW_of (by decide +kernel)) (ab_okL_of rfl) (ab_okS_of rfl) ?_
  refine ev_top (b := ab_R 28) rfl ?_
  refine ev_world (w' := ((fw_9.set 24 (ab_ob 1 [ab_I (0), ab_R (25), ab_R (26), ab_R (27), ab_N])) ++ [ab_ai 0 10 (fun _ => 0), ab_ai 0 10 (fun _ => 0), ab_ai 0 10 (fun _ => 0), ab_ai 0 10 (fun _ => 0)])) rfl ?_
  refine ev_putfield de_Di_init_33 rfl fp_Di_21 (Nat.le_of_ble_eq_true rfl) trivial ?_
  refine ev_world (w' := ((fw_9.set 24 (ab_ob 1 [ab_I (0), ab_R (25), ab_R (26), ab_R (27), ab_R (28)])) ++ [ab_ai 0 10 (fun _ => 0), ab_ai 0 10 (fun _ => 0), ab_ai 0 10 (fun _ => 0), ab_ai 0 10 (fun _ => 0)])) rfl ?_
  exact ev_return de_Di_init_36 rfl ⟨rfl, rfl⟩
def fw_11 : ab_W := [ab_ob 10 [ab_R (1), ab_R (3), ab_N, ab_N, ab_N, ab_N, ab_I (0), ab_N, ab_N, ab_N, ab_N, ab_N, ab_N], ab_ob 8 [ab_R (2), ab_I (0), ab_I (0), ab_R (ab_sb + 0), ab_I (0), ab_I (0), ab_I (0), ab_I (0), ab_I (0)], ab_ai 1 400 (fun _ => 0), ab_ob 5 [ab_I (0), ab_I (0), ab_I (0), ab_I (0), ab_I (0), ab_I (0), ab_I (0), ab_I (0), ab_I (0), ab_I (0), ab_R (4), ab_R (5), ab_R (6), ab_R (7), ab_R (8), ab_R (9), ab_R (10), ab_R (11)], ab_ai 0 7 (fun _ => 0), ab_ai 0 7 (fun _ => 0), ab_ai 0 7 (fun _ => 0), ab_ai 0 35 (fun _ => 0), ab_al 24 (fun _ => 0), ab_ai 0 24 (fun _ => 0), ab_ai 0 12 (fun _ => 0), ab_ob 1 [ab_I (0), ab_R (12), ab_R (13), ab_R (14), ab_R (15)], ab_ai 0 10 (fun _ => 0), ab_ai 0 10 (fun _ => 0), ab_ai 0 10 (fun _ => 0), ab_ai 0 10 (fun _ => 0), ab_ob 5 [ab_I (0), ab_I (0), ab_I (0), ab_I (0), ab_I (0), ab_I (0), ab_I (0), ab_I (0), ab_I (0), ab_I (0), ab_R (17), ab_R (18), ab_R (19), ab_R (20), ab_R (21), ab_R (22), ab_R (23), ab_R (24)], ab_ai 0 7 (fun _ => 0), ab_ai 0 7 (fun _ => 0), ab_ai 0 7 (fun _ => 0), ab_ai 0 35 (fun _ => 0), ab_al 24 (fun _ => 0), ab_ai 0 24 (fun _ => 0), ab_ai 0 12 (fun _ => 0), ab_ob 1 [ab_I (0), ab_R (25), ab_R (26), ab_R (27), ab_R (28)], ab_ai 0 10 (fun _ => 0), ab_ai 0 10 (fun _ => 0), ab_ai 0 10 (fun _ => 0), ab_ai 0 10 (fun _ => 0)]
set_option maxHeartbeats 4000000 in
set_option maxRecDepth 20000 in
theorem fx_5  : ab_Mt g_G g_rs mt_Ri_init 2 12 161 [ab_R (16)] fw_8 (ab_is none fw_11) := by
  refine ab_Mt.of rfl (Nat.le_of_ble_eq_true rfl) ?_
  show ab_Ev g_G g_rs mt_Ri_init _ _ _ 0 [some (ab_R (16))] [] _ _
  refine ev_aload_n de_Ri_init_0 rfl rfl ?_
  refine ev_objInit de_Ri_init_1 oi_Ri (Nat.le_of_ble_eq_true rfl) (by decide) ?_
  refine ev_aload_n de_Ri_init_4 rfl rfl ?_
  refine ev_bipush de_Ri_init_5 rfl ?_
  refine ev_newai (n := 7) (bc := 11) (bs := 154) de_Ri_init_7 ac_int (by decide) (by decide) (Nat.le_of_ble_eq_true rfl) (ab_okW_of (by decide +kernel)) (ab_okL_of rfl) (ab_okS_of rfl) ?_
  refine ev_top (b := ab_R 17) rfl ?_
  refine ev_world (w' := (fw_8 ++ [ab_ai 0 7 (fun _ => 0)])) rfl ?_
  refine ev_putfield de_Ri_init_9 rfl fp_Ri_9 (Nat.le_of_ble_eq_true rfl) trivial ?_
  refine ev_world (w' := ((fw_8.set 16 (ab_ob 5 [ab_I (0), ab_I (0), ab_I (0), ab_I (0), ab_I (0), ab_I (0), ab_I (0), ab_I (0), ab_I (0), ab_I (0), ab_R (17), ab_N, ab_N, ab_N, ab_N, ab_N, ab_N, ab_N])) ++ [ab_ai 0 7 (fun _ => 0)])) rfl ?_
  refine ev_aload_n de_Ri_init_12 rfl rfl ?_
  refine ev_bipush de_Ri_init_13 rfl ?_
  refine ev_newai (n := 7) (bc := 10) (bs := 147) de_Ri_init_15 ac_int (by decide) (by decide) (Nat.le_of_ble_eq_true rfl) (ab_okW_of (by decide +kernel)) (ab_okL_of rfl) (ab_okS_of rfl) ?_
  refine ev_top (b := ab_R 18) rfl ?_
  refine ev_world (w' := ((fw_8.set 16 (ab_ob 5 [ab_I (0), ab_I (0), ab_I (0), ab_I (0), ab_I (0), ab_I (0), ab_I (0), ab_I (0), ab_I (0), ab_I (0), ab_R (17), ab_N, ab_N, ab_N, ab_N, ab_N, ab_N, ab_N])) ++ [ab_ai 0 7 (fun _ => 0), ab_ai 0 7 (fun _ => 0)])) rfl ?_
  refine ev_putfield de_Ri_init_17 rfl fp_Ri_15 (Nat.le_of_ble_eq_true rfl) trivial ?_
  refine ev_world (w' := ((fw_8.set 16 (ab_ob 5 [ab_I (0), ab_I (0), ab_I (0), ab_I (0), ab_I (0), ab_I (0), ab_I (0), ab_I (0), ab_I (0), ab_I (0), ab_R (17), ab_R (18), ab_N, ab_N, ab_N, ab_N, ab_N, ab_N])) ++ [ab_ai 0 7 (fun _ => 0), ab_ai 0 7 (fun _ => 0)])) rfl ?_
  refine ev_aload_n de_Ri_init_20 rfl rfl ?_
  refine ev_bipush de_Ri_init_21 rfl ?_
  refine ev_newai (n := 7) (bc := 9) (bs := 140) de_Ri_init_23 ac_int (by decide) (by decide) (Nat.le_of_ble_eq_true rfl) (ab_okW_of (by decide +kernel)) (ab_okL_of rfl) (ab_okS_of rfl) ?_
  refine ev_top (b := ab_R 19) rfl ?_
  refine ev_world (w' := ((fw_8.set 16 (ab_ob 5 [ab_I (0), ab_I (0), ab_I (0), ab_I (0), ab_I (0), ab_I (0), ab_I (0), ab_I (0), ab_I (0), ab_I (0), ab_R (17), ab_R (18), ab_N, ab_N, ab_N, ab_N, ab_N, ab_N])) ++ [ab_ai 0 7 (fun _ => 0), ab_ai 0 7 (fun _ => 0), ab_ai 0 7 (fun _ => 0)])) rfl ?_
  refine ev_putfield de_Ri_init_25 rfl fp_Ri_18 (Nat.le_of_ble_eq_true rfl) trivial ?_
  refine ev_world (w' := ((fw_8.set 16 (ab_ob 5 [ab_I (0), ab_I (0), ab_I (0), ab_I (0), ab_I (0), ab_I (0), ab_I (0), ab_I (0), ab_I (0), ab_I (0), ab_R (17), ab_R (18), ab_R (19), ab_N, ab_N, ab_N, ab_N, ab_N])) ++ [ab_ai 0 7 (fun _ => 0), ab_ai 0 7 (fun _ => 0), ab_ai 0 7 (fun _ => 0)])) rfl ?_
  refine ev_aload_n de_Ri_init_28 rfl rfl ?_
  refine ev_bipush de_Ri_init_29 rfl ?_
  refine ev_newai (n := 35) (bc := 8) (bs := 105) de_Ri_init_31 ac_int (by decide) (by decide) (Nat.le_of_ble_eq_true rfl) (ab_okW_of (by decide +kernel)) (ab_okL_of rfl) (ab_okS_of rfl) ?_
  refine ev_top (b := ab_R 20) rfl ?_
  refine ev_world (w' := ((fw_8.set 16 (ab_ob 5 [ab_I (0), ab_I (0), ab_I (0), ab_I (0), ab_I (0), ab_I (0), ab_I (0), ab_I (0), ab_I (0), ab_I (0), ab_R (17), ab_R (18), ab_R (19), ab_N, ab_N, ab_N, ab_N, ab_N])) ++ [ab_ai 0 7 (fun _ => 0), ab_ai 0 7 (fun _ => 0), ab_ai 0 7 (fun _ => 0), ab_ai 0 35 (fun _ => 0)])) rfl ?_
  refine ev_putfield de_Ri_init_33 rfl fp_Ri_21 (Nat.le_of_ble_eq_true rfl) trivial ?_
  refine ev_world (w' := ((fw_8.set 16 (ab_ob 5 [ab_I (0), ab_I (0), ab_I (0), ab_I (0), ab_I (0), ab_I (0), ab_I (0), ab_I (0), ab_I (0), ab_I (0), ab_R (17), ab_R (18), ab_R (19), ab_R (20), ab_N, ab_N, ab_N, ab_N])) ++ [ab_ai 0 7 (fun _ => 0), ab_ai 0 7 (fun _ => 0), ab_ai 0 7 (fun _ => 0), ab_ai 0 35 (fun _ => 0)])) rfl ?_
  refine ev_aload_n de_Ri_init_36 rfl rfl ?_
  refine ev_bipush de_Ri_init_37 rfl ?_
  refine ev_newal (n := 24) (bc := 7) (bs := 81) de_Ri_init_39 ac_long (by decide) (by decide) (Nat.le_of_ble_eq_true rfl) (ab_okW_of (by decide +kernel)) (ab_okL_of rfl) (ab_okS_of rfl) ?_
  refine ev_top (b := ab_R 21) rfl ?_
  refine ev_world (w' := ((fw_8.set 16 (ab_ob 5 [ab_I (0), ab_I (0), ab_I (0), ab_I (0), ab_I (0), ab_I (0), ab_I (0), ab_I (0), ab_I (0), ab_I (0), ab_R (17), ab_R (18), ab_R (19), ab_R (20), ab_N, ab_N, ab_N, ab_N])) ++ [ab_ai 0 7 (fun _ => 0), ab_ai 0 7 (fun _ => 0), ab_ai 0 7 (fun _ => 0), ab_ai 0 35 (fun _ => 0), ab_al 24 (fun _ => 0)])) rfl ?_
  refine ev_putfield de_Ri_init_41 rfl fp_Ri_24 (Nat.le_of_ble_eq_true rfl) trivial ?_
  refine ev_world (w' := ((fw_8.set 16 (ab_ob 5 [ab_I (0), ab_I (0), ab_I (0), ab_I (0), ab_I (0), ab_I (0), ab_I (0), ab_I (0), ab_I (0), ab_I (0), ab_R (17), ab_R (18), ab_R (19), ab_R (20), ab_R (21), ab_N, ab_N, ab_N])) ++ [ab_ai 0 7 (fun _ => 0), ab_ai 0 7 (fun _ => 0), ab_ai 0 7 (fun _ => 0), ab_ai 0 35 (fun _ => 0), ab_al 24 (fun _ => 0)])) rfl ?_
  refine ev_aload_n de_Ri_init_44 rfl rfl ?_
  refine ev_bipush de_Ri_init_45 rfl ?_
  refine ev_newai (n := 24) (bc := 6) (bs := 57) de_Ri_init_47 ac_int (by decide) (by decide) (Nat.le_of_ble_eq_true rfl) (ab_okW_of (by decide +kernel)) (ab_okL_of rfl) (ab_okS_of rfl) ?_
  refine ev_top (b := ab_R 22) rfl ?_
  refine ev_world (w' := ((fw_8.set 16 (ab_ob 5 [ab_I (0), ab_I (0), ab_I (0), ab_I (0), ab_I (0), ab_I (0), ab_I (0), ab_I (0), ab_I (0), ab_I (0), ab_R (17), ab_R (18), ab_R (19), ab_R (20), ab_R (21), ab_N, ab_N, ab_N])) ++ [ab_ai 0 7 (fun _ => 0), ab_ai 0 7 (fun _ => 0), ab_ai 0 7 (fun _ => 0), ab_ai 0 35 (fun _ => 0), ab_al 24 (fun _ => 0), ab_ai 0 24 (fun _ => 0)])) rfl ?_
  refine ev_putfield de_Ri_init_49 rfl fp_Ri_28 (Nat.le_of_ble_eq_true rfl) trivial ?_
  refine ev_world (w' := ((fw_8.set 16 (ab_ob 5 [ab_I (0), ab_I (0), ab_I (0), ab_I (0), ab_I (0), ab_I (0), ab_I (0), ab_I (0), ab_I (0), ab_I (0), ab_R (17), ab_R (18), ab_R (19), ab_R (20), ab_R (21), ab_R (22), ab_N, ab_N])) ++ [ab_ai 0 7 (fun _ => 0), ab_ai 0 7 (fun _ => 0), ab_ai 0 7 (fun _ => 0), ab_ai 0 35 (fun _ => 0), ab_al 24 (fun _ => 0), ab_ai 0 24 (fun _ => 0)])) rfl ?_
  refine ev_aload_n de_Ri_init_52 rfl rfl ?_
  refine ev_bipush de_Ri_init_53 rfl ?_
  refine ev_newai (n := 12) (bc := 5) (bs := 45) de_Ri_init_55 ac_int (by decide) (by decide) (Nat.le_of_ble_eq_true rfl) (ab_okW_of (by decide +kernel)) (ab_okL_of rfl) (ab_okS_of rfl) ?_
  refine ev_top (b := ab_R 23) rfl ?_
  refine ev_world (w' := ((fw_8.set 16 (ab_ob 5 [ab_I (0), ab_I (0), ab_I (0), ab_I (0), ab_I (0), ab_I (0), ab_I (0), ab_I (0), ab_I (0), ab_I (0), ab_R (17), ab_R (18), ab_R (19), ab_R (20), ab_R (21), ab_R (22), ab_N, ab_N])) ++ [ab_ai 0 7 (fun _ => 0), ab_ai 0 7 (fun _ => 0), ab_ai 0 7 (fun _ => 0), ab_ai 0 35 (fun _ => 0), ab_al 24 (fun _ => 0), ab_ai 0 24 (fun _ => 0), ab_ai 0 12 (fun _ => 0)])) rfl ?_
  refine ev_putfield de_Ri_init_57 rfl fp_Ri_31 (Nat.le_of_ble_eq_true rfl) trivial ?_
  refine ev_world (w' := ((fw_8.set 16 (ab_ob 5 [ab_I (0), ab_I (0), ab_I (0), ab_I (0), ab_I (0), ab_I (0), ab_I (0), ab_I (0), ab_I (0), ab_I (0), ab_R (17), ab_R (18), ab_R (19), ab_R (20), ab_R (21), ab_R (22), ab_R (23), ab_N])) ++ [ab_ai 0 7 (fun _ => 0), ab_ai 0 7 (fun _ => 0), ab_ai 0 7 (fun _ => 0), ab_ai 0 35 (fun _ => 0), ab_al 24 (fun _ => 0), ab_ai 0 24 (fun _ => 0), ab_ai 0 12 (fun _ => 0)])) rfl ?_
  refine ev_aload_n de_Ri_init_60 rfl rfl ?_
  refine ev_new (N := 5) (bc := 4) (bs := 40) de_Ri_init_61 nw_Ri_34 (Nat.le_of_ble_eq_true rfl) (ab_okW_of (by decide +kernel)) (ab_okS_of rfl) (ab_okL_of rfl) (ab_okS_of rfl) ?_
  refine ev_top (b := ab_R 24) rfl ?_
  refine ev_world (w' := ((fw_8.set 16 (ab_ob 5 [ab_I (0), ab_I (0), ab_I (0), ab_I (0), ab_I (0), ab_I (0), ab_I (0), ab_I (0), ab_I (0), ab_I (0), ab_R (17), ab_R (18), ab_R (19), ab_R (20), ab_R (21), ab_R (22), ab_R (23), ab_N])) ++ [ab_ai 0 7 (fun _ => 0), ab_ai 0 7 (fun _ => 0), ab_ai 0 7 (fun _ => 0), ab_ai 0 35 (fun _ => 0), ab_al 24 (fun _ => 0), ab_ai 0 24 (fun _ => 0), ab_ai 0 12 (fun _ => 0), ab_ob 1 [ab_I (0), ab_N, ab_N, ab_N, ab_N]])) rfl ?_
  refine ev_dup de_Ri_init_64 rfl ?_
  refine ev_world (w' := fw_9) rfl ?_
  refine ev_xn (mc := 4) (ms := 40) (bc := 0) (bs := 0) de_Ri_init_65 fx_6 kb_Ri_36 ⟨im_Di_init, rfl, rfl⟩ rfl (Nat.le_of_ble_eq_true rfl) (by decide) (ab_okL_of rfl) (ab_okS_of rfl) ?_
  refine ev_putfield de_Ri_init_68 rfl fp_Ri_37 (Nat.le_of_ble_eq_true rfl) trivial ?_
  refine ev_world (w' := (fw_10.set 16 (ab_ob 5 [ab_I (0), ab_I (0), ab_I (0), ab_I (0), ab_I (0), ab_I (0), ab_I (0), ab_I (0), ab_I (0), ab_I (0), ab_R (17), ab_R (18), ab_R (19), ab_R (20), ab_R (21), ab_R (22), ab_R (23), ab_R (24)]))) rfl ?_
  exact ev_return de_Ri_init_71 rfl ⟨rfl, rfl⟩
def fw_12 : ab_W := [ab_ob 10 [ab_R (1), ab_R (3), ab_R (16), ab_R (29), ab_R (30), ab_R (31), ab_I (0), ab_N, ab_N, ab_N, ab_N, ab_N, ab_N], ab_ob 8 [ab_R (2), ab_I (0), ab_I (0), ab_R (ab_sb + 0), ab_I (0), ab_I (0), ab_I (0), ab_I (0), ab_I (0)], ab_ai 1 400 (fun _ => 0), ab_ob 5 [ab_I (0), ab_I (0), ab_I (0), ab_I (0), ab_I (0), ab_I (0), ab_I (0), ab_I (0), ab_I (0), ab_I (0), ab_R (4), ab_R (5), ab_R (6), ab_R (7), ab_R (8), ab_R (9), ab_R (10), ab_R (11)], ab_ai 0 7 (fun _ => 0), ab_ai 0 7 (fun _ => 0), ab_ai 0 7 (fun _ => 0), ab_ai 0 35 (fun _ => 0), ab_al 24 (fun _ => 0), ab_ai 0 24 (fun _ => 0), ab_ai 0 12 (fun _ => 0), ab_ob 1 [ab_I (0), ab_R (12), ab_R (13), ab_R (14), ab_R (15)], ab_ai 0 10 (fun _ => 0), ab_ai 0 10 (fun _ => 0), ab_ai 0 10 (fun _ => 0), ab_ai 0 10 (fun _ => 0), ab_ob 5 [ab_I (0), ab_I (0), ab_I (0), ab_I (0), ab_I (0), ab_I (0), ab_I (0), ab_I (0), ab_I (0), ab_I (0), ab_R (17), ab_R (18), ab_R (19), ab_R (20), ab_R (21), ab_R (22), ab_R (23), ab_R (24)], ab_ai 0 7 (fun _ => 0), ab_ai 0 7 (fun _ => 0), ab_ai 0 7 (fun _ => 0), ab_ai 0 35 (fun _ => 0), ab_al 24 (fun _ => 0), ab_ai 0 24 (fun _ => 0), ab_ai 0 12 (fun _ => 0), ab_ob 1 [ab_I (0), ab_R (25), ab_R (26), ab_R (27), ab_R (28)], ab_ai 0 10 (fun _ => 0), ab_ai 0 10 (fun _ => 0), ab_ai 0 10 (fun _ => 0), ab_ai 0 10 (fun _ => 0), ab_ar 4 4 (fun _ => none), ab_ai 2 4 (fun _ => 0), ab_ar 5 6 (fun _ => none), ab_ob 0 [ab_N, ab_N, ab_N, ab_I (0), ab_I (0)]]
def fw_13 : ab_W := [ab_ob 10 [ab_R (1), ab_R (3), ab_R (16), ab_R (29), ab_R (30), ab_R (31), ab_I (0), ab_N, ab_N, ab_N, ab_N, ab_N, ab_N], ab_ob 8 [ab_R (2), ab_I (0), ab_I (0), ab_R (ab_sb + 0), ab_I (0), ab_I (0), ab_I (0), ab_I (0), ab_I (0)], ab_ai 1 400 (fun _ => 0), ab_ob 5 [ab_I (0), ab_I (0), ab_I (0), ab_I (0), ab_I (0), ab_I (0), ab_I (0), ab_I (0), ab_I (0), ab_I (0), ab_R (4), ab_R (5), ab_R (6), ab_R (7), ab_R (8), ab_R (9), ab_R (10), ab_R (11)], ab_ai 0 7 (fun _ => 0), ab_ai 0 7 (fun _ => 0), ab_ai 0 7 (fun _ => 0), ab_ai 0 35 (fun _ => 0), ab_al 24 (fun _ => 0), ab_ai 0 24 (fun _ => 0), ab_ai 0 12 (fun _ => 0), ab_ob 1 [ab_I (0), ab_R (12), ab_R (13), ab_R (14), ab_R (15)], ab_ai 0 10 (fun _ => 0), ab_ai 0 10 (fun _ => 0), ab_ai 0 10 (fun _ => 0), ab_ai 0 10 (fun _ => 0), ab_ob 5 [ab_I (0), ab_I (0), ab_I (0), ab_I (0), ab_I (0), ab_I (0), ab_I (0), ab_I (0), ab_I (0), ab_I (0), ab_R (17), ab_R (18), ab_R (19), ab_R (20), ab_R (21), ab_R (22), ab_R (23), ab_R (24)], ab_ai 0 7 (fun _ => 0), ab_ai 0 7 (fun _ => 0), ab_ai 0 7 (fun _ => 0), ab_ai 0 35 (fun _ => 0), ab_al 24 (fun _ => 0), ab_ai 0 24 (fun _ => 0), ab_ai 0 12 (fun _ => 0), ab_ob 1 [ab_I (0), ab_R (25), ab_R (26), ab_R (27), ab_R (28)], ab_ai 0 10 (fun _ => 0), ab_ai 0 10 (fun _ => 0), ab_ai 0 10 (fun _ => 0), ab_ai 0 10 (fun _ => 0), ab_ar 4 4 (fun _ => none), ab_ai 2 4 (fun _ => 0), ab_ar 5 6 (fun _ => none), ab_ob 0 [ab_R (33), ab_R (34), ab_R (35), ab_I (0), ab_I (0)], ab_ai 0 20 (fun _ => 0), ab_ai 0 20 (fun _ => 0), ab_ai 0 20 (fun _ => 0)]
theorem de_Ac_init_0 : decode prog_2_method_1_code 0 = .ok (.aload_n 0, 1) := by decide +kernel
theorem de_Ac_init_1 : decode prog_2_method_1_code 1 = .ok (.invokespecial 1, 3) := by decide +kernel
theorem de_Ac_init_4 : decode prog_2_method_1_code 4 = .ok (.aload_n 0, 1) := by decide +kernel
theorem de_Ac_init_5 : decode prog_2_method_1_code 5 = .ok (.bipush 20, 2) := by decide +kernel
theorem de_Ac_init_7 : decode prog_2_method_1_code 7 = .ok (.newarray .int, 2) := by decide +kernel
theorem de_Ac_init_9 : decode prog_2_method_1_code 9 = .ok (.putfield 9, 3) := by decide +kernel
theorem de_Ac_init_12 : decode prog_2_method_1_code 12 = .ok (.aload_n 0, 1) := by decide +kernel
theorem de_Ac_init_13 : decode prog_2_method_1_code 13 = .ok (.bipush 20, 2) := by decide +kernel
theorem de_Ac_init_15 : decode prog_2_method_1_code 15 = .ok (.newarray .int, 2) := by decide +kernel
theorem de_Ac_init_17 : decode prog_2_method_1_code 17 = .ok (.putfield 13, 3) := by decide +kernel
theorem de_Ac_init_20 : decode prog_2_method_1_code 20 = .ok (.aload_n 0, 1) := by decide +kernel
theorem de_Ac_init_21 : decode prog_2_method_1_code 21 = .ok (.bipush 20, 2) := by decide +kernel
theorem de_Ac_init_23 : decode prog_2_method_1_code 23 = .ok (.newarray .int, 2) := by decide +kernel
theorem de_Ac_init_25 : decode prog_2_method_1_code 25 = .ok (.putfield 16, 3) := by decide +kernel
theorem de_Ac_init_28 : decode prog_2_method_1_code 28 = .ok (.return_, 1) := by decide +kernel
set_option maxHeartbeats 4000000 in
set_option maxRecDepth 20000 in
theorem fx_7  : ab_Mt g_G g_rs mt_Ac_init 1 3 60 [ab_R (32)] fw_12 (ab_is none fw_13) := by
  refine ab_Mt.of rfl (Nat.le_of_ble_eq_true rfl) ?_
  show ab_Ev g_G g_rs mt_Ac_init _ _ _ 0 [some (ab_R (32))] [] _ _
  refine ev_aload_n de_Ac_init_0 rfl rfl ?_
  refine ev_objInit de_Ac_init_1 oi_Ac (Nat.le_of_ble_eq_true rfl) (by decide) ?_
  refine ev_aload_n de_Ac_init_4 rfl rfl ?_
  refine ev_bipush de_Ac_init_5 rfl ?_
  refine ev_newai (n := 20) (bc := 2) (bs := 40) de_Ac_init_7 ac_int (by decide) (by decide) (Nat.le_of_ble_eq_true rfl) (ab_okW_r (by decide +kernel) rfl (ab_all2 ab_okr0 ab_okr0)) (ab_okL_of rfl) (ab_okS_of rfl) ?_
  refine ev_top (b := ab_R 33) rfl ?_
  refine ev_world (w' := (fw_12 ++ [ab_ai 0 20 (fun _ => 0)])) rfl ?_
  refine ev_putfield de_Ac_init_9 rfl fp_Ac_9 (Nat.le_of_ble_eq_true rfl) trivial ?_
  refine ev_world (w' := ((fw_12.set 32 (ab_ob 0 [ab_R (33), ab_N, ab_N, ab_I (0), ab_I (0)])) ++ [ab_ai 0 20 (fun _ => 0)])) rfl ?_
  refine ev_aload_n de_Ac_init_12 rfl rfl ?_
  refine ev_bipush de_Ac_init_13 rfl ?_
  refine ev_newai (n := 20) (bc := 1) (bs := 20) de_Ac_init_15 ac_int (by decide) (by decide) (Nat.le_of_ble_eq_true rfl) (ab_okW_r (by decide +kernel) rfl (ab_all2 ab_okr0 ab_okr0)) (ab_okL_of rfl) (ab_okS_of rfl) ?_
  refine ev_top (b := ab_R 34) rfl ?_
  refine ev_world (w' := ((fw_12.set 32 (ab_ob 0 [ab_R (33), ab_N, ab_N, ab_I (0), ab_I (0)])) ++ [ab_ai 0 20 (fun _ => 0), ab_ai 0 20 (fun _ => 0)])) rfl ?_
  refine ev_putfield de_Ac_init_17 rfl fp_Ac_13 (Nat.le_of_ble_eq_true rfl) trivial ?_
  refine ev_world (w' := ((fw_12.set 32 (ab_ob 0 [ab_R (33), ab_R (34), ab_N, ab_I (0), ab_I (0)])) ++ [ab_ai 0 20 (fun _ => 0), ab_ai 0 20 (fun _ => 0)])) rfl ?_
  refine ev_aload_n de_Ac_init_20 rfl rfl ?_
  refine ev_bipush de_Ac_init_21 rfl ?_
  refine ev_newai (n := 20) (bc := 0) (bs := 0) de_Ac_init_23 ac_int (by decide) (by decide) (Nat.le_of_ble_eq_true rfl) (ab_okW_r (by decide +kernel) rfl (ab_all2 ab_okr0 ab_okr0)) (ab_okL_of rfl) (ab_okS_of rfl) ?_
  refine ev_top (b := ab_R 35) rfl ?_
  refine ev_world (w' := ((fw_12.set 32 (ab_ob 0 [ab_R (33), ab_R (34), ab_N, ab_I (0), ab_I (0)])) ++ [ab_ai 0 20 (fun _ => 0), ab_ai 0 20 (fun _ => 0), ab_ai 0 20 (fun _ => 0)])) rfl ?_
  refine ev_putfield de_Ac_init_25 rfl fp_Ac_16 (Nat.le_of_ble_eq_true rfl) trivial ?_
  refine ev_world (w' := ((fw_12.set 32 (ab_ob 0 [ab_R (33), ab_R (34), ab_R (35), ab_I (0), ab_I (0)])) ++ [ab_ai 0 20 (fun _ => 0), ab_ai 0 20 (fun _ => 0), ab_ai 0 20 (fun _ => 0)])) rfl ?_
  exact ev_return de_Ac_init_28 rfl ⟨rfl, rfl⟩
def fw_14 : ab_W := [ab_ob 10 [ab_R (1), ab_R (3), ab_R (16), ab_R (29), ab_R (30), ab_R (31), ab_I (0), ab_R (32), ab_N, ab_N, ab_N, ab_N, ab_N], ab_ob 8 [ab_R (2), ab_I (0), ab_I (0), ab_R (ab_sb + 0), ab_I (0), ab_I (0), ab_I (0), ab_I (0), ab_I (0)], ab_ai 1 400 (fun _ => 0), ab_ob 5 [ab_I (0), ab_I (0), ab_I (0), ab_I (0), ab_I (0), ab_I (0), ab_I (0), ab_I (0), ab_I (0), ab_I (0), ab_R (4), ab_R (5), ab_R (6), ab_R (7), ab_R (8), ab_R (9), ab_R (10), ab_R (11)], ab_ai 0 7 (fun _ => 0), ab_ai 0 7 (fun _ => 0), ab_ai 0 7 (fun _ => 0), ab_ai 0 35 (fun _ => 0), ab_al 24 (fun _ => 0), ab_ai 0 24 (fun _ => 0), ab_ai 0 12 (fun _ => 0), ab_ob 1 [ab_I (0), ab_R (12), ab_R (13), ab_R (14), ab_R (15)], ab_ai 0 10 (fun _ => 0), ab_ai 0 10 (fun _ => 0), ab_ai 0 10 (fun _ => 0), ab_ai 0 10 (fun _ => 0), ab_ob 5 [ab_I (0), ab_I (0), ab_I (0), ab_I (0), ab_I (0), ab_I (0), ab_I (0), ab_I (0), ab_I (0), ab_I (0), ab_R (17), ab_R (18), ab_R (19), ab_R (20), ab_R (21), ab_R (22), ab_R (23), ab_R (24)], ab_ai 0 7 (fun _ => 0), ab_ai 0 7 (fun _ => 0), ab_ai 0 7 (fun _ => 0), ab_ai 0 35 (fun _ => 0), ab_al 24 (fun _ => 0), ab_ai 0 24 (fun _ => 0), ab_ai 0 12 (fun _ => 0), ab_ob 1 [ab_I (0), ab_R (25), ab_R (26), ab_R (27), ab_R (28)], ab_ai 0 10 (fun _ => 0), ab_ai 0 10 (fun _ => 0), ab_ai 0 10 (fun _ => 0), ab_ai 0 10 (fun _ => 0), ab_ar 4 4 (fun _ => none), ab_ai 2 4 (fun _ => 0), ab_ar 5 6 (fun _ => none), ab_ob 0 [ab_R (33), ab_R (34), ab_R (35), ab_I (0), ab_I (0)], ab_ai 0 20 (fun _ => 0), ab_ai 0 20 (fun _ => 0), ab_ai 0 20 (fun _ => 0), ab_ob 7 [ab_N, ab_I (0), ab_I (0)]]
def fw_15 : ab_W := [ab_ob 10 [ab_R (1), ab_R (3), ab_R (16), ab_R (29), ab_R (30), ab_R (31), ab_I (0), ab_R (32), ab_N, ab_N, ab_N, ab_N, ab_N], ab_ob 8 [ab_R (2), ab_I (0), ab_I (0), ab_R (ab_sb + 0), ab_I (0), ab_I (0), ab_I (0), ab_I (0), ab_I (0)], ab_ai 1 400 (fun _ => 0), ab_ob 5 [ab_I (0), ab_I (0), ab_I (0), ab_I (0), ab_I (0), ab_I (0), ab_I (0), ab_I (0), ab_I (0), ab_I (0), ab_R (4), ab_R (5), ab_R (6), ab_R (7), ab_R (8), ab_R (9), ab_R (10), ab_R (11)], ab_ai 0 7 (fun _ => 0), ab_ai 0 7 (fun _ => 0), ab_ai 0 7 (fun _ => 0), ab_ai 0 35 (fun _ => 0), ab_al 24 (fun _ => 0), ab_ai 0 24 (fun _ => 0), ab_ai 0 12 (fun _ => 0), ab_ob 1 [ab_I (0), ab_R (12), ab_R (13), ab_R (14), ab_R (15)], ab_ai 0 10 (fun _ => 0), ab_ai 0 10 (fun _ => 0), ab_ai 0 10 (fun _ => 0), ab_ai 0 10 (fun _ => 0), ab_ob 5 [ab_I (0), ab_I (0), ab_I (0), ab_I (0), ab_I (0), ab_I (0), ab_I (0), ab_I (0), ab_I (0), ab_I (0), ab_R (17), ab_R (18), ab_R (19), ab_R (20), ab_R (21), ab_R (22), ab_R (23), ab_R (24)], ab_ai 0 7 (fun _ => 0), ab_ai 0 7 (fun _ => 0), ab_ai 0 7 (fun _ => 0), ab_ai 0 35 (fun _ => 0), ab_al 24 (fun _ => 0), ab_ai 0 24 (fun _ => 0), ab_ai 0 12 (fun _ => 0), ab_ob 1 [ab_I (0), ab_R (25), ab_R (26), ab_R (27), ab_R (28)], ab_ai 0 10 (fun _ => 0), ab_ai 0 10 (fun _ => 0), ab_ai 0 10 (fun _ => 0), ab_ai 0 10 (fun _ => 0), ab_ar 4 4 (fun _ => none), ab_ai 2 4 (fun _ => 0), ab_ar 5 6 (fun _ => none), ab_ob 0 [ab_R (33), ab_R (34), ab_R (35), ab_I (0), ab_I (0)], ab_ai 0 20 (fun _ => 0), ab_ai 0 20 (fun _ => 0), ab_ai 0 20 (fun _ => 0), ab_ob 7 [ab_R (37), ab_I (0), ab_I (0)], ab_ai 0 400 (fun _ => 0)]
theorem de_Ru_init_0 : decode prog_10_method_1_code 0 = .ok (.aload_n 0, 1) := by decide +kernel
theorem de_Ru_init_1 : decode prog_10_method_1_code 1 = .ok (.invokespecial 3, 3) := by decide +kernel
theorem de_Ru_init_4 : decode prog_10_method_1_code 4 = .ok (.aload_n 0, 1) := by decide +kernel
theorem de_Ru_init_5 : decode prog_10_method_1_code 5 = .ok (.sipush 400, 3) := by decide +kernel
theorem de_Ru_init_8 : decode prog_10_method_1_code 8 = .ok (.newarray .int, 2) := by decide +kernel
theorem de_Ru_init_10 : decode prog_10_method_1_code 10 = .ok (.putfield 9, 3) := by decide +kernel
theorem de_Ru_init_13 : decode prog_10_method_1_code 13 = .ok (.return_, 1) := by decide +kernel
set_option maxHeartbeats 4000000 in
set_option maxRecDepth 20000 in
theorem fx_8  : ab_Mt g_G g_rs mt_Ru_init 1 1 400 [ab_R (36)] fw_14 (ab_is none fw_15) := by
  refine ab_Mt.of rfl (Nat.le_of_ble_eq_true rfl) ?_
  show ab_Ev g_G g_rs mt_Ru_init _ _ _ 0 [some (ab_R (36))] [] _ _
  refine ev_aload_n de_Ru_init_0 rfl rfl ?_
  refine ev_objInit de_Ru_init_1 oi_Ru (Nat.le_of_ble_eq_true rfl) (by decide) ?_
  refine ev_aload_n de_Ru_init_4 rfl rfl ?_
  refine ev_sipush de_Ru_init_5 rfl ?_
  refine ev_newai (n := 400) (bc := 0) (bs := 0) de_Ru_init_8 ac_int (by decide) (by decide) (Nat.le_of_ble_eq_true rfl) (ab_okW_r (by decide +kernel) rfl (ab_all2 ab_okr0 ab_okr0)) (ab_okL_of rfl) (ab_okS_of rfl) ?_
  refine ev_top (b := ab_R 37) rfl ?_
  refine ev_world (w' := (fw_14 ++ [ab_ai 0 400 (fun _ => 0)])) rfl ?_
  refine ev_putfield de_Ru_init_10 rfl fp_Ru_9 (Nat.le_of_ble_eq_true rfl) trivial ?_
  refine ev_world (w' := ((fw_14.set 36 (ab_ob 7 [ab_R (37), ab_I (0), ab_I (0)])) ++ [ab_ai 0 400 (fun _ => 0)])) rfl ?_
  exact ev_return de_Ru_init_13 rfl ⟨rfl, rfl⟩
def fw_16 : ab_W := [ab_ob 10 [ab_R (1), ab_R (3), ab_R (16), ab_R (29), ab_R (30), ab_R (31), ab_I (0), ab_R (32), ab_R (36), ab_N, ab_N, ab_N, ab_N], ab_ob 8 [ab_R (2), ab_I (0), ab_I (0), ab_R (ab_sb + 0), ab_I (0), ab_I (0), ab_I (0), ab_I (0), ab_I (0)], ab_ai 1 400 (fun _ => 0), ab_ob 5 [ab_I (0), ab_I (0), ab_I (0), ab_I (0), ab_I (0), ab_I (0), ab_I (0), ab_I (0), ab_I (0), ab_I (0), ab_R (4), ab_R (5), ab_R (6), ab_R (7), ab_R (8), ab_R (9), ab_R (10), ab_R (11)], ab_ai 0 7 (fun _ => 0), ab_ai 0 7 (fun _ => 0), ab_ai 0 7 (fun _ => 0), ab_ai 0 35 (fun _ => 0), ab_al 24 (fun _ => 0), ab_ai 0 24 (fun _ => 0), ab_ai 0 12 (fun _ => 0), ab_ob 1 [ab_I (0), ab_R (12), ab_R (13), ab_R (14), ab_R (15)], ab_ai 0 10 (fun _ => 0), ab_ai 0 10 (fun _ => 0), ab_ai 0 10 (fun _ => 0), ab_ai 0 10 (fun _ => 0), ab_ob 5 [ab_I (0), ab_I (0), ab_I (0), ab_I (0), ab_I (0), ab_I (0), ab_I (0), ab_I (0), ab_I (0), ab_I (0), ab_R (17), ab_R (18), ab_R (19), ab_R (20), ab_R (21), ab_R (22), ab_R (23), ab_R (24)], ab_ai 0 7 (fun _ => 0), ab_ai 0 7 (fun _ => 0), ab_ai 0 7 (fun _ => 0), ab_ai 0 35 (fun _ => 0), ab_al 24 (fun _ => 0), ab_ai 0 24 (fun _ => 0), ab_ai 0 12 (fun _ => 0), ab_ob 1 [ab_I (0), ab_R (25), ab_R (26), ab_R (27), ab_R (28)], ab_ai 0 10 (fun _ => 0), ab_ai 0 10 (fun _ => 0), ab_ai 0 10 (fun _ => 0), ab_ai 0 10 (fun _ => 0), ab_ar 4 4 (fun _ => none), ab_ai 2 4 (fun _ => 0), ab_ar 5 6 (fun _ => none), ab_ob 0 [ab_R (33), ab_R (34), ab_R (35), ab_I (0), ab_I (0)], ab_ai 0 20 (fun _ => 0), ab_ai 0 20 (fun _ => 0), ab_ai 0 20 (fun _ => 0), ab_ob 7 [ab_R (37), ab_I (0), ab_I (0)], ab_ai 0 400 (fun _ => 0), ab_ob 3 [ab_N, ab_I (0)]]
def fw_17 : ab_W := [ab_ob 10 [ab_R (1), ab_R (3), ab_R (16), ab_R (29), ab_R (30), ab_R (31), ab_I (0), ab_R (32), ab_R (36), ab_N, ab_N, ab_N, ab_N], ab_ob 8 [ab_R (2), ab_I (0), ab_I (0), ab_R (ab_sb + 0), ab_I (0), ab_I (0), ab_I (0), ab_I (0), ab_I (0)], ab_ai 1 400 (fun _ => 0), ab_ob 5 [ab_I (0), ab_I (0), ab_I (0), ab_I (0), ab_I (0), ab_I (0), ab_I (0), ab_I (0), ab_I (0), ab_I (0), ab_R (4), ab_R (5), ab_R (6), ab_R (7), ab_R (8), ab_R (9), ab_R (10), ab_R (11)], ab_ai 0 7 (fun _ => 0), ab_ai 0 7 (fun _ => 0), ab_ai 0 7 (fun _ => 0), ab_ai 0 35 (fun _ => 0), ab_al 24 (fun _ => 0), ab_ai 0 24 (fun _ => 0), ab_ai 0 12 (fun _ => 0), ab_ob 1 [ab_I (0), ab_R (12), ab_R (13), ab_R (14), ab_R (15)], ab_ai 0 10 (fun _ => 0), ab_ai 0 10 (fun _ => 0), ab_ai 0 10 (fun _ => 0), ab_ai 0 10 (fun _ => 0), ab_ob 5 [ab_I (0), ab_I (0), ab_I (0), ab_I (0), ab_I (0), ab_I (0), ab_I (0), ab_I (0), ab_I (0), ab_I (0), ab_R (17), ab_R (18), ab_R (19), ab_R (20), ab_R (21), ab_R (22), ab_R (23), ab_R (24)], ab_ai 0 7 (fun _ => 0), ab_ai 0 7 (fun _ => 0), ab_ai 0 7 (fun _ => 0), ab_ai 0 35 (fun _ => 0), ab_al 24 (fun _ => 0), ab_ai 0 24 (fun _ => 0), ab_ai 0 12 (fun _ => 0), ab_ob 1 [ab_I (0), ab_R (25), ab_R (26), ab_R (27), ab_R (28)], ab_ai 0 10 (fun _ => 0), ab_ai 0 10 (fun _ => 0), ab_ai 0 10 (fun _ => 0), ab_ai 0 10 (fun _ => 0), ab_ar 4 4 (fun _ => none), ab_ai 2 4 (fun _ => 0), ab_ar 5 6 (fun _ => none), ab_ob 0 [ab_R (33), ab_R (34), ab_R (35), ab_I (0), ab_I (0)], ab_ai 0 20 (fun _ => 0), ab_ai 0 20 (fun _ => 0), ab_ai 0 20 (fun _ => 0), ab_ob 7 [ab_R (37), ab_I (0), ab_I (0)], ab_ai 0 400 (fun _ => 0), ab_ob 3 [ab_R (39), ab_I (0)], ab_al 32 (fun _ => 0)]
theorem de_Ma_init_0 : decode prog_5_method_1_code 0 = .ok (.aload_n 0, 1) := by decide +kernel
theorem de_Ma_init_1 : decode prog_5_method_1_code 1 = .ok (.invokespecial 3, 3) := by decide +kernel
theorem de_Ma_init_4 : decode prog_5_method_1_code 4 = .ok (.aload_n 0, 1) := by decide +kernel
theorem de_Ma_init_5 : decode prog_5_method_1_code 5 = .ok (.bipush 32, 2) := by decide +kernel
theorem de_Ma_init_7 : decode prog_5_method_1_code 7 = .ok (.newarray .long, 2) := by decide +kernel
theorem de_Ma_init_9 : decode prog_5_method_1_code 9 = .ok (.putfield 11, 3) := by decide +kernel
theorem de_Ma_init_12 : decode prog_5_method_1_code 12 = .ok (.return_, 1) := by decide +kernel
set_option maxHeartbeats 4000000 in
set_option maxRecDepth 20000 in
theorem fx_9  : ab_Mt g_G g_rs mt_Ma_init 1 1 32 [ab_R (38)] fw_16 (ab_is none fw_17) := by
  refine ab_Mt.of rfl (Nat.le_of_ble_eq_true rfl) ?_
  show ab_Ev g_G g_rs mt_Ma_init _ _ _ 0 [some (ab_R (38))] [] _ _
  refine ev_aload_n de_Ma_init_0 rfl rfl ?_
  refine ev_objInit de_Ma_init_1 oi_Ma (Nat.le_of_ble_eq_true rfl) (by decide) ?_
  refine ev_aload_n de_Ma_init_4 rfl rfl ?_
  refine ev_bipush de_Ma_init_5 rfl ?_
  refine ev_newal (n := 32) (bc := 0) (bs := 0) de_Ma_init_7 ac_long (by decide) (by decide) (Nat.le_of_ble_eq_true rfl) (ab_okW_r (by decide +kernel) rfl (ab_all2 ab_okr0 ab_okr0)) (ab_okL_of rfl) (ab_okS_of rfl) ?_
  refine ev_top (b := ab_R 39) rfl ?_
  refine ev_world (w' := (fw_16 ++ [ab_al 32 (fun _ => 0)])) rfl ?_
  refine ev_putfield de_Ma_init_9 rfl fp_Ma_11 (Nat.le_of_ble_eq_true rfl) trivial ?_
  refine ev_world (w' := ((fw_16.set 38 (ab_ob 3 [ab_R (39), ab_I (0)])) ++ [ab_al 32 (fun _ => 0)])) rfl ?_
  exact ev_return de_Ma_init_12 rfl ⟨rfl, rfl⟩
def fw_18 : ab_W := [ab_ob 10 [ab_R (1), ab_R (3), ab_R (16), ab_R (29), ab_R (30), ab_R (31), ab_I (0), ab_R (32), ab_R (36), ab_R (38), ab_N, ab_N, ab_N], ab_ob 8 [ab_R (2), ab_I (0), ab_I (0), ab_R (ab_sb + 0), ab_I (0), ab_I (0), ab_I (0), ab_I (0), ab_I (0)], ab_ai 1 400 (fun _ => 0), ab_ob 5 [ab_I (0), ab_I (0), ab_I (0), ab_I (0), ab_I (0), ab_I (0), ab_I (0), ab_I (0), ab_I (0), ab_I (0), ab_R (4), ab_R (5), ab_R (6), ab_R (7), ab_R (8), ab_R (9), ab_R (10), ab_R (11)], ab_ai 0 7 (fun _ => 0), ab_ai 0 7 (fun _ => 0), ab_ai 0 7 (fun _ => 0), ab_ai 0 35 (fun _ => 0), ab_al 24 (fun _ => 0), ab_ai 0 24 (fun _ => 0), ab_ai 0 12 (fun _ => 0), ab_ob 1 [ab_I (0), ab_R (12), ab_R (13), ab_R (14), ab_R (15)], ab_ai 0 10 (fun _ => 0), ab_ai 0 10 (fun _ => 0), ab_ai 0 10 (fun _ => 0), ab_ai 0 10 (fun _ => 0), ab_ob 5 [ab_I (0), ab_I (0), ab_I (0), ab_I (0), ab_I (0), ab_I (0), ab_I (0), ab_I (0), ab_I (0), ab_I (0), ab_R (17), ab_R (18), ab_R (19), ab_R (20), ab_R (21), ab_R (22), ab_R (23), ab_R (24)], ab_ai 0 7 (fun _ => 0), ab_ai 0 7 (fun _ => 0), ab_ai 0 7 (fun _ => 0), ab_ai 0 35 (fun _ => 0), ab_al 24 (fun _ => 0), ab_ai 0 24 (fun _ => 0), ab_ai 0 12 (fun _ => 0), ab_ob 1 [ab_I (0), ab_R (25), ab_R (26), ab_R (27), ab_R (28)], ab_ai 0 10 (fun _ => 0), ab_ai 0 10 (fun _ => 0), ab_ai 0 10 (fun _ => 0), ab_ai 0 10 (fun _ => 0), ab_ar 4 4 (fun _ => none), ab_ai 2 4 (fun _ => 0), ab_ar 5 6 (fun _ => none), ab_ob 0 [ab_R (33), ab_R (34), ab_R (35), ab_I (0), ab_I (0)], ab_ai 0 20 (fun _ => 0), ab_ai 0 20 (fun _ => 0), ab_ai 0 20 (fun _ => 0), ab_ob 7 [ab_R (37), ab_I (0), ab_I (0)], ab_ai 0 400 (fun _ => 0), ab_ob 3 [ab_R (39), ab_I (0)], ab_al 32 (fun _ => 0), ab_ob 4 [ab_N, ab_N, ab_I (0), ab_N, ab_N]]
def fw_19 : ab_W := [ab_ob 10 [ab_R (1), ab_R (3), ab_R (16), ab_R (29), ab_R (30), ab_R (31), ab_I (0), ab_R (32), ab_R (36), ab_R (38), ab_N, ab_N, ab_N], ab_ob 8 [ab_R (2), ab_I (0), ab_I (0), ab_R (ab_sb + 0), ab_I (0), ab_I (0), ab_I (0), ab_I (0), ab_I (0)], ab_ai 1 400 (fun _ => 0), ab_ob 5 [ab_I (0), ab_I (0), ab_I (0), ab_I (0), ab_I (0), ab_I (0), ab_I (0), ab_I (0), ab_I (0), ab_I (0), ab_R (4), ab_R (5), ab_R (6), ab_R (7), ab_R (8), ab_R (9), ab_R (10), ab_R (11)], ab_ai 0 7 (fun _ => 0), ab_ai 0 7 (fun _ => 0), ab_ai 0 7 (fun _ => 0), ab_ai 0 35 (fun _ => 0), ab_al 24 (fun _ => 0), ab_ai 0 24 (fun _ => 0), ab_ai 0 12 (fun _ => 0), ab_ob 1 [ab_I (0), ab_R (12), ab_R (13), ab_R (14), ab_R (15)], ab_ai 0 10 (fun _ => 0), ab_ai 0 10 (fun _ => 0), ab_ai 0 10 (fun _ => 0), ab_ai 0 10 (fun _ => 0), ab_ob 5 [ab_I (0), ab_I (0), ab_I (0), ab_I (0), ab_I (0), ab_I (0), ab_I (0), ab_I (0), ab_I (0), ab_I (0), ab_R (17), ab_R (18), ab_R (19), ab_R (20), ab_R (21), ab_R (22), ab_R (23), ab_R (24)], ab_ai 0 7 (fun _ => 0), ab_ai 0 7 (fun _ => 0), ab_ai 0 7 (fun _ => 0), ab_ai 0 35 (fun _ => 0), ab_al 24 (fun _ => 0), ab_ai 0 24 (fun _ => 0), ab_ai 0 12 (fun _ => 0), ab_ob 1 [ab_I (0), ab_R (25), ab_R (26), ab_R (27), ab_R (28)], ab_ai 0 10 (fun _ => 0), ab_ai 0 10 (fun _ => 0), ab_ai 0 10 (fun _ => 0), ab_ai 0 10 (fun _ => 0), ab_ar 4 4 (fun _ => none), ab_ai 2 4 (fun _ => 0), ab_ar 5 6 (fun _ => none), ab_ob 0 [ab_R (33), ab_R (34), ab_R (35), ab_I (0), ab_I (0)], ab_ai 0 20 (fun _ => 0), ab_ai 0 20 (fun _ => 0), ab_ai 0 20 (fun _ => 0), ab_ob 7 [ab_R (37), ab_I (0), ab_I (0)], ab_ai 0 400 (fun _ => 0), ab_ob 3 [ab_R (39), ab_I (0)], ab_al 32 (fun _ => 0), ab_ob 4 [ab_R (41), ab_R (42), ab_I (0), ab_R (43), ab_R (44)], ab_ai 0 5 (fun _ => 0), ab_ai 0 5 (fun _ => 0), ab_ai 0 6 (fun _ => 0), ab_ai 0 42 (fun _ => 0)]
theorem de_Pl_init_0 : decode prog_6_method_1_code 0 = .ok (.aload_n 0, 1) := by decide +kernel
theorem de_Pl_init_1 : decode prog_6_method_1_code 1 = .ok (.invokespecial 3, 3) := by decide +kernel
theorem de_Pl_init_4 : decode prog_6_method_1_code 4 = .ok (.aload_n 0, 1) := by decide +kernel
theorem de_Pl_init_5 : decode prog_6_method_1_code 5 = .ok (.iconst 5, 1) := by decide +kernel
theorem de_Pl_init_6 : decode prog_6_method_1_code 6 = .ok (.newarray .int, 2) := by decide +kernel
theorem de_Pl_init_8 : decode prog_6_method_1_code 8 = .ok (.putfield 11, 3) := by decide +kernel
theorem de_Pl_init_11 : decode prog_6_method_1_code 11 = .ok (.aload_n 0, 1) := by decide +kernel
theorem de_Pl_init_12 : decode prog_6_method_1_code 12 = .ok (.iconst 5, 1) := by decide +kernel
theorem de_Pl_init_13 : decode prog_6_method_1_code 13 = .ok (.newarray .int, 2) := by decide +kernel
theorem de_Pl_init_15 : decode prog_6_method_1_code 15 = .ok (.putfield 15, 3) := by decide +kernel
theorem de_Pl_init_18 : decode prog_6_method_1_code 18 = .ok (.aload_n 0, 1) := by decide +kernel
theorem de_Pl_init_19 : decode prog_6_method_1_code 19 = .ok (.bipush 6, 2) := by decide +kernel
theorem de_Pl_init_21 : decode prog_6_method_1_code 21 = .ok (.newarray .int, 2) := by decide +kernel
theorem de_Pl_init_23 : decode prog_6_method_1_code 23 = .ok (.putfield 18, 3) := by decide +kernel
theorem de_Pl_init_26 : decode prog_6_method_1_code 26 = .ok (.aload_n 0, 1) := by decide +kernel
theorem de_Pl_init_27 : decode prog_6_method_1_code 27 = .ok (.bipush 42, 2) := by decide +kernel
theorem de_Pl_init_29 : decode prog_6_method_1_code 29 = .ok (.newarray .int, 2) := by decide +kernel
theorem de_Pl_init_31 : decode prog_6_method_1_code 31 = .ok (.putfield 21, 3) := by decide +kernel
theorem de_Pl_init_34 : decode prog_6_method_1_code 34 = .ok (.return_, 1) := by decide +kernel
set_option maxHeartbeats 4000000 in
set_option maxRecDepth 20000 in
theorem fx_10  : ab_Mt g_G g_rs mt_Pl_init 1 4 58 [ab_R (40)] fw_18 (ab_is none fw_19) := by
  refine ab_Mt.of rfl (Nat.le_of_ble_eq_true rfl) ?_
  show ab_Ev g_G g_rs mt_Pl_init _ _ _ 0 [some (ab_R (40))] [] _ _
  refine ev_aload_n de_Pl_init_0 rfl rfl ?_
  refine ev_objInit de_Pl_init_1 oi_Pl (Nat.le_of_ble_eq_true rfl) (by decide) ?_
  refine ev_aload_n de_Pl_init_4 rfl rfl ?_
  refine ev_iconst de_Pl_init_5 ?_
  refine ev_newai (n := 5) (bc := 3) (bs := 53) de_Pl_init_6 ac_int (by decide) (by decide) (Nat.le_of_ble_eq_true rfl) (ab_okW_r (by decide +kernel) rfl (ab_all2 ab_okr0 ab_okr0)) (ab_okL_of rfl) (ab_okS_of rfl) ?_
  refine ev_top (b := ab_R 41) rfl ?_
  refine ev_world (w' := (fw_18 ++ [ab_ai 0 5 (fun _ => 0)])) rfl ?_
  refine ev_putfield de_Pl_init_8 rfl fp_Pl_11 (Nat.le_of_ble_eq_true rfl) trivial ?_
  refine ev_world (w' := ((fw_18.set 40 (ab_ob 4 [ab_R (41), ab_N, ab_I (0), ab_N, ab_N])) ++ [ab_ai 0 5 (fun _ => 0)])) rfl ?_
  refine ev_aload_n de_Pl_init_11 rfl rfl ?_
  refine ev_iconst de_Pl_init_12 ?_
  refine ev_newai (n := 5) (bc := 2) (bs := 48) de_Pl_init_13 ac_int (by decide) (by decide) (Nat.le_of_ble_eq_true rfl) (ab_okW_r (by decide +kernel) rfl (ab_all2 ab_okr0 ab_okr0)) (ab_okL_of rfl) (ab_okS_of rfl) ?_
  refine ev_top (b := ab_R 42) rfl ?_
  refine ev_world (w' := ((fw_18.set 40 (ab_ob 4 [ab_R (41), ab_N, ab_I (0), ab_N, ab_N])) ++ [ab_ai 0 5 (fun _ => 0), ab_ai 0 5 (fun _ => 0)])) rfl ?_
  refine ev_putfield de_Pl_init_15 rfl fp_Pl_15 (Nat.le_of_ble_eq_true rfl) trivial ?_
  refine ev_world (w' := ((fw_18.set 40 (ab_ob 4 [ab_R (41), ab_R (42), ab_I (0), ab_N, ab_N])) ++ [ab_ai 0 5 (fun _ => 0), ab_ai 0 5 (fun _ => 0)])) rfl ?_
  refine ev_aload_n de_Pl_init_18 rfl rfl ?_
  refine ev_bipush de_Pl_init_19 rfl ?_
  refine ev_newai (n := 6) (bc := 1) (bs := 42) de_Pl_init_21 ac_int (by decide) (by decide) (Nat.le_of_ble_eq_true rfl) (ab_okW_r (by decide +kernel) rfl (ab_all2 ab_okr0 ab_okr0)) (ab_okL_of rfl) (ab_okS_of rfl) ?_
  refine ev_top (b := ab_R 43) rfl ?_
  refine ev_world (w' := ((fw_18.set 40 (ab_ob 4 [ab_R (41), ab_R (42), ab_I (0), ab_N, ab_N])) ++ [ab_ai 0 5 (fun _ => 0), ab_ai 0 5 (fun _ => 0), ab_ai 0 6 (fun _ => 0)])) rfl ?_
  refine ev_putfield de_Pl_init_23 rfl fp_Pl_18 (Nat.le_of_ble_eq_true rfl) trivial ?_
  refine ev_world (w' := ((fw_18.set 40 (ab_ob 4 [ab_R (41), ab_R (42), ab_I (0), ab_R (43), ab_N])) ++ [ab_ai 0 5 (fun _ => 0), ab_ai 0 5 (fun _ => 0), ab_ai 0 6 (fun _ => 0)])) rfl ?_
  refine ev_aload_n de_Pl_init_26 rfl rfl ?_
  refine ev_bipush de_Pl_init_27 rfl ?_
  refine ev_newai (n := 42) (bc := 0) (bs := 0) de_Pl_init_29 ac_int (by decide) (by decide) (Nat.le_of_ble_eq_true rfl) (ab_okW_r (by decide +kernel) rfl (ab_all2 ab_okr0 ab_okr0)) (ab_okL_of rfl) (ab_okS_of rfl) ?_
  refine ev_top (b := ab_R 44) rfl ?_
  refine ev_world (w' := ((fw_18.set 40 (ab_ob 4 [ab_R (41), ab_R (42), ab_I (0), ab_R (43), ab_N])) ++ [ab_ai 0 5 (fun _ => 0), ab_ai 0 5 (fun _ => 0), ab_ai 0 6 (fun _ => 0), ab_ai 0 42 (fun _ => 0)])) rfl ?_
  refine ev_putfield de_Pl_init_31 rfl fp_Pl_21 (Nat.le_of_ble_eq_true rfl) trivial ?_
  refine ev_world (w' := ((fw_18.set 40 (ab_ob 4 [ab_R (41), ab_R (42), ab_I (0), ab_R (43), ab_R (44)])) ++ [ab_ai 0 5 (fun _ => 0), ab_ai 0 5 (fun _ => 0), ab_ai 0 6 (fun _ => 0), ab_ai 0 42 (fun _ => 0)])) rfl ?_
  exact ev_return de_Pl_init_34 rfl ⟨rfl, rfl⟩
def fw_20 : ab_W := [ab_ob 10 [ab_R (1), ab_R (3), ab_R (16), ab_R (29), ab_R (30), ab_R (31), ab_I (0), ab_R (32), ab_R (36), ab_R (38), ab_R (40), ab_N, ab_N], ab_ob 8 [ab_R (2), ab_I (0), ab_I (0), ab_R (ab_sb + 0), ab_I (0), ab_I (0), ab_I (0), ab_I (0), ab_I (0)], ab_ai 1 400 (fun _ => 0), ab_ob 5 [ab_I (0), ab_I (0), ab_I (0), ab_I (0), ab_I (0), ab_I (0), ab_I (0), ab_I (0), ab_I (0), ab_I (0), ab_R (4), ab_R (5), ab_R (6), ab_R (7), ab_R (8), ab_R (9), ab_R (10), ab_R (11)], ab_ai 0 7 (fun _ => 0), ab_ai 0 7 (fun _ => 0), ab_ai 0 7 (fun _ => 0), ab_ai 0 35 (fun _ => 0), ab_al 24 (fun _ => 0), ab_ai 0 24 (fun _ => 0), ab_ai 0 12 (fun _ => 0), ab_ob 1 [ab_I (0), ab_R (12), ab_R (13), ab_R (14), ab_R (15)], ab_ai 0 10 (fun _ => 0), ab_ai 0 10 (fun _ => 0), ab_ai 0 10 (fun _ => 0), ab_ai 0 10 (fun _ => 0), ab_ob 5 [ab_I (0), ab_I (0), ab_I (0), ab_I (0), ab_I (0), ab_I (0), ab_I (0), ab_I (0), ab_I (0), ab_I (0), ab_R (17), ab_R (18), ab_R (19), ab_R (20), ab_R (21), ab_R (22), ab_R (23), ab_R (24)], ab_ai 0 7 (fun _ => 0), ab_ai 0 7 (fun _ => 0), ab_ai 0 7 (fun _ => 0), ab_ai 0 35 (fun _ => 0), ab_al 24 (fun _ => 0), ab_ai 0 24 (fun _ => 0), ab_ai 0 12 (fun _ => 0), ab_ob 1 [ab_I (0), ab_R (25), ab_R (26), ab_R (27), ab_R (28)], ab_ai 0 10 (fun _ => 0), ab_ai 0 10 (fun _ => 0), ab_ai 0 10 (fun _ => 0), ab_ai 0 10 (fun _ => 0), ab_ar 4 4 (fun _ => none), ab_ai 2 4 (fun _ => 0), ab_ar 5 6 (fun _ => none), ab_ob 0 [ab_R (33), ab_R (34), ab_R (35), ab_I (0), ab_I (0)], ab_ai 0 20 (fun _ => 0), ab_ai 0 20 (fun _ => 0), ab_ai 0 20 (fun _ => 0), ab_ob 7 [ab_R (37), ab_I (0), ab_I (0)], ab_ai 0 400 (fun _ => 0), ab_ob 3 [ab_R (39), ab_I (0)], ab_al 32 (fun _ => 0), ab_ob 4 [ab_R (41), ab_R (42), ab_I (0), ab_R (43), ab_R (44)], ab_ai 0 5 (fun _ => 0), ab_ai 0 5 (fun _ => 0), ab_ai 0 6 (fun _ => 0), ab_ai 0 42 (fun _ => 0), ab_ob 9 [ab_N, ab_N, ab_N, ab_N, ab_N]]
def fw_21 : ab_W := [ab_ob 10 [ab_R (1), ab_R (3), ab_R (16), ab_R (29), ab_R (30), ab_R (31), ab_I (0), ab_R (32), ab_R (36), ab_R (38), ab_R (40), ab_N, ab_N], ab_ob 8 [ab_R (2), ab_I (0), ab_I (0), ab_R (ab_sb + 0), ab_I (0), ab_I (0), ab_I (0), ab_I (0), ab_I (0)], ab_ai 1 400 (fun _ => 0), ab_ob 5 [ab_I (0), ab_I (0), ab_I (0), ab_I (0), ab_I (0), ab_I (0), ab_I (0), ab_I (0), ab_I (0), ab_I (0), ab_R (4), ab_R (5), ab_R (6), ab_R (7), ab_R (8), ab_R (9), ab_R (10), ab_R (11)], ab_ai 0 7 (fun _ => 0), ab_ai 0 7 (fun _ => 0), ab_ai 0 7 (fun _ => 0), ab_ai 0 35 (fun _ => 0), ab_al 24 (fun _ => 0), ab_ai 0 24 (fun _ => 0), ab_ai 0 12 (fun _ => 0), ab_ob 1 [ab_I (0), ab_R (12), ab_R (13), ab_R (14), ab_R (15)], ab_ai 0 10 (fun _ => 0), ab_ai 0 10 (fun _ => 0), ab_ai 0 10 (fun _ => 0), ab_ai 0 10 (fun _ => 0), ab_ob 5 [ab_I (0), ab_I (0), ab_I (0), ab_I (0), ab_I (0), ab_I (0), ab_I (0), ab_I (0), ab_I (0), ab_I (0), ab_R (17), ab_R (18), ab_R (19), ab_R (20), ab_R (21), ab_R (22), ab_R (23), ab_R (24)], ab_ai 0 7 (fun _ => 0), ab_ai 0 7 (fun _ => 0), ab_ai 0 7 (fun _ => 0), ab_ai 0 35 (fun _ => 0), ab_al 24 (fun _ => 0), ab_ai 0 24 (fun _ => 0), ab_ai 0 12 (fun _ => 0), ab_ob 1 [ab_I (0), ab_R (25), ab_R (26), ab_R (27), ab_R (28)], ab_ai 0 10 (fun _ => 0), ab_ai 0 10 (fun _ => 0), ab_ai 0 10 (fun _ => 0), ab_ai 0 10 (fun _ => 0), ab_ar 4 4 (fun _ => none), ab_ai 2 4 (fun _ => 0), ab_ar 5 6 (fun _ => none), ab_ob 0 [ab_R (33), ab_R (34), ab_R (35), ab_I (0), ab_I (0)], ab_ai 0 20 (fun _ => 0), ab_ai 0 20 (fun _ => 0), ab_ai 0 20 (fun _ => 0), ab_ob 7 [ab_R (37), ab_I (0), ab_I (0)], ab_ai 0 400 (fun _ => 0), ab_ob 3 [ab_R (39), ab_I (0)], ab_al 32 (fun _ => 0), ab_ob 4 [ab_R (41), ab_R (42), ab_I (0), ab_R (43), ab_R (44)], ab_ai 0 5 (fun _ => 0), ab_ai 0 5 (fun _ => 0), ab_ai 0 6 (fun _ => 0), ab_ai 0 42 (fun _ => 0), ab_ob 9 [ab_R (46), ab_R (47), ab_R (48), ab_R (49), ab_R (50)], ab_ai 0 7 (fun _ => 0), ab_ai 0 49 (fun _ => 0), ab_ai 0 7 (fun _ => 0), ab_ai 0 128 (fun _ => 0), ab_ai 0 128 (fun _ => 0)]
theorem de_Tr_init_0 : decode prog_12_method_1_code 0 = .ok (.aload_n 0, 1) := by decide +kernel
theorem de_Tr_init_1 : decode prog_12_method_1_code 1 = .ok (.invokespecial 3, 3) := by decide +kernel
theorem de_Tr_init_4 : decode prog_12_method_1_code 4 = .ok (.aload_n 0, 1) := by decide +kernel
theorem de_Tr_init_5 : decode prog_12_method_1_code 5 = .ok (.bipush 7, 2) := by decide +kernel
theorem de_Tr_init_7 : decode prog_12_method_1_code 7 = .ok (.newarray .int, 2) := by decide +kernel
theorem de_Tr_init_9 : decode prog_12_method_1_code 9 = .ok (.putfield 9, 3) := by decide +kernel
theorem de_Tr_init_12 : decode prog_12_method_1_code 12 = .ok (.aload_n 0, 1) := by decide +kernel
theorem de_Tr_init_13 : decode prog_12_method_1_code 13 = .ok (.bipush 49, 2) := by decide +kernel
theorem de_Tr_init_15 : decode prog_12_method_1_code 15 = .ok (.newarray .int, 2) := by decide +kernel
theorem de_Tr_init_17 : decode prog_12_method_1_code 17 = .ok (.putfield 15, 3) := by decide +kernel
theorem de_Tr_init_20 : decode prog_12_method_1_code 20 = .ok (.aload_n 0, 1) := by decide +kernel
theorem de_Tr_init_21 : decode prog_12_method_1_code 21 = .ok (.bipush 7, 2) := by decide +kernel
theorem de_Tr_init_23 : decode prog_12_method_1_code 23 = .ok (.newarray .int, 2) := by decide +kernel
theorem de_Tr_init_25 : decode prog_12_method_1_code 25 = .ok (.putfield 18, 3) := by decide +kernel
theorem de_Tr_init_28 : decode prog_12_method_1_code 28 = .ok (.aload_n 0, 1) := by decide +kernel
theorem de_Tr_init_29 : decode prog_12_method_1_code 29 = .ok (.sipush 128, 3) := by decide +kernel
theorem de_Tr_init_32 : decode prog_12_method_1_code 32 = .ok (.newarray .int, 2) := by decide +kernel
theorem de_Tr_init_34 : decode prog_12_method_1_code 34 = .ok (.putfield 21, 3) := by decide +kernel
theorem de_Tr_init_37 : decode prog_12_method_1_code 37 = .ok (.aload_n 0, 1) := by decide +kernel
theorem de_Tr_init_38 : decode prog_12_method_1_code 38 = .ok (.sipush 128, 3) := by decide +kernel
theorem de_Tr_init_41 : decode prog_12_method_1_code 41 = .ok (.newarray .int, 2) := by decide +kernel
theorem de_Tr_init_43 : decode prog_12_method_1_code 43 = .ok (.putfield 24, 3) := by decide +kernel
theorem de_Tr_init_46 : decode prog_12_method_1_code 46 = .ok (.return_, 1) := by decide +kernel
set_option maxHeartbeats 4000000 in
set_option maxRecDepth 20000 in
theorem fx_11  : ab_Mt g_G g_rs mt_Tr_init 1 5 319 [ab_R (45)] fw_20 (ab_is none fw_21) := by
  refine ab_Mt.of rfl (Nat.le_of_ble_eq_true rfl) ?_
  show ab_Ev g_G g_rs mt_Tr_init _ _ _ 0 [some (ab_R (45))] [] _ _
  refine ev_aload_n de_Tr_init_0 rfl rfl ?_
  refine ev_objInit de_Tr_init_1 oi_Tr (Nat.le_of_ble_eq_true rfl) (by decide) ?_
  refine ev_aload_n de_Tr_init_4 rfl rfl ?_
  refine ev_bipush de_Tr_init_5 rfl ?_
  refine ev_newai (n := 7) (bc := 4) (bs := 312) de_Tr_init_7 ac_int (by decide) (by decide) (Nat.le_of_ble_eq_true rfl) (ab_okW_r (by decide +kernel) rfl (ab_all2 ab_okr0 ab_okr0)) (ab_okL_of rfl) (ab_okS_of rfl) ?_
  refine ev_top (b := ab_R 46) rfl ?_
  refine ev_world (w' := (fw_20 ++ [ab_ai 0 7 (fun _ => 0)])) rfl ?_
  refine ev_putfield de_Tr_init_9 rfl fp_Tr_9 (Nat.le_of_ble_eq_true rfl) trivial ?_
  refine ev_world (w' := ((fw_20.set 45 (ab_ob 9 [ab_R (46), ab_N, ab_N, ab_N, ab_N])) ++ [ab_ai 0 7 (fun _ => 0)])) rfl ?_
  refine ev_aload_n de_Tr_init_12 rfl rfl ?_
  refine ev_bipush de_Tr_init_13 rfl ?_
  refine ev_newai (n := 49) (bc := 3) (bs := 263) de_Tr_init_15 ac_int (by decide) (by decide) (Nat.le_of_ble_eq_true rfl) (ab_okW_r (by decide +kernel) rfl (ab_all2 ab_okr0 ab_okr0)) (ab_okL_of rfl) (ab_okS_of rfl) ?_
  refine ev_top (b := ab_R 47) rfl ?_
  refine ev_world (w' := ((fw_20.set 45 (ab_ob 9 [ab_R (46), ab_N, ab_N, ab_N, ab_N])) ++ [ab_ai 0 7 (fun _ => 0), ab_ai 0 49 (fun _ => 0)])) rfl ?_
  refine ev_putfield de_Tr_init_17 rfl fp_Tr_15 (Nat.le_of_ble_eq_true rfl) trivial ?_
  refine ev_world (w' := ((fw_20.set 45 (ab_ob 9 [ab_R (46), ab_R (47), ab_N, ab_N, ab_N])) ++ [ab_ai 0 7 (fun _ => 0), ab_ai 0 49 (fun _ => 0)])) rfl ?_
  refine ev_aload_n de_Tr_init_20 rfl rfl ?_
  refine ev_bipush de_Tr_init_21 rfl ?_
  refine ev_newai (n := 7) (bc := 2) (bs := 256) de_Tr_init_23 ac_int (by decide) (by decide) (Nat.le_of_ble_eq_true rfl) (ab_okW_r (by decide +kernel) rfl (ab_all2 ab_okr0 ab_okr0)) (ab_okL_of rfl) (ab_okS_of rfl) ?_
  refine ev_top (b := ab_R 48) rfl ?_
  refine ev_world (w' := ((fw_20.set 45 (ab_ob 9 [ab_R (46), ab_R (47), ab_N, ab_N, ab_N])) ++ [ab_ai 0 7 (fun _ => 0), ab_ai 0 49 (fun _ => 0), ab_ai 0 7 (fun _ => 0)])) rfl ?_
  refine ev_putfield de_Tr_init_25 rfl fp_Tr_18 (Nat.le_of_ble_eq_true rfl) trivial ?_
  refine ev_world (w' := ((fw_20.set 45 (ab_ob 9 [ab_R (46), ab_R (47), ab_R (48), ab_N, ab_N])) ++ [ab_ai 0 7 (fun _ => 0), ab_ai 0 49 (fun _ => 0), ab_ai 0 7 (fun _ => 0)])) rfl ?_
  refine ev_aload_n de_Tr_init_28 rfl rfl ?_
  refine ev_sipush de_Tr_init_29 rfl ?_
  refine ev_newai (n := 128) (bc := 1) (bs := 128) de_Tr_init_32 ac_int (by decide) (by decide) (Nat.le_of_ble_eq_true rfl) (ab_okW_r (by decide +kernel) rfl (ab_all2 ab_okr0 ab_okr0)) (ab_okL_of rfl) (ab_okS_of rfl) ?_
  refine ev_top (b := ab_R 49) rfl ?_
  refine ev_world (w' := ((fw_20.set 45 (ab_ob 9 [ab_R (46), ab_R (47), ab_R (48), ab_N, ab_N])) ++ [ab_ai 0 7 (fun _ => 0), ab_ai 0 49 (fun _ => 0), ab_ai 0 7 (fun _ => 0), ab_ai 0 128 (fun _ => 0)])) rfl ?_
  refine ev_putfield de_Tr_init_34 rfl fp_Tr_21 (Nat.le_of_ble_eq_true rfl) trivial ?_
  refine ev_world (w' := ((fw_20.set 45 (ab_ob 9 [ab_R (46), ab_R (47), ab_R (48), ab_R (49), ab_N])) ++ [ab_ai 0 7 (fun _ => 0), ab_ai 0 49 (fun _ => 0), ab_ai 0 7 (fun _ => 0), ab_ai 0 128 (fun _ => 0)])) rfl ?_
  refine ev_aload_n de_Tr_init_37 rfl rfl ?_
  refine ev_sipush de_Tr_init_38 rfl ?_
  refine ev_newai (n := 128) (bc := 0) (bs := 0) de_Tr_init_41 ac_int (by decide) (by decide) (Nat.le_of_ble_eq_true rfl) (ab_okW_r (by decide +kernel) rfl (ab_all2 ab_okr0 ab_okr0)) (ab_okL_of rfl) (ab_okS_of rfl) ?_
  refine ev_top (b := ab_R 50) rfl ?_
  refine ev_world (w' := ((fw_20.set 45 (ab_ob 9 [ab_R (46), ab_R (47), ab_R (48), ab_R (49), ab_N])) ++ [ab_ai 0 7 (fun _ => 0), ab_ai 0 49 (fun _ => 0), ab_ai 0 7 (fun _ => 0), ab_ai 0 128 (fun _ => 0), ab_ai 0 128 (fun _ => 0)])) rfl ?_
  refine ev_putfield de_Tr_init_43 rfl fp_Tr_24 (Nat.le_of_ble_eq_true rfl) trivial ?_
  refine ev_world (w' := ((fw_20.set 45 (ab_ob 9 [ab_R (46), ab_R (47), ab_R (48), ab_R (49), ab_R (50)])) ++ [ab_ai 0 7 (fun _ => 0), ab_ai 0 49 (fun _ => 0), ab_ai 0 7 (fun _ => 0), ab_ai 0 128 (fun _ => 0), ab_ai 0 128 (fun _ => 0)])) rfl ?_
  exact ev_return de_Tr_init_46 rfl ⟨rfl, rfl⟩
def fw_22 : ab_W := [ab_ob 10 [ab_R (1), ab_R (3), ab_R (16), ab_R (29), ab_R (30), ab_R (31), ab_I (0), ab_R (32), ab_R (36), ab_R (38), ab_R (40), ab_R (45), ab_N], ab_ob 8 [ab_R (2), ab_I (0), ab_I (0), ab_R (ab_sb + 0), ab_I (0), ab_I (0), ab_I (0), ab_I (0), ab_I (0)], ab_ai 1 400 (fun _ => 0), ab_ob 5 [ab_I (0), ab_I (0), ab_I (0), ab_I (0), ab_I (0), ab_I (0), ab_I (0), ab_I (0), ab_I (0), ab_I (0), ab_R (4), ab_R (5), ab_R (6), ab_R (7), ab_R (8), ab_R (9), ab_R (10), ab_R (11)], ab_ai 0 7 (fun _ => 0), ab_ai 0 7 (fun _ => 0), ab_ai 0 7 (fun _ => 0), ab_ai 0 35 (fun _ => 0), ab_al 24 (fun _ => 0), ab_ai 0 24 (fun _ => 0), ab_ai 0 12 (fun _ => 0), ab_ob 1 [ab_I (0), ab_R (12), ab_R (13), ab_R (14), ab_R (15)], ab_ai 0 10 (fun _ => 0), ab_ai 0 10 (fun _ => 0), ab_ai 0 10 (fun _ => 0), ab_ai 0 10 (fun _ => 0), ab_ob 5 [ab_I (0), ab_I (0), ab_I (0), ab_I (0), ab_I (0), ab_I (0), ab_I (0), ab_I (0), ab_I (0), ab_I (0), ab_R (17), ab_R (18), ab_R (19), ab_R (20), ab_R (21), ab_R (22), ab_R (23), ab_R (24)], ab_ai 0 7 (fun _ => 0), ab_ai 0 7 (fun _ => 0), ab_ai 0 7 (fun _ => 0), ab_ai 0 35 (fun _ => 0), ab_al 24 (fun _ => 0), ab_ai 0 24 (fun _ => 0), ab_ai 0 12 (fun _ => 0), ab_ob 1 [ab_I (0), ab_R (25), ab_R (26), ab_R (27), ab_R (28)], ab_ai 0 10 (fun _ => 0), ab_ai 0 10 (fun _ => 0), ab_ai 0 10 (fun _ => 0), ab_ai 0 10 (fun _ => 0), ab_ar 4 4 (fun _ => none), ab_ai 2 4 (fun _ => 0), ab_ar 5 6 (fun _ => none), ab_ob 0 [ab_R (33), ab_R (34), ab_R (35), ab_I (0), ab_I (0)], ab_ai 0 20 (fun _ => 0), ab_ai 0 20 (fun _ => 0), ab_ai 0 20 (fun _ => 0), ab_ob 7 [ab_R (37), ab_I (0), ab_I (0)], ab_ai 0 400 (fun _ => 0), ab_ob 3 [ab_R (39), ab_I (0)], ab_al 32 (fun _ => 0), ab_ob 4 [ab_R (41), ab_R (42), ab_I (0), ab_R (43), ab_R (44)], ab_ai 0 5 (fun _ => 0), ab_ai 0 5 (fun _ => 0), ab_ai 0 6 (fun _ => 0), ab_ai 0 42 (fun _ => 0), ab_ob 9 [ab_R (46), ab_R (47), ab_R (48), ab_R (49), ab_R (50)], ab_ai 0 7 (fun _ => 0), ab_ai 0 49 (fun _ => 0), ab_ai 0 7 (fun _ => 0), ab_ai 0 128 (fun _ => 0), ab_ai 0 128 (fun _ => 0), ab_ob 2 [ab_N, ab_N, ab_I (0), ab_N, ab_I (0), ab_I (0)]]
def fw_23 : ab_W := [ab_ob 10 [ab_R (1), ab_R (3), ab_R (16), ab_R (29), ab_R (30), ab_R (31), ab_I (0), ab_R (32), ab_R (36), ab_R (38), ab_R (40), ab_R (45), ab_N], ab_ob 8 [ab_R (2), ab_I (0), ab_I (0), ab_R (ab_sb + 0), ab_I (0), ab_I (0), ab_I (0), ab_I (0), ab_I (0)], ab_ai 1 400 (fun _ => 0), ab_ob 5 [ab_I (0), ab_I (0), ab_I (0), ab_I (0), ab_I (0), ab_I (0), ab_I (0), ab_I (0), ab_I (0), ab_I (0), ab_R (4), ab_R (5), ab_R (6), ab_R (7), ab_R (8), ab_R (9), ab_R (10), ab_R (11)], ab_ai 0 7 (fun _ => 0), ab_ai 0 7 (fun _ => 0), ab_ai 0 7 (fun _ => 0), ab_ai 0 35 (fun _ => 0), ab_al 24 (fun _ => 0), ab_ai 0 24 (fun _ => 0), ab_ai 0 12 (fun _ => 0), ab_ob 1 [ab_I (0), ab_R (12), ab_R (13), ab_R (14), ab_R (15)], ab_ai 0 10 (fun _ => 0), ab_ai 0 10 (fun _ => 0), ab_ai 0 10 (fun _ => 0), ab_ai 0 10 (fun _ => 0), ab_ob 5 [ab_I (0), ab_I (0), ab_I (0), ab_I (0), ab_I (0), ab_I (0), ab_I (0), ab_I (0), ab_I (0), ab_I (0), ab_R (17), ab_R (18), ab_R (19), ab_R (20), ab_R (21), ab_R (22), ab_R (23), ab_R (24)], ab_ai 0 7 (fun _ => 0), ab_ai 0 7 (fun _ => 0), ab_ai 0 7 (fun _ => 0), ab_ai 0 35 (fun _ => 0), ab_al 24 (fun _ => 0), ab_ai 0 24 (fun _ => 0), ab_ai 0 12 (fun _ => 0), ab_ob 1 [ab_I (0), ab_R (25), ab_R (26), ab_R (27), ab_R (28)], ab_ai 0 10 (fun _ => 0), ab_ai 0 10 (fun _ => 0), ab_ai 0 10 (fun _ => 0), ab_ai 0 10 (fun _ => 0), ab_ar 4 4 (fun _ => none), ab_ai 2 4 (fun _ => 0), ab_ar 5 6 (fun _ => none), ab_ob 0 [ab_R (33), ab_R (34), ab_R (35), ab_I (0), ab_I (0)], ab_ai 0 20 (fun _ => 0), ab_ai 0 20 (fun _ => 0), ab_ai 0 20 (fun _ => 0), ab_ob 7 [ab_R (37), ab_I (0), ab_I (0)], ab_ai 0 400 (fun _ => 0), ab_ob 3 [ab_R (39), ab_I (0)], ab_al 32 (fun _ => 0), ab_ob 4 [ab_R (41), ab_R (42), ab_I (0), ab_R (43), ab_R (44)], ab_ai 0 5 (fun _ => 0), ab_ai 0 5 (fun _ => 0), ab_ai 0 6 (fun _ => 0), ab_ai 0 42 (fun _ => 0), ab_ob 9 [ab_R (46), ab_R (47), ab_R (48), ab_R (49), ab_R (50)], ab_ai 0 7 (fun _ => 0), ab_ai 0 49 (fun _ => 0), ab_ai 0 7 (fun _ => 0), ab_ai 0 128 (fun _ => 0), ab_ai 0 128 (fun _ => 0), ab_ob 2 [ab_R (52), ab_R (53), ab_I (0), ab_R (54), ab_I (0), ab_I (0)], ab_ai 0 84 (fun _ => 0), ab_ai 0 84 (fun _ => 0), ab_ai 0 35 (fun _ => 0)]
theorem de_Gu_init_0 : decode prog_4_method_1_code 0 = .ok (.aload_n 0, 1) := by decide +kernel
theorem de_Gu_init_1 : decode prog_4_method_1_code 1 = .ok (.invokespecial 3, 3) := by decide +kernel
theorem de_Gu_init_4 : decode prog_4_method_1_code 4 = .ok (.aload_n 0, 1) := by decide +kernel
theorem de_Gu_init_5 : decode prog_4_method_1_code 5 = .ok (.bipush 84, 2) := by decide +kernel
theorem de_Gu_init_7 : decode prog_4_method_1_code 7 = .ok (.newarray .int, 2) := by decide +kernel
theorem de_Gu_init_9 : decode prog_4_method_1_code 9 = .ok (.putfield 11, 3) := by decide +kernel
theorem de_Gu_init_12 : decode prog_4_method_1_code 12 = .ok (.aload_n 0, 1) := by decide +kernel
theorem de_Gu_init_13 : decode prog_4_method_1_code 13 = .ok (.bipush 84, 2) := by decide +kernel
theorem de_Gu_init_15 : decode prog_4_method_1_code 15 = .ok (.newarray .int, 2) := by decide +kernel
theorem de_Gu_init_17 : decode prog_4_method_1_code 17 = .ok (.putfield 15, 3) := by decide +kernel
theorem de_Gu_init_20 : decode prog_4_method_1_code 20 = .ok (.aload_n 0, 1) := by decide +kernel
theorem de_Gu_init_21 : decode prog_4_method_1_code 21 = .ok (.bipush 35, 2) := by decide +kernel
theorem de_Gu_init_23 : decode prog_4_method_1_code 23 = .ok (.newarray .int, 2) := by decide +kernel
theorem de_Gu_init_25 : decode prog_4_method_1_code 25 = .ok (.putfield 18, 3) := by decide +kernel
theorem de_Gu_init_28 : decode prog_4_method_1_code 28 = .ok (.return_, 1) := by decide +kernel
set_option maxHeartbeats 4000000 in
set_option maxRecDepth 20000 in
theorem fx_12  : ab_Mt g_G g_rs mt_Gu_init 1 3 203 [ab_R (51)] fw_22 (ab_is none fw_23) := by
  refine ab_Mt.of rfl (Nat.le_of_ble_eq_true rfl) ?_
  show ab_Ev g_G g_rs mt_Gu_init _ _ _ 0 [some (ab_R (51))] [] _ _
  refine ev_aload_n de_Gu_init_0 rfl rfl ?_
  refine ev_objInit de_Gu_init_1 oi_Gu (Nat.le_of_ble_eq_true rfl) (by decide) ?_
  refine ev_aload_n de_Gu_init_4 rfl rfl ?_
  refine ev_bipush de_Gu_init_5 rfl ?_
  refine ev_newai (n := 84) (bc := 2) (bs := 119) de_Gu_init_7 ac_int (by decide) (by decide) (Nat.le_of_ble_eq_true rfl) (ab_okW_r (by decide +kernel) rfl (ab_all2 ab_okr0 ab_okr0)) (ab_okL_of rfl) (ab_okS_of rfl) ?_
  refine ev_top (b := ab_R 52) rfl ?_
  refine ev_world (w' := (fw_22 ++ [ab_ai 0 84 (fun _ => 0)])) rfl ?_
  refine ev_putfield de_Gu_init_9 rfl fp_Gu_11 (Nat.le_of_ble_eq_true rfl) trivial ?_
  refine ev_world (w' := ((fw_22.set 51 (ab_ob 2 [ab_R (52), ab_N, ab_I (0), ab_N, ab_I (0), ab_I (0)])) ++ [ab_ai 0 84 (fun _ => 0)])) rfl ?_
  refine ev_aload_n de_Gu_init_12 rfl rfl ?_
  refine ev_bipush de_Gu_init_13 rfl ?_
  refine ev_newai (n := 84) (bc := 1) (bs := 35) de_Gu_init_15 ac_int (by decide) (by decide) (Nat.le_of_ble_eq_true rfl) (ab_okW_r (by decide +kernel) rfl (ab_all2 ab_okr0 ab_okr0)) (ab_okL_of rfl) (ab_okS_of rfl) ?_
  refine ev_top (b := ab_R 53) rfl ?_
  refine ev_world (w' := ((fw_22.set 51 (ab_ob 2 [ab_R (52), ab_N, ab_I (0), ab_N, ab_I (0), ab_I (0)])) ++ [ab_ai 0 84 (fun _ => 0), ab_ai 0 84 (fun _ => 0)])) rfl ?_
  refine ev_putfield de_Gu_init_17 rfl fp_Gu_15 (Nat.le_of_ble_eq_true rfl) trivial ?_
  refine ev_world (w' := ((fw_22.set 51 (ab_ob 2 [ab_R (52), ab_R (53), ab_I (0), ab_N, ab_I (0), ab_I (0)])) ++ [ab_ai 0 84 (fun _ => 0), ab_ai 0 84 (fun _ => 0)])) rfl ?_
  refine ev_aload_n de_Gu_init_20 rfl rfl ?_
  refine ev_bipush de_Gu_init_21 rfl ?_
  refine ev_newai (n := 35) (bc := 0) (bs := 0) de_Gu_init_23 ac_int (by decide) (by decide) (Nat.le_of_ble_eq_true rfl) (ab_okW_r (by decide +kernel) rfl (ab_all2 ab_okr0 ab_okr0)) (ab_okL_of rfl) (ab_okS_of rfl) ?_
  refine ev_top (b := ab_R 54) rfl ?_
  refine ev_world (w' := ((fw_22.set 51 (ab_ob 2 [ab_R (52), ab_R (53), ab_I (0), ab_N, ab_I (0), ab_I (0)])) ++ [ab_ai 0 84 (fun _ => 0), ab_ai 0 84 (fun _ => 0), ab_ai 0 35 (fun _ => 0)])) rfl ?_
  refine ev_putfield de_Gu_init_25 rfl fp_Gu_18 (Nat.le_of_ble_eq_true rfl) trivial ?_
  refine ev_world (w' := ((fw_22.set 51 (ab_ob 2 [ab_R (52), ab_R (53), ab_I (0), ab_R (54), ab_I (0), ab_I (0)])) ++ [ab_ai 0 84 (fun _ => 0), ab_ai 0 84 (fun _ => 0), ab_ai 0 35 (fun _ => 0)])) rfl ?_
  exact ev_return de_Gu_init_28 rfl ⟨rfl, rfl⟩
def fw_24 : ab_W := [ab_ob 10 [ab_R (1), ab_R (3), ab_R (16), ab_R (29), ab_R (30), ab_R (31), ab_I (0), ab_R (32), ab_R (36), ab_R (38), ab_R (40), ab_R (45), ab_R (51)], ab_ob 8 [ab_R (2), ab_I (0), ab_I (0), ab_R (ab_sb + 0), ab_I (0), ab_I (0), ab_I (0), ab_I (0), ab_I (0)], ab_ai 1 400 (fun _ => 0), ab_ob 5 [ab_I (0), ab_I (0), ab_I (0), ab_I (0), ab_I (0), ab_I (0), ab_I (0), ab_I (0), ab_I (0), ab_I (0), ab_R (4), ab_R (5), ab_R (6), ab_R (7), ab_R (8), ab_R (9), ab_R (10), ab_R (11)], ab_ai 0 7 (fun _ => 0), ab_ai 0 7 (fun _ => 0), ab_ai 0 7 (fun _ => 0), ab_ai 0 35 (fun _ => 0), ab_al 24 (fun _ => 0), ab_ai 0 24 (fun _ => 0), ab_ai 0 12 (fun _ => 0), ab_ob 1 [ab_I (0), ab_R (12), ab_R (13), ab_R (14), ab_R (15)], ab_ai 0 10 (fun _ => 0), ab_ai 0 10 (fun _ => 0), ab_ai 0 10 (fun _ => 0), ab_ai 0 10 (fun _ => 0), ab_ob 5 [ab_I (0), ab_I (0), ab_I (0), ab_I (0), ab_I (0), ab_I (0), ab_I (0), ab_I (0), ab_I (0), ab_I (0), ab_R (17), ab_R (18), ab_R (19), ab_R (20), ab_R (21), ab_R (22), ab_R (23), ab_R (24)], ab_ai 0 7 (fun _ => 0), ab_ai 0 7 (fun _ => 0), ab_ai 0 7 (fun _ => 0), ab_ai 0 35 (fun _ => 0), ab_al 24 (fun _ => 0), ab_ai 0 24 (fun _ => 0), ab_ai 0 12 (fun _ => 0), ab_ob 1 [ab_I (0), ab_R (25), ab_R (26), ab_R (27), ab_R (28)], ab_ai 0 10 (fun _ => 0), ab_ai 0 10 (fun _ => 0), ab_ai 0 10 (fun _ => 0), ab_ai 0 10 (fun _ => 0), ab_ar 4 4 (fun _ => none), ab_ai 2 4 (fun _ => 0), ab_ar 5 6 (fun _ => none), ab_ob 0 [ab_R (33), ab_R (34), ab_R (35), ab_I (0), ab_I (0)], ab_ai 0 20 (fun _ => 0), ab_ai 0 20 (fun _ => 0), ab_ai 0 20 (fun _ => 0), ab_ob 7 [ab_R (37), ab_I (0), ab_I (0)], ab_ai 0 400 (fun _ => 0), ab_ob 3 [ab_R (39), ab_I (0)], ab_al 32 (fun _ => 0), ab_ob 4 [ab_R (41), ab_R (42), ab_I (0), ab_R (43), ab_R (44)], ab_ai 0 5 (fun _ => 0), ab_ai 0 5 (fun _ => 0), ab_ai 0 6 (fun _ => 0), ab_ai 0 42 (fun _ => 0), ab_ob 9 [ab_R (46), ab_R (47), ab_R (48), ab_R (49), ab_R (50)], ab_ai 0 7 (fun _ => 0), ab_ai 0 49 (fun _ => 0), ab_ai 0 7 (fun _ => 0), ab_ai 0 128 (fun _ => 0), ab_ai 0 128 (fun _ => 0), ab_ob 2 [ab_R (52), ab_R (53), ab_I (0), ab_R (54), ab_I (0), ab_I (0)], ab_ai 0 84 (fun _ => 0), ab_ai 0 84 (fun _ => 0), ab_ai 0 35 (fun _ => 0), ab_ob 5 [ab_I (0), ab_I (0), ab_I (0), ab_I (0), ab_I (0), ab_I (0), ab_I (0), ab_I (0), ab_I (0), ab_I (0), ab_N, ab_N, ab_N, ab_N, ab_N, ab_N, ab_N, ab_N]]
def fw_25 : ab_W := [ab_ob 10 [ab_R (1), ab_R (3), ab_R (16), ab_R (29), ab_R (30), ab_R (31), ab_I (0), ab_R (32), ab_R (36), ab_R (38), ab_R (40), ab_R (45), ab_R (51)], ab_ob 8 [ab_R (2), ab_I (0), ab_I (0), ab_R (ab_sb + 0), ab_I (0), ab_I (0), ab_I (0), ab_I (0), ab_I (0)], ab_ai 1 400 (fun _ => 0), ab_ob 5 [ab_I (0), ab_I (0), ab_I (0), ab_I (0), ab_I (0), ab_I (0), ab_I (0), ab_I (0), ab_I (0), ab_I (0), ab_R (4), ab_R (5), ab_R (6), ab_R (7), ab_R (8), ab_R (9), ab_R (10), ab_R (11)], ab_ai 0 7 (fun _ => 0), ab_ai 0 7 (fun _ => 0), ab_ai 0 7 (fun _ => 0), ab_ai 0 35 (fun _ => 0), ab_al 24 (fun _ => 0), ab_ai 0 24 (fun _ => 0), ab_ai 0 12 (fun _ => 0), ab_ob 1 [ab_I (0), ab_R (12), ab_R (13), ab_R (14), ab_R (15)], ab_ai 0 10 (fun _ => 0), ab_ai 0 10 (fun _ => 0), ab_ai 0 10 (fun _ => 0), ab_ai 0 10 (fun _ => 0), ab_ob 5 [ab_I (0), ab_I (0), ab_I (0), ab_I (0), ab_I (0), ab_I (0), ab_I (0), ab_I (0), ab_I (0), ab_I (0), ab_R (17), ab_R (18), ab_R (19), ab_R (20), ab_R (21), ab_R (22), ab_R (23), ab_R (24)], ab_ai 0 7 (fun _ => 0), ab_ai 0 7 (fun _ => 0), ab_ai 0 7 (fun _ => 0), ab_ai 0 35 (fun _ => 0), ab_al 24 (fun _ => 0), ab_ai 0 24 (fun _ => 0), ab_ai 0 12 (fun _ => 0), ab_ob 1 [ab_I (0), ab_R (25), ab_R (26), ab_R (27), ab_R (28)], ab_ai 0 10 (fun _ => 0), ab_ai 0 10 (fun _ => 0), ab_ai 0 10 (fun _ => 0), ab_ai 0 10 (fun _ => 0), ab_ar 4 4 (fun _ => none), ab_ai 2 4 (fun _ => 0), ab_ar 5 6 (fun _ => none), ab_ob 0 [ab_R (33), ab_R (34), ab_R (35), ab_I (0), ab_I (0)], ab_ai 0 20 (fun _ => 0), ab_ai 0 20 (fun _ => 0), ab_ai 0 20 (fun _ => 0), ab_ob 7 [ab_R (37), ab_I (0), ab_I (0)], ab_ai 0 400 (fun _ => 0), ab_ob 3 [ab_R (39), ab_I (0)], ab_al 32 (fun _ => 0), ab_ob 4 [ab_R (41), ab_R (42), ab_I (0), ab_R (43), ab_R (44)], ab_ai 0 5 (fun _ => 0), ab_ai 0 5 (fun _ => 0), ab_ai 0 6 (fun _ => 0), ab_ai 0 42 (fun _ => 0), ab_ob 9 [ab_R (46), ab_R (47), ab_R (48), ab_R (49), ab_R (50)], ab_ai 0 7 (fun _ => 0), ab_ai 0 49 (fun _ => 0), ab_ai 0 7 (fun _ => 0), ab_ai 0 128 (fun _ => 0), ab_ai 0 128 (fun _ => 0), ab_ob 2 [ab_R (52), ab_R (53), ab_I (0), ab_R (54), ab_I (0), ab_I (0)], ab_ai 0 84 (fun _ => 0), ab_ai 0 84 (fun _ => 0), ab_ai 0 35 (fun _ => 0), ab_ob 5 [ab_I (0), ab_I (0), ab_I (0), ab_I (0), ab_I (0), ab_I (0), ab_I (0), ab_I (0), ab_I (0), ab_I (0), ab_R (56), ab_R (57), ab_R (58), ab_R (59), ab_R (60), ab_R (61), ab_R (62), ab_N], ab_ai 0 7 (fun _ => 0), ab_ai 0 7 (fun _ => 0), ab_ai 0 7 (fun _ => 0), ab_ai 0 35 (fun _ => 0), ab_al 24 (fun _ => 0), ab_ai 0 24 (fun _ => 0), ab_ai 0 12 (fun _ => 0), ab_ob 1 [ab_I (0), ab_N, ab_N, ab_N, ab_N]]
def fw_26 : ab_W := [ab_ob 10 [ab_R (1), ab_R (3), ab_R (16), ab_R (29), ab_R (30), ab_R (31), ab_I (0), ab_R (32), ab_R (36), ab_R (38), ab_R (40), ab_R (45), ab_R (51)], ab_ob 8 [ab_R (2), ab_I (0), ab_I (0), ab_R (ab_sb + 0), ab_I (0), ab_I (0), ab_I (0), ab_I (0), ab_I (0)], ab_ai 1 400 (fun _ => 0), ab_ob 5 [ab_I (0), ab_I (0), ab_I (0), ab_I (0), ab_I (0), ab_I (0), ab_I (0), ab_I (0), ab_I (0), ab_I (0), ab_R (4), ab_R (5), ab_R (6), ab_R (7), ab_R (8), ab_R (9), ab_R (10), ab_R (11)], ab_ai 0 7 (fun _ => 0), ab_ai 0 7 (fun _ => 0), ab_ai 0 7 (fun _ => 0), ab_ai 0 35 (fun _ => 0), ab_al 24 (fun _ => 0), ab_ai 0 24 (fun _ => 0), ab_ai 0 12 (fun _ => 0), ab_ob 1 [ab_I (0), ab_R (12), ab_R (13), ab_R (14), ab_R (15)], ab_ai 0 10 (fun _ => 0), ab_ai 0 10 (fun _ => 0), ab_ai 0 10 (fun _ => 0), ab_ai 0 10 (fun _ => 0), ab_ob 5 [ab_I (0), ab_I (0), ab_I (0), ab_I (0), ab_I (0), ab_I (0), ab_I (0), ab_I (0), ab_I (0), ab_I (0), ab_R (17), ab_R (18), ab_R (19), ab_R (20), ab_R (21), ab_R (22), ab_R (23), ab_R (24)], ab_ai 0 7 (fun _ => 0), ab_ai 0 7 (fun _ => 0), ab_ai 0 7 (fun _ => 0), ab_ai 0 35 (fun _ => 0), ab_al 24 (fun _ => 0), ab_ai 0 24 (fun _ => 0), ab_ai 0 12 (fun _ => 0), ab_ob 1 [ab_I (0), ab_R (25), ab_R (26), ab_R (27), ab_R (28)], ab_ai 0 10 (fun _ => 0), ab_ai 0 10 (fun _ => 0), ab_ai 0 10 (fun _ => 0), ab_ai 0 10 (fun _ => 0), ab_ar 4 4 (fun _ => none), ab_ai 2 4 (fun _ => 0), ab_ar 5 6 (fun _ => none), ab_ob 0 [ab_R (33), ab_R (34), ab_R (35), ab_I (0), ab_I (0)], ab_ai 0 20 (fun _ => 0), ab_ai 0 20 (fun _ => 0), ab_ai 0 20 (fun _ => 0), ab_ob 7 [ab_R (37), ab_I (0), ab_I (0)], ab_ai 0 400 (fun _ => 0), ab_ob 3 [ab_R (39), ab_I (0)], ab_al 32 (fun _ => 0), ab_ob 4 [ab_R (41), ab_R (42), ab_I (0), ab_R (43), ab_R (44)], ab_ai 0 5 (fun _ => 0), ab_ai 0 5 (fun _ => 0), ab_ai 0 6 (fun _ => 0), ab_ai 0 42 (fun _ => 0), ab_ob 9 [ab_R (46), ab_R (47), ab_R (48), ab_R (49), ab_R (50)], ab_ai 0 7 (fun _ => 0), ab_ai 0 49 (fun _ => 0), ab_ai 0 7 (fun _ => 0), ab_ai 0 128 (fun _ => 0), ab_ai 0 128 (fun _ => 0), ab_ob 2 [ab_R (52), ab_R (53), ab_I (0), ab_R (54), ab_I (0), ab_I (0)], ab_ai 0 84 (fun _ => 0), ab_ai 0 84 (fun _ => 0), ab_ai 0 35 (fun _ => 0), ab_ob 5 [ab_I (0), ab_I (0), ab_I (0), ab_I (0), ab_I (0), ab_I (0), ab_I (0), ab_I (0), ab_I (0), ab_I (0), ab_R (56), ab_R (57), ab_R (58), ab_R (59), ab_R (60), ab_R (61), ab_R (62), ab_N], ab_ai 0 7 (fun _ => 0), ab_ai 0 7 (fun _ => 0), ab_ai 0 7 (fun _ => 0), ab_ai 0 35 (fun _ => 0), ab_al 24 (fun _ => 0), ab_ai 0 24 (fun _ => 0), ab_ai 0 12 (fun _ => 0), ab_ob 1 [ab_I (0), ab_R (64), ab_R (65), ab_R (66), ab_R (67)], ab_ai 0 10 (fun _ => 0), ab_ai 0 10 (fun _ => 0), ab_ai 0 10 (fun _ => 0), ab_ai 0 10 (fun _ => 0)]
set_option maxHeartbeats 4000000 in
set_option maxRecDepth 20000 in
theorem fx_14  : ab_Mt g_G g_rs mt_Di_init 1 4 40 [ab_R (63)] fw_25 (ab_is none fw_26) := by
  refine ab_Mt.of rfl (Nat.le_of_ble_eq_true rfl) ?_
  show ab_Ev g_G g_rs mt_Di_init _ _ _ 0 [some (ab_R (63))] [] _ _
  refine ev_aload_n de_Di_init_0 rfl rfl ?_
  refine ev_objInit de_Di_init_1 oi_Di (Nat.le_of_ble_eq_true rfl) (by decide) ?_
  refine ev_aload_n de_Di_init_4 rfl rfl ?_
  refine ev_bipush de_Di_init_5 rfl ?_
  refine ev_newai (n := 10) (bc := 3) (bs := 30) de_Di_init_7 ac_int (by decide) (by decide) (Nat.le_of_ble_eq_true rfl) (ab_okW_r (by decide +kernel) rfl (ab_all2 ab_okr0 ab_okr0)) (ab_okL_of rfl) (ab_okS_of rfl) ?_
  refine ev_top (b := ab_R 64) rfl ?_
  refine ev_world (w' := (fw_25 ++ [ab_ai 0 10 (fun _ => 0)])) rfl ?_
  refine ev_putfield de_Di_init_9 rfl fp_Di_9 (Nat.le_of_ble_eq_true rfl) trivial ?_
  refine ev_world (w' := ((fw_25.set 63 (ab_ob 1 [ab_I (0), ab_R (64), ab_N, ab_N, ab_N])) ++ [ab_ai 0 10 (fun _ => 0)])) rfl ?_
  refine ev_aload_n de_Di_init_12 rfl rfl ?_
  refine ev_bipush de_Di_init_13 rfl ?_
  refine ev_newai (n := 10) (bc := 2) (bs := 20) de_Di_init_15 ac_int (by decide) (by decide) (Nat.le_of_ble_eq_true rfl) (ab_okW_r (by decide +kernel) rfl (ab_all2 ab_okr0 ab_okr0)) (ab_okL_of rfl) (ab_okS_of rfl) ?_
  refine ev_top (b := ab_R 65) rfl ?_
  refine ev_world (w' := ((fw_25.set 63 (ab_ob 1 [ab_I (0), ab_R (64), ab_N, ab_N, ab_N])) ++ [ab_ai 0 10 (fun _ => 0), ab_ai 0 10 (fun _ => 0)])) rfl ?_
  refine ev_putfield de_Di_init_17 rfl fp_Di_15 (Nat.le_of_ble_eq_true rfl) trivial ?_
  refine ev_world (w' := ((fw_25.set 63 (ab_ob 1 [ab_I (0), ab_R (64), ab_R (65), ab_N, ab_N])) ++ [ab_ai 0 10 (fun _ => 0), ab_ai 0 10 (fun _ => 0)])) rfl ?_
  refine ev_aload_n de_Di_init_20 rfl rfl ?_
  refine ev_bipush de_Di_init_21 rfl ?_
  refine ev_newai (n := 10) (bc := 1) (bs := 10) de_Di_init_23 ac_int (by decide) (by decide) (Nat.le_of_ble_eq_true rfl) (ab_okW_r (by decide +kernel) rfl (ab_all2 ab_okr0 ab_okr0)) (ab_okL_of rfl) (ab_okS_of rfl) ?_
  refine ev_top (b := ab_R 66) rfl ?_
  refine ev_world (w' := ((fw_25.set 63 (ab_ob 1 [ab_I (0), ab_R (64), ab_R (65), ab_N, ab_N])) ++ [ab_ai 0 10 (fun _ => 0), ab_ai 0 10 (fun _ => 0), ab_ai 0 10 (fun _ => 0)])) rfl ?_
  refine ev_putfield de_Di_init_25 rfl fp_Di_18 (Nat.le_of_ble_eq_true rfl) trivial ?_
  refine ev_world (w' := ((fw_25.set 63 (ab_ob 1 [ab_I (0), ab_R (64), ab_R (65), ab_R (66), ab_N])) ++ [ab_ai 0 10 (fun _ => 0), ab_ai 0 10 (fun _ => 0), ab_ai 0 10 (fun _ => 0)])) rfl ?_
  refine ev_aload_n de_Di_init_28 rfl rfl ?_
  refine ev_bipush de_Di_init_29 rfl ?_
  refine ev_newai (n := 10) (bc := 0) (bs := 0) de_Di_init_31 ac_int (by decide) (by decide) (Nat.le_of_ble_eq_true rfl) (ab_okW_r (by decide +kernel) rfl (ab_all2 ab_okr0 ab_okr0)) (ab_okL_of rfl) (ab_okS_of rfl) ?_
  refine ev_top (b := ab_R 67) rfl ?_
  refine ev_world (w' := ((fw_25.set 63 (ab_ob 1 [ab_I (0), ab_R (64), ab_R (65), ab_R (66), ab_N])) ++ [ab_ai 0 10 (fun _ => 0), ab_ai 0 10 (fun _ => 0), ab_ai 0 10 (fun _ => 0), ab_ai 0 10 (fun _ => 0)])) rfl ?_
  refine ev_putfield de_Di_init_33 rfl fp_Di_21 (Nat.le_of_ble_eq_true rfl) trivial ?_
  refine ev_world (w' := ((fw_25.set 63 (ab_ob 1 [ab_I (0), ab_R (64), ab_R (65), ab_R (66), ab_R (67)])) ++ [ab_ai 0 10 (fun _ => 0), ab_ai 0 10 (fun _ => 0), ab_ai 0 10 (fun _ => 0), ab_ai 0 10 (fun _ => 0)])) rfl ?_
  exact ev_return de_Di_init_36 rfl ⟨rfl, rfl⟩
def fw_27 : ab_W := [ab_ob 10 [ab_R (1), ab_R (3), ab_R (16), ab_R (29), ab_R (30), ab_R (31), ab_I (0), ab_R (32), ab_R (36), ab_R (38), ab_R (40), ab_R (45), ab_R (51)], ab_ob 8 [ab_R (2), ab_I (0), ab_I (0), ab_R (ab_sb + 0), ab_I (0), ab_I (0), ab_I (0), ab_I (0), ab_I (0)], ab_ai 1 400 (fun _ => 0), ab_ob 5 [ab_I (0), ab_I (0), ab_I (0), ab_I (0), ab_I (0), ab_I (0), ab_I (0), ab_I (0), ab_I (0), ab_I (0), ab_R (4), ab_R (5), ab_R (6), ab_R (7), ab_R (8), ab_R (9), ab_R (10), ab_R (11)], ab_ai 0 7 (fun _ => 0), ab_ai 0 7 (fun _ => 0), ab_ai 0 7 (fun _ => 0), ab_ai 0 35 (fun _ => 0), ab_al 24 (fun _ => 0), ab_ai 0 24 (fun _ => 0), ab_ai 0 12 (fun _ => 0), ab_ob 1 [ab_I (0), ab_R (12), ab_R (13), ab_R (14), ab_R (15)], ab_ai 0 10 (fun _ => 0), ab_ai 0 10 (fun _ => 0), ab_ai 0 10 (fun _ => 0), ab_ai 0 10 (fun _ => 0), ab_ob 5 [ab_I (0), ab_I (0), ab_I (0), ab_I (0), ab_I (0), ab_I (0), ab_I (0), ab_I (0), ab_I (0), ab_I (0), ab_R (17), ab_R (18), ab_R (19), ab_R (20), ab_R (21), ab_R (22), ab_R (23), ab_R (24)], ab_ai 0 7 (fun _ => 0), ab_ai 0 7 (fun _ => 0), ab_ai 0 7 (fun _ => 0), ab_ai 0 35 (fun _ => 0), ab_al 24 (fun _ => 0), ab_ai 0 24 (fun _ => 0), ab_ai 0 12 (fun _ => 0), ab_ob 1 [ab_I (0), ab_R (25), ab_R (26), ab_R (27), ab_R (28)], ab_ai 0 10 (fun _ => 0), ab_ai 0 10 (fun _ => 0), ab_ai 0 10 (fun _ => 0), ab_ai 0 10 (fun _ => 0), ab_ar 4 4 (fun _ => none), ab_ai 2 4 (fun _ => 0), ab_ar 5 6 (fun _ => none), ab_ob 0 [ab_R (33), ab_R (34), ab_R (35), ab_I (0), ab_I (0)], ab_ai 0 20 (fun _ => 0), ab_ai 0 20 (fun _ => 0), ab_ai 0 20 (fun _ => 0), ab_ob 7 [ab_R (37), ab_I (0), ab_I (0)], ab_ai 0 400 (fun _ => 0), ab_ob 3 [ab_R (39), ab_I (0)], ab_al 32 (fun _ => 0), ab_ob 4 [ab_R (41), ab_R (42), ab_I (0), ab_R (43), ab_R (44)], ab_ai 0 5 (fun _ => 0), ab_ai 0 5 (fun _ => 0), ab_ai 0 6 (fun _ => 0), ab_ai 0 42 (fun _ => 0), ab_ob 9 [ab_R (46), ab_R (47), ab_R (48), ab_R (49), ab_R (50)], ab_ai 0 7 (fun _ => 0), ab_ai 0 49 (fun _ => 0), ab_ai 0 7 (fun _ => 0), ab_ai 0 128 (fun _ => 0), ab_ai 0 128 (fun _ => 0), ab_ob 2 [ab_R (52), ab_R (53), ab_I (0), ab_R (54), ab_I (0), ab_I (0)], ab_ai 0 84 (fun _ => 0), ab_ai 0 84 (fun _ => 0), ab_ai 0 35 (fun _ => 0), ab_ob 5 [ab_I (0), ab_I (0), ab_I (0), ab_I (0), ab_I (0), ab_I (0), ab_I (0), ab_I (0), ab_I (0), ab_I (0), ab_R (56), ab_R (57), ab_R (58), ab_R (59), ab_R (60), ab_R (61), ab_R (62), ab_R (63)], ab_ai 0 7 (fun _ => 0), ab_ai 0 7 (fun _ => 0), ab_ai 0 7 (fun _ => 0), ab_ai 0 35 (fun _ => 0), ab_al 24 (fun _ => 0), ab_ai 0 24 (fun _ => 0), ab_ai 0 12 (fun _ => 0), ab_ob 1 [ab_I (0), ab_R (64), ab_R (65), ab_R (66), ab_R (67)], ab_ai 0 10 (fun _ => 0), ab_ai 0 10 (fun _ => 0), ab_ai 0 10 (fun _ => 0), ab_ai 0 10 (fun _ => 0)]
set_option maxHeartbeats 4000000 in
set_option maxRecDepth 20000 in
theorem fx_13  : ab_Mt g_G g_rs mt_Ri_init 2 12 161 [ab_R (55)] fw_24 (ab_is none fw_27) := by
  refine ab_Mt.of rfl (Nat.le_of_ble_eq_true rfl) ?_
  show ab_Ev g_G g_rs mt_Ri_init _ _ _ 0 [some (ab_R (55))] [] _ _
  refine ev_aload_n de_Ri_init_0 rfl rfl ?_
  refine ev_objInit de_Ri_init_1 oi_Ri (Nat.le_of_ble_eq_true rfl) (by decide) ?_
  refine ev_aload_n de_Ri_init_4 rfl rfl ?_
  refine ev_bipush de_Ri_init_5 rfl ?_
  refine ev_newai (n := 7) (bc := 11) (bs := 154) de_Ri_init_7 ac_int (by decide) (by decide) (Nat.le_of_ble_eq_true rfl) (ab_okW_r (by decide +kernel) rfl (ab_all2 ab_okr0 ab_okr0)) (ab_okL_of rfl) (ab_okS_of rfl) ?_
  refine ev_top (b := ab_R 56) rfl ?_
  refine ev_world (w' := (fw_24 ++ [ab_ai 0 7 (fun _ => 0)])) rfl ?_
  refine ev_putfield de_Ri_init_9 rfl fp_Ri_9 (Nat.le_of_ble_eq_true rfl) trivial ?_
  refine ev_world (w' := ((fw_24.set 55 (ab_ob 5 [ab_I (0), ab_I (0), ab_I (0), ab_I (0), ab_I (0), ab_I (0), ab_I (0), ab_I (0), ab_I (0), ab_I (0), ab_R (56), ab_N, ab_N, ab_N, ab_N, ab_N, ab_N, ab_N])) ++ [ab_ai 0 7 (fun _ => 0)])) rfl ?_
  refine ev_aload_n de_Ri_init_12 rfl rfl ?_
  refine ev_bipush de_Ri_init_13 rfl ?_
  refine ev_newai (n := 7) (bc := 10) (bs := 147) de_Ri_init_15 ac_int (by decide) (by decide) (Nat.le_of_ble_eq_true rfl) (ab_okW_r (by decide +kernel) rfl (ab_all2 ab_okr0 ab_okr0)) (ab_okL_of rfl) (ab_okS_of rfl) ?_
  refine ev_top (b := ab_R 57) rfl ?_
  refine ev_world (w' := ((fw_24.set 55 (ab_ob 5 [ab_I (0), ab_I (0), ab_I (0), ab_I (0), ab_I (0), ab_I (0), ab_I (0), ab_I (0), ab_I (0), ab_I (0), ab_R (56), ab_N, ab_N, ab_N, ab_N, ab_N, ab_N, ab_N])) ++ [ab_ai 0 7 (fun _ => 0), ab_ai 0 7 (fun _ => 0)])) rfl ?_
  refine ev_putfield de_Ri_init_17 rfl fp_Ri_15 (Nat.le_of_ble_eq_true rfl) trivial ?_
  refine ev_world (w' := ((fw_24.set 55 (ab_ob 5 [ab_I (0), ab_I (0), ab_I (0), ab_I (0), ab_I (0), ab_I (0), ab_I (0), ab_I (0), ab_I (0), ab_I (0), ab_R (56), ab_R (57), ab_N, ab_N, ab_N, ab_N, ab_N, ab_N])) ++ [ab_ai 0 7 (fun _ => 0), ab_ai 0 7 (fun _ => 0)])) rfl ?_
  refine ev_aload_n de_Ri_init_20 rfl rfl ?_
  refine ev_bipush de_Ri_init_21 rfl ?_
  refine ev_newai (n := 7) (bc := 9) (bs := 140) de_Ri_init_23 ac_int (by decide) (by decide) (Nat.le_of_ble_eq_true rfl) (ab_okW_r (by decide +kernel) rfl (ab_all2 ab_okr0 ab_okr0)) (ab_okL_of rfl) (ab_okS_of rfl) ?_
  refine ev_top (b := ab_R 58) rfl ?_
  refine ev_world (w' := ((fw_24.set 55 (ab_ob 5 [ab_I (0), ab_I (0), ab_I (0), ab_I (0), ab_I (0), ab_I (0), ab_I (0), ab_I (0), ab_I (0), ab_I (0), ab_R (56), ab_R (57), ab_N, ab_N, ab_N, ab_N, ab_N, ab_N])) ++ [ab_ai 0 7 (fun _ => 0), ab_ai 0 7 (fun _ => 0), ab_ai 0 7 (fun _ => 0)])) rfl ?_
  refine ev_putfield de_Ri_init_25 rfl fp_Ri_18 (Nat.le_of_ble_eq_true rfl) trivial ?_
  refine ev_world (w' := ((fw_24.set 55 (ab_ob 5 [ab_I (0), ab_I (0), ab_I (0), ab_I (0), ab_I (0), ab_I (0), ab_I (0), ab_I (0), ab_I (0), ab_I (0), ab_R (56), ab_R (57), ab_R (58), ab_N, ab_N, ab_N, ab_N, ab_N])) ++ [ab_ai 0 7 (fun _ => 0), ab_ai 0 7 (fun _ => 0), ab_ai 0 7 (fun _ => 0)])) rfl ?_
  refine ev_aload_n de_Ri_init_28 rfl rfl ?_
  refine ev_bipush de_Ri_init_29 rfl ?_
  refine ev_newai (n := 35) (bc := 8) (bs := 105) de_Ri_init_31 ac_int (by decide) (by decide) (Nat.le_of_ble_eq_true rfl) (ab_okW_r (by decide +kernel) rfl (ab_all2 ab_okr0 ab_okr0)) (ab_okL_of rfl) (ab_okS_of rfl) ?_
  refine ev_top (b := ab_R 59) rfl ?_
  refine ev_world (w' := ((fw_24.set 55 (ab_ob 5 [ab_I (0), ab_I (0), ab_I (0), ab_I (0), ab_I (0), ab_I (0), ab_I (0), ab_I (0), ab_I (0), ab_I (0), ab_R (56), ab_R (57), ab_R (58), ab_N, ab_N, ab_N, ab_N, ab_N])) ++ [ab_ai 0 7 (fun _ => 0), ab_ai 0 7 (fun _ => 0), ab_ai 0 7 (fun _ => 0), ab_ai 0 35 (fun _ => 0)])) rfl ?_
  refine ev_putfield de_Ri_init_33 rfl fp_Ri_21 (Nat.le_of_ble_eq_true rfl) trivial ?_
  refine ev_world (w' := ((fw_24.set 55 (ab_ob 5 [ab_I (0), ab_I (0), ab_I (0), ab_I (0), ab_I (0), ab_I (0), ab_I (0), ab_I (0), ab_I (0), ab_I (0), ab_R (56), ab_R (57), ab_R (58), ab_R (59), ab_N, ab_N, ab_N, ab_N])) ++ [ab_ai 0 7 (fun _ => 0), ab_ai 0 7 (fun _ => 0), ab_ai 0 7 (fun _ => 0), ab_ai 0 35 (fun _ => 0)])) rfl ?_
  refine ev_aload_n de_Ri_init_36 rfl rfl ?_
  refine ev_bipush de_Ri_init_37 rfl ?_
  refine ev_newal (n := 24) (bc := 7) (bs := 81) de_Ri_init_39 ac_long (by decide) (by decide) (Nat.le_of_ble_eq_true rfl) (ab_okW_r (by decide +kernel) rfl (ab_all2 ab_okr0 ab_okr0)) (ab_okL_of rfl) (ab_okS_of rfl) ?_
  refine ev_top (b := ab_R 60) rfl ?_
  refine ev_world (w' := ((fw_24.set 55 (ab_ob 5 [ab_I (0), ab_I (0), ab_I (0), ab_I (0), ab_I (0), ab_I (0), ab_I (0), ab_I (0), ab_I (0), ab_I (0), ab_R (56), ab_R (57), ab_R (58), ab_R (59), ab_N, ab_N, ab_N, ab_N])) ++ [ab_ai 0 7 (fun _ => 0), ab_ai 0 7 (fun _ => 0), ab_ai 0 7 (fun _ => 0), ab_ai 0 35 (fun _ => 0), ab_al 24 (fun _ => 0)])) rfl ?_
  refine ev_putfield de_Ri_init_41 rfl fp_Ri_24 (Nat.le_of_ble_eq_true rfl) trivial ?_
  refine ev_world (w' := ((fw_24.set 55 (ab_ob 5 [ab_I (0), ab_I (0), ab_I (0), ab_I (0), ab_I (0), ab_I (0), ab_I (0), ab_I (0), ab_I (0), ab_I (0), ab_R (56), ab_R (57), ab_R (58), ab_R (59), ab_R (60), ab_N, ab_N, ab_N])) ++ [ab_ai 0 7 (fun _ => 0), ab_ai 0 7 (fun _ => 0), ab_ai 0 7 (fun _ => 0), ab_ai 0 35 (fun _ => 0), ab_al 24 (fun _ => 0)])) rfl ?_
  refine ev_aload_n de_Ri_init_44 rfl rfl ?_
  refine ev_bipush de_Ri_init_45 rfl ?_
  refine ev_newai (n := 24) (bc := 6) (bs := 57) de_Ri_init_47 ac_int (by decide) (by decide) (Nat.le_of_ble_eq_true rfl) (ab_okW_r (by decide +kernel) rfl (ab_all2 ab_okr0 ab_okr0)) (ab_okL_of rfl) (ab_okS_of rfl) ?_
  refine ev_top (b := ab_R 61) rfl ?_
  refine ev_world (w' := ((fw_24.set 55 (ab_ob 5 [ab_I (0), ab_I (0), ab_I (0), ab_I (0), ab_I (0), ab_I (0), ab_I (0), ab_I (0), ab_I (0), ab_I (0), ab_R (56), ab_R (57), ab_R (58), ab_R (59), ab_R (60), ab_N, ab_N, ab_N])) ++ [ab_ai 0 7 (fun _ => 0), ab_ai 0 7 (fun _ => 0), ab_ai 0 7 (fun _ => 0), ab_ai 0 35 (fun _ => 0), ab_al 24 (fun _ => 0), ab_ai 0 24 (fun _ => 0)])) rfl ?_
  refine ev_putfield de_Ri_init_49 rfl fp_Ri_28 (Nat.le_of_ble_eq_true rfl) trivial ?_
  refine ev_world (w' := ((fw_24.set 55 (ab_ob 5 [ab_I (0), ab_I (0), ab_I (0), ab_I (0), ab_I (0), ab_I (0), ab_I (0), ab_I (0), ab_I (0), ab_I (0), ab_R (56), ab_R (57), ab_R (58), ab_R (59), ab_R (60), ab_R (61), ab_N, ab_N])) ++ [ab_ai 0 7 (fun _ => 0), ab_ai 0 7 (fun _ => 0), ab_ai 0 7 (fun _ => 0), ab_ai 0 35 (fun _ => 0), ab_al 24 (fun _ => 0), ab_ai 0 24 (fun _ => 0)])) rfl ?_
  refine ev_aload_n de_Ri_init_52 rfl rfl ?_
  refine ev_bipush de_Ri_init_53 rfl ?_
  refine ev_newai (n := 12) (bc := 5) (bs := 45) de_Ri_init_55 ac_int (by decide) (by decide) (Nat.le_of_ble_eq_true rfl) (ab_okW_r (by decide +kernel) rfl (ab_all2 ab_okr0 ab_okr0)) (ab_okL_of rfl) (ab_okS_of rfl) ?_
  refine ev_top (b := ab_R 62) rfl ?_
  refine ev_world (w' := ((fw_24.set 55 (ab_ob 5 [ab_I (0), ab_I (0), ab_I (0), ab_I (0), ab_I (0), ab_I (0), ab_I (0), ab_I (0), ab_I (0), ab_I (0), ab_R (56), ab_R (57), ab_R (58), ab_R (59), ab_R (60), ab_R (61), ab_N, ab_N])) ++ [ab_ai 0 7 (fun _ => 0), ab_ai 0 7 (fun _ => 0), ab_ai 0 7 (fun _ => 0), ab_ai 0 35 (fun _ => 0), ab_al 24 (fun _ => 0), ab_ai 0 24 (fun _ => 0), ab_ai 0 12 (fun _ => 0)])) rfl ?_
  refine ev_putfield de_Ri_init_57 rfl fp_Ri_31 (Nat.le_of_ble_eq_true rfl) trivial ?_
  refine ev_world (w' := ((fw_24.set 55 (ab_ob 5 [ab_I (0), ab_I (0), ab_I (0), ab_I (0), ab_I (0), ab_I (0), ab_I (0), ab_I (0), ab_I (0), ab_I (0), ab_R (56), ab_R (57), ab_R (58), ab_R (59), ab_R (60), ab_R (61), ab_R (62), ab_N])) ++ [ab_ai 0 7 (fun _ => 0), ab_ai 0 7 (fun _ => 0), ab_ai 0 7 (fun _ => 0), ab_ai 0 35 (fun _ => 0), ab_al 24 (fun _ => 0), ab_ai 0 24 (fun _ => 0), ab_ai 0 12 (fun _ => 0)])) rfl ?_
  refine ev_aload_n de_Ri_init_60 rfl rfl ?_
  refine ev_new (N := 5) (bc := 4) (bs := 40) de_Ri_init_61 nw_Ri_34 (Nat.le_of_ble_eq_true rfl) (ab_okW_r (by decide +kernel) rfl (ab_all2 ab_okr0 ab_okr0)) (ab_okS_of rfl) (ab_okL_of rfl) (ab_okS_of rfl) ?_
  refine ev_top (b := ab_R 63) rfl ?_
  refine ev_world (w' := ((fw_24.set 55 (ab_ob 5 [ab_I (0), ab_I (0), ab_I (0), ab_I (0), ab_I (0), ab_I (0), ab_I (0), ab_I (0), ab_I (0), ab_I (0), ab_R (56), ab_R (57), ab_R (58), ab_R (59), ab_R (60), ab_R (61), ab_R (62), ab_N])) ++ [ab_ai 0 7 (fun _ => 0), ab_ai 0 7 (fun _ => 0), ab_ai 0 7 (fun _ => 0), ab_ai 0 35 (fun _ => 0), ab_al 24 (fun _ => 0), ab_ai 0 24 (fun _ => 0), ab_ai 0 12 (fun _ => 0), ab_ob 1 [ab_I (0), ab_N, ab_N, ab_N, ab_N]])) rfl ?_
  refine ev_dup de_Ri_init_64 rfl ?_
  refine ev_world (w' := fw_25) rfl ?_
  refine ev_xn (mc := 4) (ms := 40) (bc := 0) (bs := 0) de_Ri_init_65 fx_14 kb_Ri_36 ⟨im_Di_init, rfl, rfl⟩ rfl (Nat.le_of_ble_eq_true rfl) (by decide) (ab_okL_of rfl) (ab_okS_of rfl) ?_
  refine ev_putfield de_Ri_init_68 rfl fp_Ri_37 (Nat.le_of_ble_eq_true rfl) trivial ?_
  refine ev_world (w' := (fw_26.set 55 (ab_ob 5 [ab_I (0), ab_I (0), ab_I (0), ab_I (0), ab_I (0), ab_I (0), ab_I (0), ab_I (0), ab_I (0), ab_I (0), ab_R (56), ab_R (57), ab_R (58), ab_R (59), ab_R (60), ab_R (61), ab_R (62), ab_R (63)]))) rfl ?_
  exact ev_return de_Ri_init_71 rfl ⟨rfl, rfl⟩
def fw_28 : ab_W := [ab_ob 10 [ab_R (1), ab_R (3), ab_R (16), ab_R (29), ab_R (30), ab_R (31), ab_I (0), ab_R (32), ab_R (36), ab_R (38), ab_R (40), ab_R (45), ab_R (51)], ab_ob 8 [ab_R (2), ab_I (0), ab_I (0), ab_R (ab_sb + 0), ab_I (0), ab_I (0), ab_I (0), ab_I (0), ab_I (0)], ab_ai 1 400 (fun _ => 0), ab_ob 5 [ab_I (0), ab_I (0), ab_I (0), ab_I (0), ab_I (0), ab_I (0), ab_I (0), ab_I (0), ab_I (0), ab_I (0), ab_R (4), ab_R (5), ab_R (6), ab_R (7), ab_R (8), ab_R (9), ab_R (10), ab_R (11)], ab_ai 0 7 (fun _ => 0), ab_ai 0 7 (fun _ => 0), ab_ai 0 7 (fun _ => 0), ab_ai 0 35 (fun _ => 0), ab_al 24 (fun _ => 0), ab_ai 0 24 (fun _ => 0), ab_ai 0 12 (fun _ => 0), ab_ob 1 [ab_I (0), ab_R (12), ab_R (13), ab_R (14), ab_R (15)], ab_ai 0 10 (fun _ => 0), ab_ai 0 10 (fun _ => 0), ab_ai 0 10 (fun _ => 0), ab_ai 0 10 (fun _ => 0), ab_ob 5 [ab_I (0), ab_I (0), ab_I (0), ab_I (0), ab_I (0), ab_I (0), ab_I (0), ab_I (0), ab_I (0), ab_I (0), ab_R (17), ab_R (18), ab_R (19), ab_R (20), ab_R (21), ab_R (22), ab_R (23), ab_R (24)], ab_ai 0 7 (fun _ => 0), ab_ai 0 7 (fun _ => 0), ab_ai 0 7 (fun _ => 0), ab_ai 0 35 (fun _ => 0), ab_al 24 (fun _ => 0), ab_ai 0 24 (fun _ => 0), ab_ai 0 12 (fun _ => 0), ab_ob 1 [ab_I (0), ab_R (25), ab_R (26), ab_R (27), ab_R (28)], ab_ai 0 10 (fun _ => 0), ab_ai 0 10 (fun _ => 0), ab_ai 0 10 (fun _ => 0), ab_ai 0 10 (fun _ => 0), ab_ar 4 4 (ab_up (fun _ => none) 0 (some 55)), ab_ai 2 4 (fun _ => 0), ab_ar 5 6 (fun _ => none), ab_ob 0 [ab_R (33), ab_R (34), ab_R (35), ab_I (0), ab_I (0)], ab_ai 0 20 (fun _ => 0), ab_ai 0 20 (fun _ => 0), ab_ai 0 20 (fun _ => 0), ab_ob 7 [ab_R (37), ab_I (0), ab_I (0)], ab_ai 0 400 (fun _ => 0), ab_ob 3 [ab_R (39), ab_I (0)], ab_al 32 (fun _ => 0), ab_ob 4 [ab_R (41), ab_R (42), ab_I (0), ab_R (43), ab_R (44)], ab_ai 0 5 (fun _ => 0), ab_ai 0 5 (fun _ => 0), ab_ai 0 6 (fun _ => 0), ab_ai 0 42 (fun _ => 0), ab_ob 9 [ab_R (46), ab_R (47), ab_R (48), ab_R (49), ab_R (50)], ab_ai 0 7 (fun _ => 0), ab_ai 0 49 (fun _ => 0), ab_ai 0 7 (fun _ => 0), ab_ai 0 128 (fun _ => 0), ab_ai 0 128 (fun _ => 0), ab_ob 2 [ab_R (52), ab_R (53), ab_I (0), ab_R (54), ab_I (0), ab_I (0)], ab_ai 0 84 (fun _ => 0), ab_ai 0 84 (fun _ => 0), ab_ai 0 35 (fun _ => 0), ab_ob 5 [ab_I (0), ab_I (0), ab_I (0), ab_I (0), ab_I (0), ab_I (0), ab_I (0), ab_I (0), ab_I (0), ab_I (0), ab_R (56), ab_R (57), ab_R (58), ab_R (59), ab_R (60), ab_R (61), ab_R (62), ab_R (63)], ab_ai 0 7 (fun _ => 0), ab_ai 0 7 (fun _ => 0), ab_ai 0 7 (fun _ => 0), ab_ai 0 35 (fun _ => 0), ab_al 24 (fun _ => 0), ab_ai 0 24 (fun _ => 0), ab_ai 0 12 (fun _ => 0), ab_ob 1 [ab_I (0), ab_R (64), ab_R (65), ab_R (66), ab_R (67)], ab_ai 0 10 (fun _ => 0), ab_ai 0 10 (fun _ => 0), ab_ai 0 10 (fun _ => 0), ab_ai 0 10 (fun _ => 0), ab_ob 5 [ab_I (0), ab_I (0), ab_I (0), ab_I (0), ab_I (0), ab_I (0), ab_I (0), ab_I (0), ab_I (0), ab_I (0), ab_N, ab_N, ab_N, ab_N, ab_N, ab_N, ab_N, ab_N]]
def fw_29 : ab_W := [ab_ob 10 [ab_R (1), ab_R (3), ab_R (16), ab_R (29), ab_R (30), ab_R (31), ab_I (0), ab_R (32), ab_R (36), ab_R (38), ab_R (40), ab_R (45), ab_R (51)], ab_ob 8 [ab_R (2), ab_I (0), ab_I (0), ab_R (ab_sb + 0), ab_I (0), ab_I (0), ab_I (0), ab_I (0), ab_I (0)], ab_ai 1 400 (fun _ => 0), ab_ob 5 [ab_I (0), ab_I (0), ab_I (0), ab_I (0), ab_I (0), ab_I (0), ab_I (0), ab_I (0), ab_I (0), ab_I (0), ab_R (4), ab_R (5), ab_R (6), ab_R (7), ab_R (8), ab_R (9), ab_R (10), ab_R (11)], ab_ai 0 7 (fun _ => 0), ab_ai 0 7 (fun _ => 0), ab_ai 0 7 (fun _ => 0), ab_ai 0 35 (fun _ => 0), ab_al 24 (fun _ => 0), ab_ai 0 24 (fun _ => 0), ab_ai 0 12 (fun _ => 0), ab_ob 1 [ab_I (0), ab_R (12), ab_R (13), ab_R (14), ab_R (15)], ab_ai 0 10 (fun _ => 0), ab_ai 0 10 (fun _ => 0), ab_ai 0 10 (fun _ => 0), ab_ai 0 10 (fun _ => 0), ab_ob 5 [ab_I (0), ab_I (0), ab_I (0), ab_I (0), ab_I (0), ab_I (0), ab_I (0), ab_I (0), ab_I (0), ab_I (0), ab_R (17), ab_R (18), ab_R (19), ab_R (20), ab_R (21), ab_R (22), ab_R (23), ab_R (24)], ab_ai 0 7 (fun _ => 0), ab_ai 0 7 (fun _ => 0), ab_ai 0 7 (fun _ => 0), ab_ai 0 35 (fun _ => 0), ab_al 24 (fun _ => 0), ab_ai 0 24 (fun _ => 0), ab_ai 0 12 (fun _ => 0), ab_ob 1 [ab_I (0), ab_R (25), ab_R (26), ab_R (27), ab_R (28)], ab_ai 0 10 (fun _ => 0), ab_ai 0 10 (fun _ => 0), ab_ai 0 10 (fun _ => 0), ab_ai 0 10 (fun _ => 0), ab_ar 4 4 (ab_up (fun _ => none) 0 (some 55)), ab_ai 2 4 (fun _ => 0), ab_ar 5 6 (fun _ => none), ab_ob 0 [ab_R (33), ab_R (34), ab_R (35), ab_I (0), ab_I (0)], ab_ai 0 20 (fun _ => 0), ab_ai 0 20 (fun _ => 0), ab_ai 0 20 (fun _ => 0), ab_ob 7 [ab_R (37), ab_I (0), ab_I (0)], ab_ai 0 400 (fun _ => 0), ab_ob 3 [ab_R (39), ab_I (0)], ab_al 32 (fun _ => 0), ab_ob 4 [ab_R (41), ab_R (42), ab_I (0), ab_R (43), ab_R (44)], ab_ai 0 5 (fun _ => 0), ab_ai 0 5 (fun _ => 0), ab_ai 0 6 (fun _ => 0), ab_ai 0 42 (fun _ => 0), ab_ob 9 [ab_R (46), ab_R (47), ab_R (48), ab_R (49), ab_R (50)], ab_ai 0 7 (fun _ => 0), ab_ai 0 49 (fun _ => 0), ab_ai 0 7 (fun _ => 0), ab_ai 0 128 (fun _ => 0), ab_ai 0 128 (fun _ => 0), ab_ob 2 [ab_R (52), ab_R (53), ab_I (0), ab_R (54), ab_I (0), ab_I (0)], ab_ai 0 84 (fun _ => 0), ab_ai 0 84 (fun _ => 0), ab_ai 0 35 (fun _ => 0), ab_ob 5 [ab_I (0), ab_I (0), ab_I (0), ab_I (0), ab_I (0), ab_I (0), ab_I (0), ab_I (0), ab_I (0), ab_I (0), ab_R (56), ab_R (57), ab_R (58), ab_R (59), ab_R (60), ab_R (61), ab_R (62), ab_R (63)], ab_ai 0 7 (fun _ => 0), ab_ai 0 7 (fun _ => 0), ab_ai 0 7 (fun _ => 0), ab_ai 0 35 (fun _ => 0), ab_al 24 (fun _ => 0), ab_ai 0 24 (fun _ => 0), ab_ai 0 12 (fun _ => 0), ab_ob 1 [ab_I (0), ab_R (64), ab_R (65), ab_R (66), ab_R (67)], ab_ai 0 10 (fun _ => 0), ab_ai 0 10 (fun _ => 0), ab_ai 0 10 (fun _ => 0), ab_ai 0 10 (fun _ => 0), ab_ob 5 [ab_I (0), ab_I (0), ab_I (0), ab_I (0), ab_I (0), ab_I (0), ab_I (0), ab_I (0), ab_I (0), ab_I (0), ab_R (69), ab_R (70), ab_R (71), ab_R (72), ab_R (73), ab_R (74), ab_R (75), ab_N], ab_ai 0 7 (fun _ => 0), ab_ai 0 7 (fun _ => 0), ab_ai 0 7 (fun _ => 0), ab_ai 0 35 (fun _ => 0), ab_al 24 (fun _ => 0), ab_ai 0 24 (fun _ => 0), ab_ai 0 12 (fun _ => 0), ab_ob 1 [ab_I (0), ab_N, ab_N, ab_N, ab_N]]
def fw_30 : ab_W := [ab_ob 10 [ab_R (1), ab_R (3), ab_R (16), ab_R (29), ab_R (30), ab_R (31), ab_I (0), ab_R (32), ab_R (36), ab_R (38), ab_R (40), ab_R (45), ab_R (51)], ab_ob 8 [ab_R (2), ab_I (0), ab_I (0), ab_R (ab_sb + 0), ab_I (0), ab_I (0), ab_I (0), ab_I (0), ab_I (0)], ab_ai 1 400 (fun _ => 0), ab_ob 5 [ab_I (0), ab_I (0), ab_I (0), ab_I (0), ab_I (0), ab_I (0), ab_I (0), ab_I (0), ab_I (0), ab_I (0), ab_R (4), ab_R (5), ab_R (6), ab_R (7), ab_R (8), ab_R (9), ab_R (10), ab_R (11)], ab_ai 0 7 (fun _ => 0), ab_ai 0 7 (fun _ => 0), ab_ai 0 7 (fun _ => 0), ab_ai 0 35 (fun _ => 0), ab_al 24 (fun _ => 0), ab_ai 0 24 (fun _ => 0), ab_ai 0 12 (fun _ => 0), ab_ob 1 [ab_I (0), ab_R (12), ab_R (13), ab_R (14), ab_R (15)], ab_ai 0 10 (fun _ => 0), ab_ai 0 10 (fun _ => 0), ab_ai 0 10 (fun _ => 0), ab_ai 0 10 (fun _ => 0), ab_ob 5 [ab_I (0), ab_I (0), ab_I (0), ab_I (0), ab_I (0), ab_I (0), ab_I (0), ab_I (0), ab_I (0), ab_I (0), ab_R (17), ab_R (18), ab_R (19), ab_R (20), ab_R (21), ab_R (22), ab_R (23), ab_R (24)], ab_ai 0 7 (fun _ => 0), ab_ai 0 7 (fun _ => 0), ab_ai 0 7 (fun _ => 0), ab_ai 0 35 (fun _ => 0), ab_al 24 (fun _ => 0), ab_ai 0 24 (fun _ => 0), ab_ai 0 12 (fun _ => 0), ab_ob 1 [ab_I (0), ab_R (25), ab_R (26), ab_R (27), ab_R (28)], ab_ai 0 10 (fun _ => 0), ab_ai 0 10 (fun _ => 0), ab_ai 0 10 (fun _ => 0), ab_ai 0 10 (fun _ => 0), ab_ar 4 4 (ab_up (fun _ => none) 0 (some 55)), ab_ai 2 4 (fun _ => 0), ab_ar 5 6 (fun _ => none), ab_ob 0 [ab_R (33), ab_R (34), ab_R (35), ab_I (0), ab_I (0)], ab_ai 0 20 (fun _ => 0), ab_ai 0 20 (fun _ => 0), ab_ai 0 20 (fun _ => 0), ab_ob 7 [ab_R (37), ab_I (0), ab_I (0)], ab_ai 0 400 (fun _ => 0), ab_ob 3 [ab_R (39), ab_I (0)], ab_al 32 (fun _ => 0), ab_ob 4 [ab_R (41), ab_R (42), ab_I (0), ab_R (43), ab_R (44)], ab_ai 0 5 (fun _ => 0), ab_ai 0 5 (fun _ => 0), ab_ai 0 6 (fun _ => 0), ab_ai 0 42 (fun _ => 0), ab_ob 9 [ab_R (46), ab_R (47), ab_R (48), ab_R (49), ab_R (50)], ab_ai 0 7 (fun _ => 0), ab_ai 0 49 (fun _ => 0), ab_ai 0 7 (fun _ => 0), ab_ai 0 128 (fun _ => 0), ab_ai 0 128 (fun _ => 0), ab_ob 2 [ab_R (52), ab_R (53), ab_I (0), ab_R (54), ab_I (0), ab_I (0)], ab_ai 0 84 (fun _ => 0), ab_ai 0 84 (fun _ => 0), ab_ai 0 35 (fun _ => 0), ab_ob 5 [ab_I (0), ab_I (0), ab_I (0), ab_I (0), ab_I (0), ab_I (0), ab_I (0), ab_I (0), ab_I (0), ab_I (0), ab_R (56), ab_R (57), ab_R (58), ab_R (59), ab_R (60), ab_R (61), ab_R (62), ab_R (63)], ab_ai 0 7 (fun _ => 0), ab_ai 0 7 (fun _ => 0), ab_ai 0 7 (fun _ => 0), ab_ai 0 35 (fun _ => 0), ab_al 24 (fun _ => 0), ab_ai 0 24 (fun _ => 0), ab_ai 0 12 (fun _ => 0), ab_ob 1 [ab_I (0), ab_R (64), ab_R (65), ab_R (66), ab_R (67)], ab_ai 0 10 (fun _ => 0), ab_ai 0 10 (fun _ => 0), ab_ai 0 10 (fun _ => 0), ab_ai 0 10 (fun _ => 0), ab_ob 5 [ab_I (0), ab_I (0), ab_I (0), ab_I (0), ab_I (0), ab_I (0), ab_I (0), ab_I (0), ab_I (0), ab_I (0), ab_R (69), ab_R (70), ab_R (71), ab_R (72), ab_R (73), ab_R (74), ab_R (75), ab_N], ab_ai 0 7 (fun _ => 0), ab_ai 0 7 (fun _ => 0), ab_ai 0 7 (fun _ => 0), ab_ai 0 35 (fun _ => 0), ab_al 24 (fun _ => 0), ab_ai 0 24 (fun _ => 0), ab_ai 0 12 (fun _ => 0), ab_ob 1 [ab_I (0), ab_R (77), ab_R (78), ab_R (79), ab_R (80)], ab_ai 0 10 (fun _ => 0), ab_ai 0 10 (fun _ => 0), ab_ai 0 10 (fun _ => 0), ab_ai 0 10 (fun _ => 0)]
set_option maxHeartbeats 4000000 in
set_option maxRecDepth 20000 in
theorem fx_16  : ab_Mt g_G g_rs mt_Di_init 1 4 40 [ab_R (76)] fw_29 (ab_is none fw_30) := by
  refine ab_Mt.of rfl (Nat.le_of_ble_eq_true rfl) ?_
  show ab_Ev g_G g_rs mt_Di_init _ _ _ 0 [some (ab_R (76))] [] _ _
  refine ev_aload_n de_Di_init_0 rfl rfl ?_
  refine ev_objInit de_Di_init_1 oi_Di (Nat.le_of_ble_eq_true rfl) (by decide) ?_
  refine ev_aload_n de_Di_init_4 rfl rfl ?_
  refine ev_bipush de_Di_init_5 rfl ?_
  refine ev_newai (n := 10) (bc := 3) (bs := 30) de_Di_init_7 ac_int (by decide) (by decide) (Nat.le_of_ble_eq_true rfl) (ab_okW_r (by decide +kernel) rfl (ab_all2 (ab_okru (by decide) ab_okr0) ab_okr0)) (ab_okL_of rfl) (ab_okS_of rfl) ?_
  refine ev_top (b := ab_R 77) rfl ?_
  refine ev_world (w' := (fw_29 ++ [ab_ai 0 10 (fun _ => 0)])) rfl ?_
  refine ev_putfield de_Di_init_9 rfl fp_Di_9 (Nat.le_of_ble_eq_true rfl) trivial ?_
  refine ev_world (w' := ((fw_29.set 76 (ab_ob 1 [ab_I (0), ab_R (77), ab_N, ab_N, ab_N])) ++ [ab_ai 0 10 (fun _ => 0)])) rfl ?_
  refine ev_aload_n de_Di_init_12 rfl rfl ?_
  refine ev_bipush de_Di_init_13 rfl ?_
  refine ev_newai (n := 10) (bc := 2) (bs := 20) de_Di_init_15 ac_int (by decide) (by decide) (Nat.le_of_ble_eq_true rfl) (ab_okW_r (by decide +kernel) rfl (ab_all2 (ab_okru (by decide) ab_okr0) ab_okr0)) (ab_okL_of rfl) (ab_okS_of rfl) ?_
  refine ev_top (b := ab_R 78) rfl ?_
  refine ev_world (w' := ((fw_29.set 76 (ab_ob 1 [ab_I (0), ab_R (77), ab_N, ab_N, ab_N])) ++ [ab_ai 0 10 (fun _ => 0), ab_ai 0 10 (fun _ => 0)])) rfl ?_
  refine ev_putfield de_Di_init_17 rfl fp_Di_15 (Nat.le_of_ble_eq_true rfl) trivial ?_
  refine ev_world (w' := ((fw_29.set 76 (ab_ob 1 [ab_I (0), ab_R (77), ab_R (78), ab_N, ab_N])) ++ [ab_ai 0 10 (fun _ => 0), ab_ai 0 10 (fun _ => 0)])) rfl ?_
  refine ev_aload_n de_Di_init_20 rfl rfl ?_
  refine ev_bipush de_Di_init_21 rfl ?_
  refine ev_newai (n := 10) (bc := 1) (bs := 10) de_Di_init_23 ac_int (by decide) (by decide) (Nat.le_of_ble_eq_true rfl) (ab_okW_r (by decide +kernel) rfl (ab_all2 (ab_okru (by decide) ab_okr0) ab_okr0)) (ab_okL_of rfl) (ab_okS_of rfl) ?_
  refine ev_top (b := ab_R 79) rfl ?_
  refine ev_world (w' := ((fw_29.set 76 (ab_ob 1 [ab_I (0), ab_R (77), ab_R (78), ab_N, ab_N])) ++ [ab_ai 0 10 (fun _ => 0), ab_ai 0 10 (fun _ => 0), ab_ai 0 10 (fun _ => 0)])) rfl ?_
  refine ev_putfield de_Di_init_25 rfl fp_Di_18 (Nat.le_of_ble_eq_true rfl) trivial ?_
  refine ev_world (w' := ((fw_29.set 76 (ab_ob 1 [ab_I (0), ab_R (77), ab_R (78), ab_R (79), ab_N])) ++ [ab_ai 0 10 (fun _ => 0), ab_ai 0 10 (fun _ => 0), ab_ai 0 10 (fun _ => 0)])) rfl ?_
  refine ev_aload_n de_Di_init_28 rfl rfl ?_
  refine ev_bipush de_Di_init_29 rfl ?_
  refine ev_newai (n := 10) (bc := 0) (bs := 0) de_Di_init_31 ac_int (by decide) (by decide) (Nat.le_of_ble_eq_true rfl) (ab_okW_r (by decide +kernel) rfl (ab_all2 (ab_okru (by decide) ab_okr0) ab_okr0)) (ab_okL_of rfl) (ab_okS_of rfl) ?_
  refine ev_top (b := ab_R 80) rfl ?_
  refine ev_world (w' := ((fw_29.set 76 (ab_ob 1 [ab_I (0), ab_R (77), ab_R (78), ab_R (79), ab_N])) ++ [ab_ai 0 10 (fun _ => 0), ab_ai 0 10 (fun _ => 0), ab_ai 0 10 (fun _ => 0), ab_ai 0 10 (fun _ => 0)])) rfl ?_
  refine ev_putfield de_Di_init_33 rfl fp_Di_21 (Nat.le_of_ble_eq_true rfl) trivial ?_
  refine ev_world (w' := ((fw_29.set 76 (ab_ob 1 [ab_I (0), ab_R (77), ab_R (78), ab_R (79), ab_R (80)])) ++ [ab_ai 0 10 (fun _ => 0), ab_ai 0 10 (fun _ => 0), ab_ai 0 10 (fun _ => 0), ab_ai 0 10 (fun _ => 0)])) rfl ?_
  exact ev_return de_Di_init_36 rfl ⟨rfl, rfl⟩
def fw_31 : ab_W := [ab_ob 10 [ab_R (1), ab_R (3), ab_R (16), ab_R (29), ab_R (30), ab_R (31), ab_I (0), ab_R (32), ab_R (36), ab_R (38), ab_R (40), ab_R (45), ab_R (51)], ab_ob 8 [ab_R (2), ab_I (0), ab_I (0), ab_R (ab_sb + 0), ab_I (0), ab_I (0), ab_I (0), ab_I (0), ab_I (0)], ab_ai 1 400 (fun _ => 0), ab_ob 5 [ab_I (0), ab_I (0), ab_I (0), ab_I (0), ab_I (0), ab_I (0), ab_I (0), ab_I (0), ab_I (0), ab_I (0), ab_R (4), ab_R (5), ab_R (6), ab_R (7), ab_R (8), ab_R (9), ab_R (10), ab_R (11)], ab_ai 0 7 (fun _ => 0), ab_ai 0 7 (fun _ => 0), ab_ai 0 7 (fun _ => 0), ab_ai 0 35 (fun _ => 0), ab_al 24 (fun _ => 0), ab_ai 0 24 (fun _ => 0), ab_ai 0 12 (fun _ => 0), ab_ob 1 [ab_I (0), ab_R (12), ab_R (13), ab_R (14), ab_R (15)], ab_ai 0 10 (fun _ => 0), ab_ai 0 10 (fun _ => 0), ab_ai 0 10 (fun _ => 0), ab_ai 0 10 (fun _ => 0), ab_ob 5 [ab_I (0), ab_I (0), ab_I (0), ab_I (0), ab_I (0), ab_I (0), ab_I (0), ab_I (0), ab_I (0), ab_I (0), ab_R (17), ab_R (18), ab_R (19), ab_R (20), ab_R (21), ab_R (22), ab_R (23), ab_R (24)], ab_ai 0 7 (fun _ => 0), ab_ai 0 7 (fun _ => 0), ab_ai 0 7 (fun _ => 0), ab_ai 0 35 (fun _ => 0), ab_al 24 (fun _ => 0), ab_ai 0 24 (fun _ => 0), ab_ai 0 12 (fun _ => 0), ab_ob 1 [ab_I (0), ab_R (25), ab_R (26), ab_R (27), ab_R (28)], ab_ai 0 10 (fun _ => 0), ab_ai 0 10 (fun _ => 0), ab_ai 0 10 (fun _ => 0), ab_ai 0 10 (fun _ => 0), ab_ar 4 4 (ab_up (fun _ => none) 0 (some 55)), ab_ai 2 4 (fun _ => 0), ab_ar 5 6 (fun _ => none), ab_ob 0 [ab_R (33), ab_R (34), ab_R (35), ab_I (0), ab_I (0)], ab_ai 0 20 (fun _ => 0), ab_ai 0 20 (fun _ => 0), ab_ai 0 20 (fun _ => 0), ab_ob 7 [ab_R (37), ab_I (0), ab_I (0)], ab_ai 0 400 (fun _ => 0), ab_ob 3 [ab_R (39), ab_I (0)], ab_al 32 (fun _ => 0), ab_ob 4 [ab_R (41), ab_R (42), ab_I (0), ab_R (43), ab_R (44)], ab_ai 0 5 (fun _ => 0), ab_ai 0 5 (fun _ => 0), ab_ai 0 6 (fun _ => 0), ab_ai 0 42 (fun _ => 0), ab_ob 9 [ab_R (46), ab_R (47), ab_R (48), ab_R (49), ab_R (50)], ab_ai 0 7 (fun _ => 0), ab_ai 0 49 (fun _ => 0), ab_ai 0 7 (fun _ => 0), ab_ai 0 128 (fun _ => 0), ab_ai 0 128 (fun _ => 0), ab_ob 2 [ab_R (52), ab_R (53), ab_I (0), ab_R (54), ab_I (0), ab_I (0)], ab_ai 0 84 (fun _ => 0), ab_ai 0 84 (fun _ => 0), ab_ai 0 35 (fun _ => 0), ab_ob 5 [ab_I (0), ab_I (0), ab_I (0), ab_I (0), ab_I (0), ab_I (0), ab_I (0), ab_I (0), ab_I (0), ab_I (0), ab_R (56), ab_R (57), ab_R (58), ab_R (59), ab_R (60), ab_R (61), ab_R (62), ab_R (63)], ab_ai 0 7 (fun _ => 0), ab_ai 0 7 (fun _ => 0), ab_ai 0 7 (fun _ => 0), ab_ai 0 35 (fun _ => 0), ab_al 24 (fun _ => 0), ab_ai 0 24 (fun _ => 0), ab_ai 0 12 (fun _ => 0), ab_ob 1 [ab_I (0), ab_R (64), ab_R (65), ab_R (66), ab_R (67)], ab_ai 0 10 (fun _ => 0), ab_ai 0 10 (fun _ => 0), ab_ai 0 10 (fun _ => 0), ab_ai 0 10 (fun _ => 0), ab_ob 5 [ab_I (0), ab_I (0), ab_I (0), ab_I (0), ab_I (0), ab_I (0), ab_I (0), ab_I (0), ab_I (0), ab_I (0), ab_R (69), ab_R (70), ab_R (71), ab_R (72), ab_R (73), ab_R (74), ab_R (75), ab_R (76)], ab_ai 0 7 (fun _ => 0), ab_ai 0 7 (fun _ => 0), ab_ai 0 7 (fun _ => 0), ab_ai 0 35 (fun _ => 0), ab_al 24 (fun _ => 0), ab_ai 0 24 (fun _ => 0), ab_ai 0 12 (fun _ => 0), ab_ob 1 [ab_I (0), ab_R (77), ab_R (78), ab_R (79), ab_R (80)], ab_ai 0 10 (fun _ => 0), ab_ai 0 10 (fun _ => 0), ab_ai 0 10 (fun _ => 0), ab_ai 0 10 (fun _ => 0)]
set_option maxHeartbeats 4000000 in
set_option maxRecDepth 20000 in
theorem fx_15  : ab_Mt g_G g_rs mt_Ri_init 2 12 161 [ab_R (68)] fw_28 (ab_is none fw_31) := by
  refine ab_Mt.of rfl (Nat.le_of_ble_eq_true rfl) ?_
  show ab_Ev g_G g_rs mt_Ri_init _ _ _ 0 [some (ab_R (68))] [] _ _
  refine ev_aload_n de_Ri_init_0 rfl rfl ?_
  refine ev_objInit de_Ri_init_1 oi_Ri (Nat.le_of_ble_eq_true rfl) (by decide) ?_
  refine ev_aload_n de_Ri_init_4 rfl rfl ?_
  refine ev_bipush de_Ri_init_5 rfl ?_
  refine ev_newai (n := 7) (bc := 11) (bs := 154) de_Ri_init_7 ac_int (by decide) (by decide) (Nat.le_of_ble_eq_true rfl) (ab_okW_r (by decide +kernel) rfl (ab_all2 (ab_okru (by decide) ab_okr0) ab_okr0)) (ab_okL_of rfl) (ab_okS_of rfl) ?_
  refine ev_top (b := ab_R 69) rfl ?_
  refine ev_world (w' := (fw_28 ++ [ab_ai 0 7 (fun _ => 0)])) rfl ?_
  refine ev_putfield de_Ri_init_9 rfl fp_Ri_9 (Nat.le_of_ble_eq_true rfl) trivial ?_
  refine ev_world (w' := ((fw_28.set 68 (ab_ob 5 [ab_I (0), ab_I (0), ab_I (0), ab_I (0), ab_I (0), ab_I (0), ab_I (0), ab_I (0), ab_I (0), ab_I (0), ab_R (69), ab_N, ab_N, ab_N, ab_N, ab_N, ab_N, ab_N])) ++ [ab_ai 0 7 (fun _ => 0)])) rfl ?_
  refine ev_aload_n de_Ri_init_12 rfl rfl ?_
  refine ev_bipush de_Ri_init_13 rfl ?_
  refine ev_newai (n := 7) (bc := 10) (bs := 147) de_Ri_init_15 ac_int (by decide) (by decide) (Nat.le_of_ble_eq_true rfl) (ab_okW_r (by decide +kernel) rfl (ab_all2 (ab_okru (by decide) ab_okr0) ab_okr0)) (ab_okL_of rfl) (ab_okS_of rfl) ?_
  refine ev_top (b := ab_R 70) rfl ?_
  refine ev_world (w' := ((fw_28.set 68 (ab_ob 5 [ab_I (0), ab_I (0), ab_I (0), ab_I (0), ab_I (0), ab_I (0), ab_I (0), ab_I (0), ab_I (0), ab_I (0), ab_R (69), ab_N, ab_N, ab_N, ab_N, ab_N, ab_N, ab_N])) ++ [ab_ai 0 7 (fun _ => 0), ab_ai 0 7 (fun _ => 0)])) rfl ?_
  refine ev_putfield de_Ri_init_17 rfl fp_Ri_15 (Nat.le_of_ble_eq_true rfl) trivial ?_
  refine ev_world (w' := ((fw_28.set 68 (ab_ob 5 [ab_I (0), ab_I (0), ab_I (0), ab_I (0), ab_I (0), ab_I (0), ab_I (0), ab_I (0), ab_I (0), ab_I (0), ab_R (69), ab_R (70), ab_N, ab_N, ab_N, ab_N, ab_N, ab_N])) ++ [ab_ai 0 7 (fun _ => 0), ab_ai 0 7 (fun _ => 0)])) rfl ?_
  refine ev_aload_n de_Ri_init_20 rfl rfl ?_
  refine ev_bipush de_Ri_init_21 rfl ?_
  refine ev_newai (n := 7) (bc := 9) (bs := 140) de_Ri_init_23 ac_int (by decide) (by decide) (Nat.le_of_ble_eq_true rfl) (ab_okW_r (by decide +kernel) rfl (ab_all2 (ab_okru (by decide) ab_okr0) ab_okr0)) (ab_okL_of rfl) (ab_okS_of rfl) ?_
  refine ev_top (b := ab_R 71) rfl ?_
  refine ev_world (w' := ((fw_28.set 68 (ab_ob 5 [ab_I (0), ab_I (0), ab_I (0), ab_I (0), ab_I (0), ab_I (0), ab_I (0), ab_I (0), ab_I (0), ab_I (0), ab_R (69), ab_R (70), ab_N, ab_N, ab_N, ab_N, ab_N, ab_N])) ++ [ab_ai 0 7 (fun _ => 0), ab_ai 0 7 (fun _ => 0), ab_ai 0 7 (fun _ => 0)])) rfl ?_
  refine ev_putfield de_Ri_init_25 rfl fp_Ri_18 (Nat.le_of_ble_eq_true rfl) trivial ?_
  refine ev_world (w' := ((fw_28.set 68 (ab_ob 5 [ab_I (0), ab_I (0), ab_I (0), ab_I (0), ab_I (0), ab_I (0), ab_I (0), ab_I (0), ab_I (0), ab_I (0), ab_R (69), ab_R (70), ab_R (71), ab_N, ab_N, ab_N, ab_N, ab_N])) ++ [ab_ai 0 7 (fun _ => 0), ab_ai 0 7 (fun _ => 0), ab_ai 0 7 (fun _ => 0)])) rfl ?_
  refine ev_aload_n de_Ri_init_28 rfl rfl ?_
  refine ev_bipush de_Ri_init_29 rfl ?_
  refine ev_newai (n := 35) (bc := 8) (bs := 105) de_Ri_init_31 ac_int (by decide) (by decide) (Nat.le_of_ble_eq_true rfl) (ab_okW_r (by decide +kernel) rfl (ab_all2 (ab_okru (by decide) ab_okr0) ab_okr0)) (ab_okL_of rfl) (ab_okS_of rfl) ?_
  refine ev_top (b := ab_R 72) rfl ?_
  refine ev_world (w' := ((fw_28.set 68 (ab_ob 5 [ab_I (0), ab_I (0), ab_I (0), ab_I (0), ab_I (0), ab_I (0), ab_I (0), ab_I (0), ab_I (0), ab_I (0), ab_R (69), ab_R (70), ab_R (71), ab_N, ab_N, ab_N, ab_N, ab_N])) ++ [ab_ai 0 7 (fun _ => 0), ab_ai 0 7 (fun _ => 0), ab_ai 0 7 (fun _ => 0), ab_ai 0 35 (fun _ => 0)])) rfl ?_
  refine ev_putfield de_Ri_init_33 rfl fp_Ri_21 (Nat.le_of_ble_eq_true rfl) trivial ?_
  refine ev_world (w' := ((fw_28.set 68 (ab_ob 5 [ab_I (0), ab_I (0), ab_I (0), ab_I (0), ab_I (0), ab_I (0), ab_I (0), ab_I (0), ab_I (0), ab_I (0), ab_R (69), ab_R (70), ab_R (71), ab_R (72), ab_N, ab_N, ab_N, ab_N])) ++ [ab_ai 0 7 (fun _ => 0), ab_ai 0 7 (fun _ => 0), ab_ai 0 7 (fun _ => 0), ab_ai 0 35 (fun _ => 0)])) rfl ?_
  refine ev_aload_n de_Ri_init_36 rfl rfl ?_
  refine ev_bipush de_Ri_init_37 rfl ?_
  refine ev_newal (n := 24) (bc := 7) (bs := 81) de_Ri_init_39 ac_long (by decide) (by decide) (Nat.le_of_ble_eq_true rfl) (ab_okW_r (by decide +kernel) rfl (ab_all2 (ab_okru (by decide) ab_okr0) ab_okr0)) (ab_okL_of rfl) (ab_okS_of rfl) ?_
  refine ev_top (b := ab_R 73) rfl ?_
  refine ev_world (w' := ((fw_28.set 68 (ab_ob 5 [ab_I (0), ab_I (0), ab_I (0), ab_I (0), ab_I (0), ab_I (0), ab_I (0), ab_I (0), ab_I (0), ab_I (0), ab_R (69), ab_R (70), ab_R (71), ab_R (72), ab_N, ab_N, ab_N, ab_N])) ++ [ab_ai 0 7 (fun _ => 0), ab_ai 0 7 (fun _ => 0), ab_ai 0 7 (fun _ => 0), ab_ai 0 35 (fun _ => 0), ab_al 24 (fun _ => 0)])) rfl ?_
  refine ev_putfield de_Ri_init_41 rfl fp_Ri_24 (Nat.le_of_ble_eq_true rfl) trivial ?_
  refine ev_world (w' := ((fw_28.set 68 (ab_ob 5 [ab_I (0), ab_I (0), ab_I (0), ab_I (0), ab_I (0), ab_I (0), ab_I (0), ab_I (0), ab_I (0), ab_I (0), ab_R (69), ab_R (70), ab_R (71), ab_R (72), ab_R (73), ab_N, ab_N, ab_N])) ++ [ab_ai 0 7 (fun _ => 0), ab_ai 0 7 (fun _ => 0), ab_ai 0 7 (fun _ => 0), ab_ai 0 35 (fun _ => 0), ab_al 24 (fun _ => 0)])) rfl ?_
  refine ev_aload_n de_Ri_init_44 rfl rfl ?_
  refine ev_bipush de_Ri_init_45 rfl ?_
  refine ev_newai (n := 24) (bc := 6) (bs := 57) de_Ri_init_47 ac_int (by decide) (by decide) (Nat.le_of_ble_eq_true rfl) (ab_okW_r (by decide +kernel) rfl (ab_all2 (ab_okru (by decide) ab_okr0) ab_okr0)) (ab_okL_of rfl) (ab_okS_of rfl) ?_
  refine ev_top (b := ab_R 74) rfl ?_
  refine ev_world (w' := ((fw_28.set 68 (ab_ob 5 [ab_I (0), ab_I (0), ab_I (0), ab_I (0), ab_I (0), ab_I (0), ab_I (0), ab_I (0), ab_I (0), ab_I (0), ab_R (69), ab_R (70), ab_R (71), ab_R (72), ab_R (73), ab_N, ab_N, ab_N])) ++ [ab_ai 0 7 (fun _ => 0), ab_ai 0 7 (fun _ => 0), ab_ai 0 7 (fun _ => 0), ab_ai 0 35 (fun _ => 0), ab_al 24 (fun _ => 0), ab_ai 0 24 (fun _ => 0)])) rfl ?_
  refine ev_putfield de_Ri_init_49 rfl fp_Ri_28 (Nat.le_of_ble_eq_true rfl) trivial ?_
  refine ev_world (w' := ((fw_28.set 68 (ab_ob 5 [ab_I (0), ab_I (0), ab_I (0), ab_I (0), ab_I (0), ab_I (0), ab_I (0), ab_I (0), ab_I (0), ab_I (0), ab_R (69), ab_R (70), ab_R (71), ab_R (72), ab_R (73), ab_R (74), ab_N, ab_N])) ++ [ab_ai 0 7 (fun _ => 0), ab_ai 0 7 (fun _ => 0), ab_ai 0 7 (fun _ => 0), ab_ai 0 35 (fun _ => 0), ab_al 24 (fun _ => 0), ab_ai 0 24 (fun _ => 0)])) rfl ?_
  refine ev_aload_n de_Ri_init_52 rfl rfl ?_
  refine ev_bipush de_Ri_init_53 rfl ?_
  refine ev_newai (n := 12) (bc := 5) (bs := 45) de_Ri_init_55 ac_int (by decide) (by decide) (Nat.le_of_ble_eq_true rfl) (ab_okW_r (by decide +kernel) rfl (ab_all2 (ab_okru (by decide) ab_okr0) ab_okr0)) (ab_okL_of rfl) (ab_okS_of rfl) ?_
  refine ev_top (b := ab_R 75) rfl ?_
  refine ev_world (w' := ((fw_28.set 68 (ab_ob 5 [ab_I (0), ab_I (0), ab_I (0), ab_I (0), ab_I (0), ab_I (0), ab_I (0), ab_I (0), ab_I (0), ab_I (0), ab_R (69), ab_R (70), ab_R (71), ab_R (72), ab_R (73), ab_R (74), ab_N, ab_N])) ++ [ab_ai 0 7 (fun _ => 0), ab_ai 0 7 (fun _ => 0), ab_ai 0 7 (fun _ => 0), ab_ai 0 35 (fun _ => 0), ab_al 24 (fun _ => 0), ab_ai 0 24 (fun _ => 0), ab_ai 0 12 (fun _ => 0)])) rfl ?_
  refine ev_putfield de_Ri_init_57 rfl fp_Ri_31 (Nat.le_of_ble_eq_true rfl) trivial ?_
  refine ev_world (w' := ((fw_28.set 68 (ab_ob 5 [ab_I (0), ab_I (0), ab_I (0), ab_I (0), ab_I (0), ab_I (0), ab_I (0), ab_I (0), ab_I (0), ab_I (0), ab_R (69), ab_R (70), ab_R (71), ab_R (72), ab_R (73), ab_R (74), ab_R (75), ab_N])) ++ [ab_ai 0 7 (fun _ => 0), ab_ai 0 7 (fun _ => 0), ab_ai 0 7 (fun _ => 0), ab_ai 0 35 (fun _ => 0), ab_al 24 (fun _ => 0), ab_ai 0 24 (fun _ => 0), ab_ai 0 12 (fun _ => 0)])) rfl ?_
  refine ev_aload_n de_Ri_init_60 rfl rfl ?_
  refine ev_new (N := 5) (bc := 4) (bs := 40) de_Ri_init_61 nw_Ri_34 (Nat.le_of_ble_eq_true rfl) (ab_okW_r (by decide +kernel) rfl (ab_all2 (ab_okru (by decide) ab_okr0) ab_okr0)) (ab_okS_of rfl) (ab_okL_of rfl) (ab_okS_of rfl) ?_
  refine ev_top (b := ab_R 76) rfl ?_
  refine ev_world (w' := ((fw_28.set 68 (ab_ob 5 [ab_I (0), ab_I (0), ab_I (0), ab_I (0), ab_I (0), ab_I (0), ab_I (0), ab_I (0), ab_I (0), ab_I (0), ab_R (69), ab_R (70), ab_R (71), ab_R (72), ab_R (73), ab_R (74), ab_R (75), ab_N])) ++ [ab_ai 0 7 (fun _ => 0), ab_ai 0 7 (fun _ => 0), ab_ai 0 7 (fun _ => 0), ab_ai 0 35 (fun _ => 0), ab_al 24 (fun _ => 0), ab_ai 0 24 (fun _ => 0), ab_ai 0 12 (fun _ => 0), ab_ob 1 [ab_I (0), ab_N, ab_N, ab_N, ab_N]])) rfl ?_
  refine ev_dup de_Ri_init_64 rfl ?_
  refine ev_world (w' := fw_29) rfl ?_
  refine ev_xn (mc := 4) (ms := 40) (bc := 0) (bs := 0) de_Ri_init_65 fx_16 kb_Ri_36 ⟨im_Di_init, rfl, rfl⟩ rfl (Nat.le_of_ble_eq_true rfl) (by decide) (ab_okL_of rfl) (ab_okS_of rfl) ?_
  refine ev_putfield de_Ri_init_68 rfl fp_Ri_37 (Nat.le_of_ble_eq_true rfl) trivial ?_
  refine ev_world (w' := (fw_30.set 68 (ab_ob 5 [ab_I (0), ab_I (0), ab_I (0), ab_I (0), ab_I (0), ab_I (0), ab_I (0), ab_I (0), ab_I (0), ab_I (0), ab_R (69), ab_R (70), ab_R (71), ab_R (72), ab_R (73), ab_R (74), ab_R (75), ab_R (76)]))) rfl ?_
  exact ev_return de_Ri_init_71 rfl ⟨rfl, rfl⟩
def fw_32 : ab_W := [ab_ob 10 [ab_R (1), ab_R (3), ab_R (16), ab_R (29), ab_R (30), ab_R (31), ab_I (0), ab_R (32), ab_R (36), ab_R (38), ab_R (40), ab_R (45), ab_R (51)], ab_ob 8 [ab_R (2), ab_I (0), ab_I (0), ab_R (ab_sb + 0), ab_I (0), ab_I (0), ab_I (0), ab_I (0), ab_I (0)], ab_ai 1 400 (fun _ => 0), ab_ob 5 [ab_I (0), ab_I (0), ab_I (0), ab_I (0), ab_I (0), ab_I (0), ab_I (0), ab_I (0), ab_I (0), ab_I (0), ab_R (4), ab_R (5), ab_R (6), ab_R (7), ab_R (8), ab_R (9), ab_R (10), ab_R (11)], ab_ai 0 7 (fun _ => 0), ab_ai 0 7 (fun _ => 0), ab_ai 0 7 (fun _ => 0), ab_ai 0 35 (fun _ => 0), ab_al 24 (fun _ => 0), ab_ai 0 24 (fun _ => 0), ab_ai 0 12 (fun _ => 0), ab_ob 1 [ab_I (0), ab_R (12), ab_R (13), ab_R (14), ab_R (15)], ab_ai 0 10 (fun _ => 0), ab_ai 0 10 (fun _ => 0), ab_ai 0 10 (fun _ => 0), ab_ai 0 10 (fun _ => 0), ab_ob 5 [ab_I (0), ab_I (0), ab_I (0), ab_I (0), ab_I (0), ab_I (0), ab_I (0), ab_I (0), ab_I (0), ab_I (0), ab_R (17), ab_R (18), ab_R (19), ab_R (20), ab_R (21), ab_R (22), ab_R (23), ab_R (24)], ab_ai 0 7 (fun _ => 0), ab_ai 0 7 (fun _ => 0), ab_ai 0 7 (fun _ => 0), ab_ai 0 35 (fun _ => 0), ab_al 24 (fun _ => 0), ab_ai 0 24 (fun _ => 0), ab_ai 0 12 (fun _ => 0), ab_ob 1 [ab_I (0), ab_R (25), ab_R (26), ab_R (27), ab_R (28)], ab_ai 0 10 (fun _ => 0), ab_ai 0 10 (fun _ => 0), ab_ai 0 10 (fun _ => 0), ab_ai 0 10 (fun _ => 0), ab_ar 4 4 (ab_up (ab_up (fun _ => none) 0 (some 55)) 1 (some 68)), ab_ai 2 4 (fun _ => 0), ab_ar 5 6 (fun _ => none), ab_ob 0 [ab_R (33), ab_R (34), ab_R (35), ab_I (0), ab_I (0)], ab_ai 0 20 (fun _ => 0), ab_ai 0 20 (fun _ => 0), ab_ai 0 20 (fun _ => 0), ab_ob 7 [ab_R (37), ab_I (0), ab_I (0)], ab_ai 0 400 (fun _ => 0), ab_ob 3 [ab_R (39), ab_I (0)], ab_al 32 (fun _ => 0), ab_ob 4 [ab_R (41), ab_R (42), ab_I (0), ab_R (43), ab_R (44)], ab_ai 0 5 (fun _ => 0), ab_ai 0 5 (fun _ => 0), ab_ai 0 6 (fun _ => 0), ab_ai 0 42 (fun _ => 0), ab_ob 9 [ab_R (46), ab_R (47), ab_R (48), ab_R (49), ab_R (50)], ab_ai 0 7 (fun _ => 0), ab_ai 0 49 (fun _ => 0), ab_ai 0 7 (fun _ => 0), ab_ai 0 128 (fun _ => 0), ab_ai 0 128 (fun _ => 0), ab_ob 2 [ab_R (52), ab_R (53), ab_I (0), ab_R (54), ab_I (0), ab_I (0)], ab_ai 0 84 (fun _ => 0), ab_ai 0 84 (fun _ => 0), ab_ai 0 35 (fun _ => 0), ab_ob 5 [ab_I (0), ab_I (0), ab_I (0), ab_I (0), ab_I (0), ab_I (0), ab_I (0), ab_I (0), ab_I (0), ab_I (0), ab_R (56), ab_R (57), ab_R (58), ab_R (59), ab_R (60), ab_R (61), ab_R (62), ab_R (63)], ab_ai 0 7 (fun _ => 0), ab_ai 0 7 (fun _ => 0), ab_ai 0 7 (fun _ => 0), ab_ai 0 35 (fun _ => 0), ab_al 24 (fun _ => 0), ab_ai 0 24 (fun _ => 0), ab_ai 0 12 (fun _ => 0), ab_ob 1 [ab_I (0), ab_R (64), ab_R (65), ab_R (66), ab_R (67)], ab_ai 0 10 (fun _ => 0), ab_ai 0 10 (fun _ => 0), ab_ai 0 10 (fun _ => 0), ab_ai 0 10 (fun _ => 0), ab_ob 5 [ab_I (0), ab_I (0), ab_I (0), ab_I (0), ab_I (0), ab_I (0), ab_I (0), ab_I (0), ab_I (0), ab_I (0), ab_R (69), ab_R (70), ab_R (71), ab_R (72), ab_R (73), ab_R (74), ab_R (75), ab_R (76)], ab_ai 0 7 (fun _ => 0), ab_ai 0 7 (fun _ => 0), ab_ai 0 7 (fun _ => 0), ab_ai 0 35 (fun _ => 0), ab_al 24 (fun _ => 0), ab_ai 0 24 (fun _ => 0), ab_ai 0 12 (fun _ => 0), ab_ob 1 [ab_I (0), ab_R (77), ab_R (78), ab_R (79), ab_R (80)], ab_ai 0 10 (fun _ => 0), ab_ai 0 10 (fun _ => 0), ab_ai 0 10 (fun _ => 0), ab_ai 0 10 (fun _ => 0), ab_ob 5 [ab_I (0), ab_I (0), ab_I (0), ab_I (0), ab_I (0), ab_I (0), ab_I (0), ab_I (0), ab_I (0), ab_I (0), ab_N, ab_N, ab_N, ab_N, ab_N, ab_N, ab_N, ab_N]]
def fw_33 : ab_W := [ab_ob 10 [ab_R (1), ab_R (3), ab_R (16), ab_R (29), ab_R (30), ab_R (31), ab_I (0), ab_R (32), ab_R (36), ab_R (38), ab_R (40), ab_R (45), ab_R (51)], ab_ob 8 [ab_R (2), ab_I (0), ab_I (0), ab_R (ab_sb + 0), ab_I (0), ab_I (0), ab_I (0), ab_I (0), ab_I (0)], ab_ai 1 400 (fun _ => 0), ab_ob 5 [ab_I (0), ab_I (0), ab_I (0), ab_I (0), ab_I (0), ab_I (0), ab_I (0), ab_I (0), ab_I (0), ab_I (0), ab_R (4), ab_R (5), ab_R (6), ab_R (7), ab_R (8), ab_R (9), ab_R (10), ab_R (11)], ab_ai 0 7 (fun _ => 0), ab_ai 0 7 (fun _ => 0), ab_ai 0 7 (fun _ => 0), ab_ai 0 35 (fun _ => 0), ab_al 24 (fun _ => 0), ab_ai 0 24 (fun _ => 0), ab_ai 0 12 (fun _ => 0), ab_ob 1 [ab_I (0), ab_R (12), ab_R (13), ab_R (14), ab_R (15)], ab_ai 0 10 (fun _ => 0), ab_ai 0 10 (fun _ => 0), ab_ai 0 10 (fun _ => 0), ab_ai 0 10 (fun _ => 0), ab_ob 5 [ab_I (0), ab_I (0), ab_I (0), ab_I (0), ab_I (0), ab_I (0), ab_I (0), ab_I (0), ab_I (0), ab_I (0), ab_R (17), ab_R (18), ab_R (19), ab_R (20), ab_R (21), ab_R (22), ab_R (23), ab_R (24)], ab_ai 0 7 (fun _ => 0), ab_ai 0 7 (fun _ => 0), ab_ai 0 7 (fun _ => 0), ab_ai 0 35 (fun _ => 0), ab_al 24 (fun _ => 0), ab_ai 0 24 (fun _ => 0), ab_ai 0 12 (fun _ => 0), ab_ob 1 [ab_I (0), ab_R (25), ab_R (26), ab_R (27), ab_R (28)], ab_ai 0 10 (fun _ => 0), ab_ai 0 10 (fun _ => 0), ab_ai 0 10 (fun _ => 0), ab_ai 0 10 (fun _ => 0), ab_ar 4 4 (ab_up (ab_up (fun _ => none) 0 (some 55)) 1 (some 68)), ab_ai 2 4 (fun _ => 0), ab_ar 5 6 (fun _ => none), ab_ob 0 [ab_R (33), ab_R (34), ab_R (35), ab_I (0), ab_I (0)], ab_ai 0 20 (fun _ => 0), ab_ai 0 20 (fun _ => 0), ab_ai 0 20 (fun _ => 0), ab_ob 7 [ab_R (37), ab_I (0), ab_I (0)], ab_ai 0 400 (fun _ => 0), ab_ob 3 [ab_R (39), ab_I (0)], ab_al 32 (fun _ => 0), ab_ob 4 [ab_R (41), ab_R (42), ab_I (0), ab_R (43), ab_R (44)], ab_ai 0 5 (fun _ => 0), ab_ai 0 5 (fun _ => 0), ab_ai 0 6 (fun _ => 0), ab_ai 0 42 (fun _ => 0), ab_ob 9 [ab_R (46), ab_R (47), ab_R (48), ab_R (49), ab_R (50)], ab_ai 0 7 (fun _ => 0), ab_ai 0 49 (fun _ => 0), ab_ai 0 7 (fun _ => 0), ab_ai 0 128 (fun _ => 0), ab_ai 0 128 (fun _ => 0), ab_ob 2 [ab_R (52), ab_R (53), ab_I (0), ab_R (54), ab_I (0), ab_I (0)], ab_ai 0 84 (fun _ => 0), ab_ai 0 84 (fun _ => 0), ab_ai 0 35 (fun _ => 0), ab_ob 5 [ab_I (0), ab_I (0), ab_I (0), ab_I (0), ab_I (0), ab_I (0), ab_I (0), ab_I (0), ab_I (0), ab_I (0), ab_R (56), ab_R (57), ab_R (58), ab_R (59), ab_R (60), ab_R (61), ab_R (62), ab_R (63)], ab_ai 0 7 (fun _ => 0), ab_ai 0 7 (fun _ => 0), ab_ai 0 7 (fun _ => 0), ab_ai 0 35 (fun _ => 0), ab_al 24 (fun _ => 0), ab_ai 0 24 (fun _ => 0), ab_ai 0 12 (fun _ => 0), ab_ob 1 [ab_I (0), ab_R (64), ab_R (65), ab_R (66), ab_R (67)], ab_ai 0 10 (fun _ => 0), ab_ai 0 10 (fun _ => 0), ab_ai 0 10 (fun _ => 0), ab_ai 0 10 (fun _ => 0), ab_ob 5 [ab_I (0), ab_I (0), ab_I (0), ab_I (0), ab_I (0), ab_I (0), ab_I (0), ab_I (0), ab_I (0), ab_I (0), ab_R (69), ab_R (70), ab_R (71), ab_R (72), ab_R (73), ab_R (74), ab_R (75), ab_R (76)], ab_ai 0 7 (fun _ => 0), ab_ai 0 7 (fun _ => 0), ab_ai 0 7 (fun _ => 0), ab_ai 0 35 (fun _ => 0), ab_al 24 (fun _ => 0), ab_ai 0 24 (fun _ => 0), ab_ai 0 12 (fun _ => 0), ab_ob 1 [ab_I (0), ab_R (77), ab_R (78), ab_R (79), ab_R (80)], ab_ai 0 10 (fun _ => 0), ab_ai 0 10 (fun _ => 0), ab_ai 0 10 (fun _ => 0), ab_ai 0 10 (fun _ => 0), ab_ob 5 [ab_I (0), ab_I (0), ab_I (0), ab_I (0), ab_I (0), ab_I (0), ab_I (0), ab_I (0), ab_I (0), ab_I (0), ab_R (82), ab_R (83), ab_R (84), ab_R (85), ab_R (86), ab_R (87), ab_R (88), ab_N], ab_ai 0 7 (fun _ => 0), ab_ai 0 7 (fun _ => 0), ab_ai 0 7 (fun _ => 0), ab_ai 0 35 (fun _ => 0), ab_al 24 (fun _ => 0), ab_ai 0 24 (fun _ => 0), ab_ai 0 12 (fun _ => 0), ab_ob 1 [ab_I (0), ab_N, ab_N, ab_N, ab_N]]
def fw_34 : ab_W := [ab_ob 10 [ab_R (1), ab_R (3), ab_R (16), ab_R (29), ab_R (30), ab_R (31), ab_I (0), ab_R (32), ab_R (36), ab_R (38), ab_R (40), ab_R (45), ab_R (51)], ab_ob 8 [ab_R (2), ab_I (0), ab_I (0), ab_R (ab_sb + 0), ab_I (0), ab_I (0), ab_I (0), ab_I (0), ab_I (0)], ab_ai 1 400 (fun _ => 0), ab_ob 5 [ab_I (0), ab_I (0), ab_I (0), ab_I (0), ab_I (0), ab_I (0), ab_I (0), ab_I (0), ab_I (0), ab_I (0), ab_R (4), ab_R (5), ab_R (6), ab_R (7), ab_R (8), ab_R (9), ab_R (10), ab_R (11)], ab_ai 0 7 (fun _ => 0), ab_ai 0 7 (fun _ => 0), ab_ai 0 7 (fun _ => 0), ab_ai 0 35 (fun _ => 0), ab_al 24 (fun _ => 0), ab_ai 0 24 (fun _ => 0), ab_ai 0 12 (fun _ => 0), ab_ob 1 [ab_I (0), ab_R (12), ab_R (13), ab_R (14), ab_R (15)], ab_ai 0 10 (fun _ => 0), ab_ai 0 10 (fun _ => 0), ab_ai 0 10 (fun _ => 0), ab_ai 0 10 (fun _ => 0), ab_ob 5 [ab_I (0), ab_I (0), ab_I (0), ab_I (0), ab_I (0), ab_I (0), ab_I (0), ab_I (0), ab_I (0), ab_I (0), ab_R (17), ab_R (18), ab_R (19), ab_R (20), ab_R (21), ab_R (22), ab_R (23), ab_R (24)], ab_ai 0 7 (fun _ => 0), ab_ai 0 7 (fun _ => 0), ab_ai 0 7 (fun _ => 0), ab_ai 0 35 (fun _ => 0), ab_al 24 (fun _ => 0), ab_ai 0 24 (fun _ => 0), ab_ai 0 12 (fun _ => 0), ab_ob 1 [ab_I (0), ab_R (25), ab_R (26), ab_R (27), ab_R (28)], ab_ai 0 10 (fun _ => 0), ab_ai 0 10 (fun _ => 0), ab_ai 0 10 (fun _ => 0), ab_ai 0 10 (fun _ => 0), ab_ar 4 4 (ab_up (ab_up (fun _ => none) 0 (some 55)) 1 (some 68)), ab_ai 2 4 (fun _ => 0), ab_ar 5 6 (fun _ => none), ab_ob 0 [ab_R (33), ab_R (34), ab_R (35), ab_I (0), ab_I (0)], ab_ai 0 20 (fun _ => 0), ab_ai 0 20 (fun _ => 0), ab_ai 0 20 (fun _ => 0), ab_ob 7 [ab_R (37), ab_I (0), ab_I (0)], ab_ai 0 400 (fun _ => 0), ab_ob 3 [ab_R (39), ab_I (0)], ab_al 32 (fun _ => 0), ab_ob 4 [ab_R (41), ab_R (42), ab_I (0), ab_R (43), ab_R (44)], ab_ai 0 5 (fun _ => 0), ab_ai 0 5 (fun _ => 0), ab_ai 0 6 (fun _ => 0), ab_ai 0 42 (fun _ => 0), ab_ob 9 [ab_R (46), ab_R (47), ab_R (48), ab_R (49), ab_R (50)], ab_ai 0 7 (fun _ => 0), ab_ai 0 49 (fun _ => 0), ab_ai 0 7 (fun _ => 0), ab_ai 0 128 (fun _ => 0), ab_ai 0 128 (fun _ => 0), ab_ob 2 [ab_R (52), ab_R (53), ab_I (0), ab_R (54), ab_I (0), ab_I (0)], ab_ai 0 84 (fun _ => 0), ab_ai 0 84 (fun _ => 0), ab_ai 0 35 (fun _ => 0), ab_ob 5 [ab_I (0), ab_I (0), ab_I (0), ab_I (0), ab_I (0), ab_I (0), ab_I (0), ab_I (0), ab_I (0), ab_I (0), ab_R (56), ab_R (57), ab_R (58), ab_R (59), ab_R (60), ab_R (61), ab_R (62), ab_R (63)], ab_ai 0 7 (fun _ => 0), ab_ai 0 7 (fun _ => 0), ab_ai 0 7 (fun _ => 0), ab_ai 0 35 (fun _ => 0), ab_al 24 (fun _ => 0), ab_ai 0 24 (fun _ => 0), ab_ai 0 12 (fun _ => 0), ab_ob 1 [ab_I (0), ab_R (64), ab_R (65), ab_R (66), ab_R (67)], ab_ai 0 10 (fun _ => 0), ab_ai 0 10 (fun _ => 0), ab_ai 0 10 (fun _ => 0), ab_ai 0 10 (fun _ => 0), ab_ob 5 [ab_I (0), ab_I (0), ab_I (0), ab_I (0), ab_I (0), ab_I (0), ab_I (0), ab_I (0), ab_I (0), ab_I (0), ab_R (69), ab_R (70), ab_R (71), ab_R (72), ab_R (73), ab_R (74), ab_R (75), ab_R (76)], ab_ai 0 7 (fun _ => 0), ab_ai 0 7 (fun _ => 0), ab_ai 0 7 (fun _ => 0), ab_ai 0 35 (fun _ => 0), ab_al 24 (fun _ => 0), ab_ai 0 24 (fun _ => 0), ab_ai 0 12 (fun _ => 0), ab_ob 1 [ab_I (0), ab_R (77), ab_R (78), ab_R (79), ab_R (80)], ab_ai 0 10 (fun _ => 0), ab_ai 0 10 (fun _ => 0), ab_ai 0 10 (fun _ => 0), ab_ai 0 10 (fun _ => 0), ab_ob 5 [ab_I (0), ab_I (0), ab_I (0), ab_I (0), ab_I (0), ab_I (0), ab_I (0), ab_I (0), ab_I (0), ab_I (0), ab_R (82), ab_R (83), ab_R (84), ab_R (85), ab_R (86), ab_R (87), ab_R (88), ab_N], ab_ai 0 7 (fun _ => 0), ab_ai 0 7 (fun _ => 0), ab_ai 0 7 (fun _ => 0), ab_ai 0 35 (fun _ => 0), ab_al 24 (fun _ => 0), ab_ai 0 24 (fun _ => 0), ab_ai 0 12 (fun _ => 0), ab_ob 1 [ab_I (0), ab_R (90), ab_R (91), ab_R (92), ab_R (93)], ab_ai 0 10 (fun _ => 0), ab_ai 0 10 (fun _ => 0), ab_ai 0 10 (fun _ => 0), ab_ai 0 10 (fun _ => 0)]
set_option maxHeartbeats 4000000 in
set_option maxRecDepth 20000 in
theorem fx_18  : ab_Mt g_G g_rs mt_Di_init 1 4 40 [ab_R (89)] fw_33 (ab_is none fw_34) := by
  refine ab_Mt.of rfl (Nat.le_of_ble_eq_true rfl) ?_
  show ab_Ev g_G g_rs mt_Di_init _ _ _ 0 [some (ab_R (89))] [] _ _
  refine ev_aload_n de_Di_init_0 rfl rfl ?_
  refine ev_objInit de_Di_init_1 oi_Di (Nat.le_of_ble_eq_true rfl) (by decide) ?_
  refine ev_aload_n de_Di_init_4 rfl rfl ?_
  refine ev_bipush de_Di_init_5 rfl ?_
  refine ev_newai (n := 10) (bc := 3) (bs := 30) de_Di_init_7 ac_int (by decide) (by decide) (Nat.le_of_ble_eq_true rfl) (ab_okW_r (by decide +kernel) rfl (ab_all2 (ab_okru (by decide) (ab_okru (by decide) ab_okr0)) ab_okr0)) (ab_okL_of rfl) (ab_okS_of rfl) ?_
  refine ev_top (b := ab_R 90) rfl ?_
  refine ev_world (w' := (fw_33 ++ [ab_ai 0 10 (fun _ => 0)])) rfl ?_
  refine ev_putfield de_Di_init_9 rfl fp_Di_9 (Nat.le_of_ble_eq_true rfl) trivial ?_
  refine ev_world (w' := ((fw_33.set 89 (ab_ob 1 [ab_I (0), ab_R (90), ab_N, ab_N, ab_N])) ++ [ab_ai 0 10 (fun _ => 0)])) rfl ?_
  refine ev_aload_n de_Di_init_12 rfl rfl ?_
  refine ev_bipush de_Di_init_13 rfl ?_
  refine ev_newai (n := 10) (bc := 2) (bs := 20) de_Di_init_15 ac_int (by decide) (by decide) (Nat.le_of_ble_eq_true rfl) (ab_okW_r (by decide +kernel) rfl (ab_all2 (ab_okru (by decide) (ab_okru (by decide) ab_okr0)) ab_okr0)) (ab_okL_of rfl) (ab_okS_of rfl) ?_
  refine ev_top (b := ab_R 91) rfl ?_
  refine ev_world (w' := ((fw_33.set 89 (ab_ob 1 [ab_I (0), ab_R (90), ab_N, ab_N, ab_N])) ++ [ab_ai 0 10 (fun _ => 0), ab_ai 0 10 (fun _ => 0)])) rfl ?_
  refine ev_putfield de_Di_init_17 rfl fp_Di_15 (Nat.le_of_ble_eq_true rfl) trivial ?_
  refine ev_world (w' := ((fw_33.set 89 (ab_ob 1 [ab_I (0), ab_R (90), ab_R (91), ab_N, ab_N])) ++ [ab_ai 0 10 (fun _ => 0), ab_ai 0 10 (fun _ => 0)])) rfl ?_
  refine ev_aload_n de_Di_init_20 rfl rfl ?_
  refine ev_bipush de_Di_init_21 rfl ?_
  refine ev_newai (n := 10) (bc := 1) (bs := 10) de_Di_init_23 ac_int (by decide) (by decide) (Nat.le_of_ble_eq_true rfl) (ab_okW_r (by decide +kernel) rfl (ab_all2 (ab_okru (by decide) (ab_okru (by decide) ab_okr0)) ab_okr0)) (ab_okL_of rfl) (ab_okS_of rfl) ?_
  refine ev_top (b := ab_R 92) rfl ?_
  refine ev_world (w' := ((fw_33.set 89 (ab_ob 1 [ab_I (0), ab_R (90), ab_R (91), ab_N, ab_N])) ++ [ab_ai 0 10 (fun _ => 0), ab_ai 0 10 (fun _ => 0), ab_ai 0 10 (fun _ => 0)])) rfl ?_
  refine ev_putfield de_Di_init_25 rfl fp_Di_18 (Nat.le_of_ble_eq_true rfl) trivial ?_
  refine ev_world (w' := ((fw_33.set 89 (ab_ob 1 [ab_I (0), ab_R (90), ab_R (91), ab_R (92), ab_N])) ++ [ab_ai 0 10 (fun _ => 0), ab_ai 0 10 (fun _ => 0), ab_ai 0 10 (fun _ => 0)])) rfl ?_
  refine ev_aload_n de_Di_init_28 rfl rfl ?_
  refine ev_bipush de_Di_init_29 rfl ?_
  refine ev_newai (n := 10) (bc := 0) (bs := 0) de_Di_init_31 ac_int (by decide) (by decide) (Nat.le_of_ble_eq_true rfl) (ab_okW_r (by decide +kernel) rfl (ab_all2 (ab_okru (by decide) (ab_okru (by decide) ab_okr0)) ab_okr0)) (ab_okL_of rfl) (ab_okS_of rfl) ?_
  refine ev_top (b := ab_R 93) rfl ?_
  refine ev_world (w' := ((fw_33.set 89 (ab_ob 1 [ab_I (0), ab_R (90), ab_R (91), ab_R (92), ab_N])) ++ [ab_ai 0 10 (fun _ => 0), ab_ai 0 10 (fun _ => 0), ab_ai 0 10 (fun _ => 0), ab_ai 0 10 (fun _ => 0)])) rfl ?_
  refine ev_putfield de_Di_init_33 rfl fp_Di_21 (Nat.le_of_ble_eq_true rfl) trivial ?_
  refine ev_world (w' := ((fw_33.set 89 (ab_ob 1 [ab_I (0), ab_R (90), ab_R (91), ab_R (92), ab_R (93)])) ++ [ab_ai 0 10 (fun _ => 0), ab_ai 0 10 (fun _ => 0), ab_ai 0 10 (fun _ => 0), ab_ai 0 10 (fun _ => 0)])) rfl ?_
  exact ev_return de_Di_init_36 rfl ⟨rfl, rfl⟩
def fw_35 : ab_W := [ab_ob 10 [ab_R (1), ab_R (3), ab_R (16), ab_R (29), ab_R (30), ab_R (31), ab_I (0), ab_R (32), ab_R (36), ab_R (38), ab_R (40), ab_R (45), ab_R (51)], ab_ob 8 [ab_R (2), ab_I (0), ab_I (0), ab_R (ab_sb + 0), ab_I (0), ab_I (0), ab_I (0), ab_I (0), ab_I (0)], ab_ai 1 400 (fun _ => 0), ab_ob 5 [ab_I (0), ab_I (0), ab_I (0), ab_I (0), ab_I (0), ab_I (0), ab_I (0), ab_I (0), ab_I (0), ab_I (0), ab_R (4), ab_R (5), ab_R (6), ab_R (7), ab_R (8), ab_R (9), ab_R (10), ab_R (11)], ab_ai 0 7 (fun _ => 0), ab_ai 0 7 (fun _ => 0), ab_ai 0 7 (fun _ => 0), ab_ai 0 35 (fun _ => 0), ab_al 24 (fun _ => 0), ab_ai 0 24 (fun _ => 0), ab_ai 0 12 (fun _ => 0), ab_ob 1 [ab_I (0), ab_R (12), ab_R (13), ab_R (14), ab_R (15)], ab_ai 0 10 (fun _ => 0), ab_ai 0 10 (fun _ => 0), ab_ai 0 10 (fun _ => 0), ab_ai 0 10 (fun _ => 0), ab_ob 5 [ab_I (0), ab_I (0), ab_I (0), ab_I (0), ab_I (0), ab_I (0), ab_I (0), ab_I (0), ab_I (0), ab_I (0), ab_R (17), ab_R (18), ab_R (19), ab_R (20), ab_R (21), ab_R (22), ab_R (23), ab_R (24)], ab_ai 0 7 (fun _ => 0), ab_ai 0 7 (fun _ => 0), ab_ai 0 7 (fun _ => 0), ab_ai 0 35 (fun _ => 0), ab_al 24 (fun _ => 0), ab_ai 0 24 (fun _ => 0), ab_ai 0 12 (fun _ => 0), ab_ob 1 [ab_I (0), ab_R (25), ab_R (26), ab_R (27), ab_R (28)], ab_ai 0 10 (fun _ => 0), ab_ai 0 10 (fun _ => 0), ab_ai 0 10 (fun _ => 0), ab_ai 0 10 (fun _ => 0), ab_ar 4 4 (ab_up (ab_up (fun _ => none) 0 (some 55)) 1 (some 68)), ab_ai 2 4 (fun _ => 0), ab_ar 5 6 (fun _ => none), ab_ob 0 [ab_R (33), ab_R (34), ab_R (35), ab_I (0), ab_I (0)], ab_ai 0 20 (fun _ => 0), ab_ai 0 20 (fun _ => 0), ab_ai 0 20 (fun _ => 0), ab_ob 7 [ab_R (37), ab_I (0), ab_I (0)], ab_ai 0 400 (fun _ => 0), ab_ob 3 [ab_R (39), ab_I (0)], ab_al 32 (fun _ => 0), ab_ob 4 [ab_R (41), ab_R (42), ab_I (0), ab_R (43), ab_R (44)], ab_ai 0 5 (fun _ => 0), ab_ai 0 5 (fun _ => 0), ab_ai 0 6 (fun _ => 0), ab_ai 0 42 (fun _ => 0), ab_ob 9 [ab_R (46), ab_R (47), ab_R (48), ab_R (49), ab_R (50)], ab_ai 0 7 (fun _ => 0), ab_ai 0 49 (fun _ => 0), ab_ai 0 7 (fun _ => 0), ab_ai 0 128 (fun _ => 0), ab_ai 0 128 (fun _ => 0), ab_ob 2 [ab_R (52), ab_R (53), ab_I (0), ab_R (54), ab_I (0), ab_I (0)], ab_ai 0 84 (fun _ => 0), ab_ai 0 84 (fun _ => 0), ab_ai 0 35 (fun _ => 0), ab_ob 5 [ab_I (0), ab_I (0), ab_I (0), ab_I (0), ab_I (0), ab_I (0), ab_I (0), ab_I (0), ab_I (0), ab_I (0), ab_R (56), ab_R (57), ab_R (58), ab_R (59), ab_R (60), ab_R (61), ab_R (62), ab_R (63)], ab_ai 0 7 (fun _ => 0), ab_ai 0 7 (fun _ => 0), ab_ai 0 7 (fun _ => 0), ab_ai 0 35 (fun _ => 0), ab_al 24 (fun _ => 0), ab_ai 0 24 (fun _ => 0), ab_ai 0 12 (fun _ => 0), ab_ob 1 [ab_I (0), ab_R (64), ab_R (65), ab_R (66), ab_R (67)], ab_ai 0 10 (fun _ => 0), ab_ai 0 10 (fun _ => 0), ab_ai 0 10 (fun _ => 0), ab_ai 0 10 (fun _ => 0), ab_ob 5 [ab_I (0), ab_I (0), ab_I (0), ab_I (0), ab_I (0), ab_I (0), ab_I (0), ab_I (0), ab_I (0), ab_I (0), ab_R (69), ab_R (70), ab_R (71), ab_R (72), ab_R (73), ab_R (74), ab_R (75), ab_R (76)], ab_ai 0 7 (fun _ => 0), ab_ai 0 7 (fun _ => 0), ab_ai 0 7 (fun _ => 0), ab_ai 0 35 (fun _ => 0), ab_al 24 (fun _ => 0), ab_ai 0 24 (fun _ => 0), ab_ai 0 12 (fun _ => 0), ab_ob 1 [ab_I (0), ab_R (77), ab_R (78), ab_R (79), ab_R (80)], ab_ai 0 10 (fun _ => 0), ab_ai 0 10 (fun _ => 0), ab_ai 0 10 (fun _ => 0), ab_ai 0 10 (fun _ => 0), ab_ob 5 [ab_I (0), ab_I (0), ab_I (0), ab_I (0), ab_I (0), ab_I (0), ab_I (0), ab_I (0), ab_I (0), ab_I (0), ab_R (82), ab_R (83), ab_R (84), ab_R (85), ab_R (86), ab_R (87), ab_R (88), ab_R (89)], ab_ai 0 7 (fun _ => 0), ab_ai 0 7 (fun _ => 0), ab_ai 0 7 (fun _ => 0), ab_ai 0 35 (fun _ => 0), ab_al 24 (fun _ => 0), ab_ai 0 24 (fun _ => 0), ab_ai 0 12 (fun _ => 0), ab_ob 1 [ab_I (0), ab_R (90), ab_R (91), ab_R (92), ab_R (93)], ab_ai 0 10 (fun _ => 0), ab_ai 0 10 (fun _ => 0), ab_ai 0 10 (fun _ => 0), ab_ai 0 10 (fun _ => 0)]
set_option maxHeartbeats 4000000 in
set_option maxRecDepth 20000 in
theorem fx_17  : ab_Mt g_G g_rs mt_Ri_init 2 12 161 [ab_R (81)] fw_32 (ab_is none fw_35) := by
  refine ab_Mt.of rfl (Nat.le_of_ble_eq_true rfl) ?_
  show ab_Ev g_G g_rs mt_Ri_init _ _ _ 0 [some (ab_R (81))] [] _ _
  refine ev_aload_n de_Ri_init_0 rfl rfl ?_
  refine ev_objInit de_Ri_init_1 oi_Ri (Nat.le_of_ble_eq_true rfl) (by decide) ?_
  refine ev_aload_n de_Ri_init_4 rfl rfl ?_
  refine ev_bipush de_Ri_init_5 rfl ?_
  refine ev_newai (n := 7) (bc := 11) (bs := 154) de_Ri_init_7 ac_int (by decide) (by decide) (Nat.le_of_ble_eq_true rfl) (ab_okW_r (by decide +kernel) rfl (ab_all2 (ab_okru (by decide) (ab_okru (by decide) ab_okr0)) ab_okr0)) (ab_okL_of rfl) (ab_okS_of rfl) ?_
  refine ev_top (b := ab_R 82) rfl ?_
  refine ev_world (w' := (fw_32 ++ [ab_ai 0 7 (fun _ => 0)])) rfl ?_
  refine ev_putfield de_Ri_init_9 rfl fp_Ri_9 (Nat.le_of_ble_eq_true rfl) trivial ?_
  refine ev_world (w' := ((fw_32.set 81 (ab_ob 5 [ab_I (0), ab_I (0), ab_I (0), ab_I (0), ab_I (0), ab_I (0), ab_I (0), ab_I (0), ab_I (0), ab_I (0), ab_R (82), ab_N, ab_N, ab_N, ab_N, ab_N, ab_N, ab_N])) ++ [ab_ai 0 7 (fun _ => 0)])) rfl ?_
  refine ev_aload_n de_Ri_init_12 rfl rfl ?_
  refine ev_bipush de_Ri_init_13 rfl ?_
  refine ev_newai (n := 7) (bc := 10) (bs := 147) de_Ri_init_15 ac_int (by decide) (by decide) (Nat.le_of_ble_eq_true rfl) (ab_okW_r (by decide +kernel) rfl (ab_all2 (ab_okru (by decide) (ab_okru (by decide) ab_okr0)) ab_okr0)) (ab_okL_of rfl) (ab_okS_of rfl) ?_
  refine ev_top (b := ab_R 83) rfl ?_
  refine ev_world (w' := ((fw_32.set 81 (ab_ob 5 [ab_I (0), ab_I (0), ab_I (0), ab_I (0), ab_I (0), ab_I (0), ab_I (0), ab_I (0), ab_I (0), ab_I (0), ab_R (82), ab_N, ab_N, ab_N, ab_N, ab_N, ab_N, ab_N])) ++ [ab_ai 0 7 (fun _ => 0), ab_ai 0 7 (fun _ => 0)])) rfl ?_
  refine ev_putfield de_Ri_init_17 rfl fp_Ri_15 (Nat.le_of_ble_eq_true rfl) trivial ?_
  refine ev_world (w' := ((fw_32.set 81 (ab_ob 5 [ab_I (0), ab_I (0), ab_I (0), ab_I (0), ab_I (0), ab_I (0), ab_I (0), ab_I (0), ab_I (0), ab_I (0), ab_R (82), ab_R (83), ab_N, ab_N, ab_N, ab_N, ab_N, ab_N])) ++ [ab_ai 0 7 (fun _ => 0), ab_ai 0 7 (fun _ => 0)])) rfl ?_
  refine ev_aload_n de_Ri_init_20 rfl rfl ?_
  refine ev_bipush de_Ri_init_21 rfl ?_
  refine ev_newai (n := 7) (bc := 9) (bs := 140) de_Ri_init_23 ac_int (by decide) (by decide) (Nat.le_of_ble_eq_true rfl) (ab_okW_r (by decide +kernel) rfl (ab_all2 (ab_okru (by decide) (ab_okru (by decide) ab_okr0)) ab_okr0)) (ab_okL_of rfl) (ab_okS_of rfl) ?_
  refine ev_top (b := ab_R 84) rfl ?_
  refine ev_world (w' := ((fw_32.set 81 (ab_ob 5 [ab_I (0), ab_I (0), ab_I (0), ab_I (0), ab_I (0), ab_I (0), ab_I (0), ab_I (0), ab_I (0), ab_I (0), ab_R (82), ab_R (83), ab_N, ab_N, ab_N, ab_N, ab_N, ab_N])) ++ [ab_ai 0 7 (fun _ => 0), ab_ai 0 7 (fun _ => 0), ab_ai 0 7 (fun _ => 0)])) rfl ?_
  refine ev_putfield de_Ri_init_25 rfl fp_Ri_18 (Nat.le_of_ble_eq_true rfl) trivial ?_
  refine ev_world (w' := ((fw_32.set 81 (ab_ob 5 [ab_I (0), ab_I (0), ab_I (0), ab_I (0), ab_I (0), ab_I (0), ab_I (0), ab_I (0), ab_I (0), ab_I (0), ab_R (82), ab_R (83), ab_R (84), ab_N, ab_N, ab_N, ab_N, ab_N])) ++ [ab_ai 0 7 (fun _ => 0), ab_ai 0 7 (fun _ => 0), ab_ai 0 7 (fun _ => 0)])) rfl ?_
  refine ev_aload_n de_Ri_init_28 rfl rfl ?_
  refine ev_bipush de_Ri_init_29 rfl ?_
  refine ev_newai (n := 35) (bc := 8) (bs := 105) de_Ri_init_31 ac_int (by decide) (by decide) (Nat.le_of_ble_eq_true rfl) (ab_okW_r (by decide +kernel) rfl (ab_all2 (ab_okru (by decide) (ab_okru (by decide) ab_okr0)) ab_okr0)) (ab_okL_of rfl) (ab_okS_of rfl) ?_
  refine ev_top (b := ab_R 85) rfl ?_
  refine ev_world (w' := ((fw_32.set 81 (ab_ob 5 [ab_I (0), ab_I (0), ab_I (0), ab_I (0), ab_I (0), ab_I (0), ab_I (0), ab_I (0), ab_I (0), ab_I (0), ab_R (82), ab_R (83), ab_R (84), ab_N, ab_N, ab_N, ab_N, ab_N])) ++ [ab_ai 0 7 (fun _ => 0), ab_ai 0 7 (fun _ => 0), ab_ai 0 7 (fun _ => 0), ab_ai 0 35 (fun _ => 0)])) rfl ?_
  refine ev_putfield de_Ri_init_33 rfl fp_Ri_21 (Nat.le_of_ble_eq_true rfl) trivial ?_
  refine ev_world (w' := ((fw_32.set 81 (ab_ob 5 [ab_I (0), ab_I (0), ab_I (0), ab_I (0), ab_I (0), ab_I (0), ab_I (0), ab_I (0), ab_I (0), ab_I (0), ab_R (82), ab_R (83), ab_R (84), ab_R (85), ab_N, ab_N, ab_N, ab_N])) ++ [ab_ai 0 7 (fun _ => 0), ab_ai 0 7 (fun _ => 0), ab_ai 0 7 (fun _ => 0), ab_ai 0 35 (fun _ => 0)])) rfl ?_
  refine ev_aload_n de_Ri_init_36 rfl rfl ?_
  refine ev_bipush de_Ri_init_37 rfl ?_
  refine ev_newal (n := 24) (bc := 7) (bs := 81) de_Ri_init_39 ac_long (by decide) (by decide) (Nat.le_of_ble_eq_true rfl) (ab_okW_r (by decide +kernel) rfl (ab_all2 (ab_okru (by decide) (ab_okru (by decide) ab_okr0)) ab_okr0)) (ab_okL_of rfl) (ab_okS_of rfl) ?_
  refine ev_top (b := ab_R 86) rfl ?_
  refine ev_world (w' := ((fw_32.set 81 (ab_ob 5 [ab_I (0), ab_I (0), ab_I (0), ab_I (0), ab_I (0), ab_I (0), ab_I (0), ab_I (0), ab_I (0), ab_I (0), ab_R (82), ab_R (83), ab_R (84), ab_R (85), ab_N, ab_N, ab_N, ab_N])) ++ [ab_ai 0 7 (fun _ => 0), ab_ai 0 7 (fun _ => 0), ab_ai 0 7 (fun _ => 0), ab_ai 0 35 (fun _ => 0), ab_al 24 (fun _ => 0)])) rfl ?_
  refine ev_putfield de_Ri_init_41 rfl fp_Ri_24 (Nat.le_of_ble_eq_true rfl) trivial ?_
  refine ev_world (w' := ((fw_32.set 81 (ab_ob 5 [ab_I (0), ab_I (0), ab_I (0), ab_I (0), ab_I (0), ab_I (0), ab_I (0), ab_I (0), ab_I (0), ab_I (0), ab_R (82), ab_R (83), ab_R (84), ab_R (85), ab_R (86), ab_N, ab_N, ab_N])) ++ [ab_ai 0 7 (fun _ => 0), ab_ai 0 7 (fun _ => 0), ab_ai 0 7 (fun _ => 0), ab_ai 0 35 (fun _ => 0), ab_al 24 (fun _ => 0)])) rfl ?_
  refine ev_aload_n de_Ri_init_44 rfl rfl ?_
  refine ev_bipush de_Ri_init_45 rfl ?_
  refine ev_newai (n := 24) (bc := 6) (bs := 57) de_Ri_init_47 ac_int (by decide) (by decide) (Nat.le_of_ble_eq_true rfl) (ab_okW_r (by decide +kernel) rfl (ab_all2 (ab_okru (by decide) (ab_okru (by decide) ab_okr0)) ab_okr0)) (ab_okL_of rfl) (ab_okS_of rfl) ?_
  refine ev_top (b := ab_R 87) rfl ?_
  refine ev_world (w' := ((fw_32.set 81 (ab_ob 5 [ab_I (0), ab_I (0), ab_I (0), ab_I (0), ab_I (0), ab_I (0), ab_I (0), ab_I (0), ab_I (0), ab_I (0), ab_R (82), ab_R (83), ab_R (84), ab_R (85), ab_R (86), ab_N, ab_N, ab_N])) ++ [ab_ai 0 7 (fun _ => 0), ab_ai 0 7 (fun _ => 0), ab_ai 0 7 (fun _ => 0), ab_ai 0 35 (fun _ => 0), ab_al 24 (fun _ => 0), ab_ai 0 24 (fun _ => 0)])) rfl ?_
  refine ev_putfield de_Ri_init_49 rfl fp_Ri_28 (Nat.le_of_ble_eq_true rfl) trivial ?_
  refine ev_world (w' := ((fw_32.set 81 (ab_ob 5 [ab_I (0), ab_I (0), ab_I (0), ab_I (0), ab_I (0), ab_I (0), ab_I (0), ab_I (0), ab_I (0), ab_I (0), ab_R (82), ab_R (83), ab_R (84), ab_R (85), ab_R (86), ab_R (87), ab_N, ab_N])) ++ [ab_ai 0 7 (fun _ => 0), ab_ai 0 7 (fun _ => 0), ab_ai 0 7 (fun _ => 0), ab_ai 0 35 (fun _ => 0), ab_al 24 (fun _ => 0), ab_ai 0 24 (fun _ => 0)])) rfl ?_
  refine ev_aload_n de_Ri_init_52 rfl rfl ?_
  refine ev_bipush de_Ri_init_53 rfl ?_
  refine ev_newai (n := 12) (bc := 5) (bs := 45) de_Ri_init_55 ac_int (by decide) (by decide) (Nat.le_of_ble_eq_true rfl) (ab_okW_r (by decide +kernel) rfl (ab_all2 (ab_okru (by decide) (ab_okru (by decide) ab_okr0)) ab_okr0)) (ab_okL_of rfl) (ab_okS_of rfl) ?_
  refine ev_top (b := ab_R 88) rfl ?_
  refine ev_world (w' := ((fw_32.set 81 (ab_ob 5 [ab_I (0), ab_I (0), ab_I (0), ab_I (0), ab_I (0), ab_I (0), ab_I (0), ab_I (0), ab_I (0), ab_I (0), ab_R (82), ab_R (83), ab_R (84), ab_R (85), ab_R (86), ab_R (87), ab_N, ab_N])) ++ [ab_ai 0 7 (fun _ => 0), ab_ai 0 7 (fun _ => 0), ab_ai 0 7 (fun _ => 0), ab_ai 0 35 (fun _ => 0), ab_al 24 (fun _ => 0), ab_ai 0 24 (fun _ => 0), ab_ai 0 12 (fun _ => 0)])) rfl ?_
  refine ev_putfield de_Ri_init_57 rfl fp_Ri_31 (Nat.le_of_ble_eq_true rfl) trivial ?_
  refine ev_world (w' := ((fw_32.set 81 (ab_ob 5 [ab_I (0), ab_I (0), ab_I (0), ab_I (0), ab_I (0), ab_I (0), ab_I (0), ab_I (0), ab_I (0), ab_I (0), ab_R (82), ab_R (83), ab_R (84), ab_R (85), ab_R (86), ab_R (87), ab_R (88), ab_N])) ++ [ab_ai 0 7 (fun _ => 0), ab_ai 0 7 (fun _ => 0), ab_ai 0 7 (fun _ => 0), ab_ai 0 35 (fun _ => 0), ab_al 24 (fun _ => 0), ab_ai 0 24 (fun _ => 0), ab_ai 0 12 (fun _ => 0)])) rfl ?_
  refine ev_aload_n de_Ri_init_60 rfl rfl ?_
  refine ev_new (N := 5) (bc := 4) (bs := 40) de_Ri_init_61 nw_Ri_34 (Nat.le_of_ble_eq_true rfl) (ab_okW_r (by decide +kernel) rfl (ab_all2 (ab_okru (by decide) (ab_okru (by decide) ab_okr0)) ab_okr0)) (ab_okS_of rfl) (ab_okL_of rfl) (ab_okS_of rfl) ?_
  refine ev_top (b := ab_R 89) rfl ?_
  refine ev_world (w' := ((fw_32.set 81 (ab_ob 5 [ab_I (0), ab_I (0), ab_I (0), ab_I (0), ab_I (0), ab_I (0), ab_I (0), ab_I (0), ab_I (0), ab_I (0), ab_R (82), ab_R (83), ab_R (84), ab_R (85), ab_R (86), ab_R (87), ab_R (88), ab_N])) ++ [ab_ai 0 7 (fun _ => 0), ab_ai 0 7 (fun _ => 0), ab_ai 0 7 (fun _ => 0), ab_ai 0 35 (fun _ => 0), ab_al 24 (fun _ => 0), ab_ai 0 24 (fun _ => 0), ab_ai 0 12 (fun _ => 0), ab_ob 1 [ab_I (0), ab_N, ab_N, ab_N, ab_N]])) rfl ?_
  refine ev_dup de_Ri_init_64 rfl ?_
  refine ev_world (w' := fw_33) rfl ?_
  refine ev_xn (mc := 4) (ms := 40) (bc := 0) (bs := 0) de_Ri_init_65 fx_18 kb_Ri_36 ⟨im_Di_init, rfl, rfl⟩ rfl (Nat.le_of_ble_eq_true rfl) (by decide) (ab_okL_of rfl) (ab_okS_of rfl) ?_
  refine ev_putfield de_Ri_init_68 rfl fp_Ri_37 (Nat.le_of_ble_eq_true rfl) trivial ?_
  refine ev_world (w' := (fw_34.set 81 (ab_ob 5 [ab_I (0), ab_I (0), ab_I (0), ab_I (0), ab_I (0), ab_I (0), ab_I (0), ab_I (0), ab_I (0), ab_I (0), ab_R (82), ab_R (83), ab_R (84), ab_R (85), ab_R (86), ab_R (87), ab_R (88), ab_R (89)]))) rfl ?_
  exact ev_return de_Ri_init_71 rfl ⟨rfl, rfl⟩
def fw_36 : ab_W := [ab_ob 10 [ab_R (1), ab_R (3), ab_R (16), ab_R (29), ab_R (30), ab_R (31), ab_I (0), ab_R (32), ab_R (36), ab_R (38), ab_R (40), ab_R (45), ab_R (51)], ab_ob 8 [ab_R (2), ab_I (0), ab_I (0), ab_R (ab_sb + 0), ab_I (0), ab_I (0), ab_I (0), ab_I (0), ab_I (0)], ab_ai 1 400 (fun _ => 0), ab_ob 5 [ab_I (0), ab_I (0), ab_I (0), ab_I (0), ab_I (0), ab_I (0), ab_I (0), ab_I (0), ab_I (0), ab_I (0), ab_R (4), ab_R (5), ab_R (6), ab_R (7), ab_R (8), ab_R (9), ab_R (10), ab_R (11)], ab_ai 0 7 (fun _ => 0), ab_ai 0 7 (fun _ => 0), ab_ai 0 7 (fun _ => 0), ab_ai 0 35 (fun _ => 0), ab_al 24 (fun _ => 0), ab_ai 0 24 (fun _ => 0), ab_ai 0 12 (fun _ => 0), ab_ob 1 [ab_I (0), ab_R (12), ab_R (13), ab_R (14), ab_R (15)], ab_ai 0 10 (fun _ => 0), ab_ai 0 10 (fun _ => 0), ab_ai 0 10 (fun _ => 0), ab_ai 0 10 (fun _ => 0), ab_ob 5 [ab_I (0), ab_I (0), ab_I (0), ab_I (0), ab_I (0), ab_I (0), ab_I (0), ab_I (0), ab_I (0), ab_I (0), ab_R (17), ab_R (18), ab_R (19), ab_R (20), ab_R (21), ab_R (22), ab_R (23), ab_R (24)], ab_ai 0 7 (fun _ => 0), ab_ai 0 7 (fun _ => 0), ab_ai 0 7 (fun _ => 0), ab_ai 0 35 (fun _ => 0), ab_al 24 (fun _ => 0), ab_ai 0 24 (fun _ => 0), ab_ai 0 12 (fun _ => 0), ab_ob 1 [ab_I (0), ab_R (25), ab_R (26), ab_R (27), ab_R (28)], ab_ai 0 10 (fun _ => 0), ab_ai 0 10 (fun _ => 0), ab_ai 0 10 (fun _ => 0), ab_ai 0 10 (fun _ => 0), ab_ar 4 4 (ab_up (ab_up (ab_up (fun _ => none) 0 (some 55)) 1 (some 68)) 2 (some 81)), ab_ai 2 4 (fun _ => 0), ab_ar 5 6 (fun _ => none), ab_ob 0 [ab_R (33), ab_R (34), ab_R (35), ab_I (0), ab_I (0)], ab_ai 0 20 (fun _ => 0), ab_ai 0 20 (fun _ => 0), ab_ai 0 20 (fun _ => 0), ab_ob 7 [ab_R (37), ab_I (0), ab_I (0)], ab_ai 0 400 (fun _ => 0), ab_ob 3 [ab_R (39), ab_I (0)], ab_al 32 (fun _ => 0), ab_ob 4 [ab_R (41), ab_R (42), ab_I (0), ab_R (43), ab_R (44)], ab_ai 0 5 (fun _ => 0), ab_ai 0 5 (fun _ => 0), ab_ai 0 6 (fun _ => 0), ab_ai 0 42 (fun _ => 0), ab_ob 9 [ab_R (46), ab_R (47), ab_R (48), ab_R (49), ab_R (50)], ab_ai 0 7 (fun _ => 0), ab_ai 0 49 (fun _ => 0), ab_ai 0 7 (fun _ => 0), ab_ai 0 128 (fun _ => 0), ab_ai 0 128 (fun _ => 0), ab_ob 2 [ab_R (52), ab_R (53), ab_I (0), ab_R (54), ab_I (0), ab_I (0)], ab_ai 0 84 (fun _ => 0), ab_ai 0 84 (fun _ => 0), ab_ai 0 35 (fun _ => 0), ab_ob 5 [ab_I (0), ab_I (0), ab_I (0), ab_I (0), ab_I (0), ab_I (0), ab_I (0), ab_I (0), ab_I (0), ab_I (0), ab_R (56), ab_R (57), ab_R (58), ab_R (59), ab_R (60), ab_R (61), ab_R (62), ab_R (63)], ab_ai 0 7 (fun _ => 0), ab_ai 0 7 (fun _ => 0), ab_ai 0 7 (fun _ => 0), ab_ai 0 35 (fun _ => 0), ab_al 24 (fun _ => 0), ab_ai 0 24 (fun _ => 0), ab_ai 0 12 (fun _ => 0), ab_ob 1 [ab_I (0), ab_R (64), ab_R (65), ab_R (66), ab_R (67)], ab_ai 0 10 (fun _ => 0), ab_ai 0 10 (fun _ => 0), ab_ai 0 10 (fun _ => 0), ab_ai 0 10 (fun _ => 0), ab_ob 5 [ab_I (0), ab_I (0), ab_I (0), ab_I (0), ab_I (0), ab_I (0), ab_I (0), ab_I (0), ab_I (0), ab_I (0), ab_R (69), ab_R (70), ab_R (71), ab_R (72), ab_R (73), ab_R (74), ab_R (75), ab_R (76)], ab_ai 0 7 (fun _ => 0), ab_ai 0 7 (fun _ => 0), ab_ai 0 7 (fun _ => 0), ab_ai 0 35 (fun _ => 0), ab_al 24 (fun _ => 0), ab_ai 0 24 (fun _ => 0), ab_ai 0 12 (fun _ => 0), ab_ob 1 [ab_I (0), ab_R (77), ab_R (78), ab_R (79), ab_R (80)], ab_ai 0 10 (fun _ => 0), ab_ai 0 10 (fun _ => 0), ab_ai 0 10 (fun _ => 0), ab_ai 0 10 (fun _ => 0), ab_ob 5 [ab_I (0), ab_I (0), ab_I (0), ab_I (0), ab_I (0), ab_I (0), ab_I (0), ab_I (0), ab_I (0), ab_I (0), ab_R (82), ab_R (83), ab_R (84), ab_R (85), ab_R (86), ab_R (87), ab_R (88), ab_R (89)], ab_ai 0 7 (fun _ => 0), ab_ai 0 7 (fun _ => 0), ab_ai 0 7 (fun _ => 0), ab_ai 0 35 (fun _ => 0), ab_al 24 (fun _ => 0), ab_ai 0 24 (fun _ => 0), ab_ai 0 12 (fun _ => 0), ab_ob 1 [ab_I (0), ab_R (90), ab_R (91), ab_R (92), ab_R (93)], ab_ai 0 10 (fun _ => 0), ab_ai 0 10 (fun _ => 0), ab_ai 0 10 (fun _ => 0), ab_ai 0 10 (fun _ => 0), ab_ob 5 [ab_I (0), ab_I (0), ab_I (0), ab_I (0), ab_I (0), ab_I (0), ab_I (0), ab_I (0), ab_I (0), ab_I (0), ab_N, ab_N, ab_N, ab_N, ab_N, ab_N, ab_N, ab_N]]
def fw_37 : ab_W := [ab_ob 10 [ab_R (1), ab_R (3), ab_R (16), ab_R (29), ab_R (30), ab_R (31), ab_I (0), ab_R (32), ab_R (36), ab_R (38), ab_R (40), ab_R (45), ab_R (51)], ab_ob 8 [ab_R (2), ab_I (0), ab_I (0), ab_R (ab_sb + 0), ab_I (0), ab_I (0), ab_I (0), ab_I (0), ab_I (0)], ab_ai 1 400 (fun _ => 0), ab_ob 5 [ab_I (0), ab_I (0), ab_I (0), ab_I (0), ab_I (0), ab_I (0), ab_I (0), ab_I (0), ab_I (0), ab_I (0), ab_R (4), ab_R (5), ab_R (6), ab_R (7), ab_R (8), ab_R (9), ab_R (10), ab_R (11)], ab_ai 0 7 (fun _ => 0), ab_ai 0 7 (fun _ => 0), ab_ai 0 7 (fun _ => 0), ab_ai 0 35 (fun _ => 0), ab_al 24 (fun _ => 0), ab_ai 0 24 (fun _ => 0), ab_ai 0 12 (fun _ => 0), ab_ob 1 [ab_I (0), ab_R (12), ab_R (13), ab_R (14), ab_R (15)], ab_ai 0 10 (fun _ => 0), ab_ai 0 10 (fun _ => 0), ab_ai 0 10 (fun _ => 0), ab_ai 0 10 (fun _ => 0), ab_ob 5 [ab_I (0), ab_I (0), ab_I (0), ab_I (0), ab_I (0), ab_I (0), ab_I (0), ab_I (0), ab_I (0), ab_I (0), ab_R (17), ab_R (18), ab_R (19), ab_R (20), ab_R (21), ab_R (22), ab_R (23), ab_R (24)], ab_ai 0 7 (fun _ => 0), ab_ai 0 7 (fun _ => 0), ab_ai 0 7 (fun _ => 0), ab_ai 0 35 (fun _ => 0), ab_al 24 (fun _ => 0), ab_ai 0 24 (fun _ => 0), ab_ai 0 12 (fun _ => 0), ab_ob 1 [ab_I (0), ab_R (25), ab_R (26), ab_R (27), ab_R (28)], ab_ai 0 10 (fun _ => 0), ab_ai 0 10 (fun _ => 0), ab_ai 0 10 (fun _ => 0), ab_ai 0 10 (fun _ => 0), ab_ar 4 4 (ab_up (ab_up (ab_up (fun _ => none) 0 (some 55)) 1 (some 68)) 2 (some 81)), ab_ai 2 4 (fun _ => 0), ab_ar 5 6 (fun _ => none), ab_ob 0 [ab_R (33), ab_R (34), ab_R (35), ab_I (0), ab_I (0)], ab_ai 0 20 (fun _ => 0), ab_ai 0 20 (fun _ => 0), ab_ai 0 20 (fun _ => 0), ab_ob 7 [ab_R (37), ab_I (0), ab_I (0)], ab_ai 0 400 (fun _ => 0), ab_ob 3 [ab_R (39), ab_I (0)], ab_al 32 (fun _ => 0), ab_ob 4 [ab_R (41), ab_R (42), ab_I (0), ab_R (43), ab_R (44)], ab_ai 0 5 (fun _ => 0), ab_ai 0 5 (fun _ => 0), ab_ai 0 6 (fun _ => 0), ab_ai 0 42 (fun _ => 0), ab_ob 9 [ab_R (46), ab_R (47), ab_R (48), ab_R (49), ab_R (50)], ab_ai 0 7 (fun _ => 0), ab_ai 0 49 (fun _ => 0), ab_ai 0 7 (fun _ => 0), ab_ai 0 128 (fun _ => 0), ab_ai 0 128 (fun _ => 0), ab_ob 2 [ab_R (52), ab_R (53), ab_I (0), ab_R (54), ab_I (0), ab_I (0)], ab_ai 0 84 (fun _ => 0), ab_ai 0 84 (fun _ => 0), ab_ai 0 35 (fun _ => 0), ab_ob 5 [ab_I (0), ab_I (0), ab_I (0), ab_I (0), ab_I (0), ab_I (0), ab_I (0), ab_I (0), ab_I (0), ab_I (0), ab_R (56), ab_R (57), ab_R (58), ab_R (59), ab_R (60), ab_R (61), ab_R (62), ab_R (63)], ab_ai 0 7 (fun _ => 0), ab_ai 0 7 (fun _ => 0), ab_ai 0 7 (fun _ => 0), ab_ai 0 35 (fun _ => 0), ab_al 24 (fun _ => 0), ab_ai 0 24 (fun _ => 0), ab_ai 0 12 (fun _ => 0), ab_ob 1 [ab_I (0), ab_R (64), ab_R (65), ab_R (66), ab_R (67)], ab_ai 0 10 (fun _ => 0), ab_ai 0 10 (fun _ => 0), ab_ai 0 10 (fun _ => 0), ab_ai 0 10 (fun _ => 0), ab_ob 5 [ab_I (0), ab_I (0), ab_I (0), ab_I (0), ab_I (0), ab_I (0), ab_I (0), ab_I (0), ab_I (0), ab_I (0), ab_R (69), ab_R (70), ab_R (71), ab_R (72), ab_R (73), ab_R (74), ab_R (75), ab_R (76)], ab_ai 0 7 (fun _ => 0), ab_ai 0 7 (fun _ => 0), ab_ai 0 7 (fun _ => 0), ab_ai 0 35 (fun _ => 0), ab_al 24 (fun _ => 0), ab_ai 0 24 (fun _ => 0), ab_ai 0 12 (fun _ => 0), ab_ob 1 [ab_I (0), ab_R (77), ab_R (78), ab_R (79), ab_R (80)], ab_ai 0 10 (fun _ => 0), ab_ai 0 10 (fun _ => 0), ab_ai 0 10 (fun _ => 0), ab_ai 0 10 (fun _ => 0), ab_ob 5 [ab_I (0), ab_I (0), ab_I (0), ab_I (0), ab_I (0), ab_I (0), ab_I (0), ab_I (0), ab_I (0), ab_I (0), ab_R (82), ab_R (83), ab_R (84), ab_R (85), ab_R (86), ab_R (87), ab_R (88), ab_R (89)], ab_ai 0 7 (fun _ => 0), ab_ai 0 7 (fun _ => 0), ab_ai 0 7 (fun _ => 0), ab_ai 0 35 (fun _ => 0), ab_al 24 (fun _ => 0), ab_ai 0 24 (fun _ => 0), ab_ai 0 12 (fun _ => 0), ab_ob 1 [ab_I (0), ab_R (90), ab_R (91), ab_R (92), ab_R (93)], ab_ai 0 10 (fun _ => 0), ab_ai 0 10 (fun _ => 0), ab_ai 0 10 (fun _ => 0), ab_ai 0 10 (fun _ => 0), ab_ob 5 [ab_I (0), ab_I (0), ab_I (0), ab_I (0), ab_I (0), ab_I (0), ab_I (0), ab_I (0), ab_I (0), ab_I (0), ab_R (95), ab_R (96), ab_R (97), ab_R (98), ab_R (99), ab_R (100), ab_R (101), ab_N], ab_ai 0 7 (fun _ => 0), ab_ai 0 7 (fun _ => 0), ab_ai 0 7 (fun _ => 0), ab_ai 0 35 (fun _ => 0), ab_al 24 (fun _ => 0), ab_ai 0 24 (fun _ => 0), ab_ai 0 12 (fun _ => 0), ab_ob 1 [ab_I (0), ab_N, ab_N, ab_N, ab_N]]
def fw_38 : ab_W := [ab_ob 10 [ab_R (1), ab_R (3), ab_R (16), ab_R (29), ab_R (30), ab_R (31), ab_I (0), ab_R (32), ab_R (36), ab_R (38), ab_R (40), ab_R (45), ab_R (51)], ab_ob 8 [ab_R (2), ab_I (0), ab_I (0), ab_R (ab_sb + 0), ab_I (0), ab_I (0), ab_I (0), ab_I (0), ab_I (0)], ab_ai 1 400 (fun _ => 0), ab_ob 5 [ab_I (0), ab_I (0), ab_I (0), ab_I (0), ab_I (0), ab_I (0), ab_I (0), ab_I (0), ab_I (0), ab_I (0), ab_R (4), ab_R (5), ab_R (6), ab_R (7), ab_R (8), ab_R (9), ab_R (10), ab_R (11)], ab_ai 0 7 (fun _ => 0), ab_ai 0 7 (fun _ => 0), ab_ai 0 7 (fun _ => 0), ab_ai 0 35 (fun _ => 0), ab_al 24 (fun _ => 0), ab_ai 0 24 (fun _ => 0), ab_ai 0 12 (fun _ => 0), ab_ob 1 [ab_I (0), ab_R (12), ab_R (13), ab_R (14), ab_R (15)], ab_ai 0 10 (fun _ => 0), ab_ai 0 10 (fun _ => 0), ab_ai 0 10 (fun _ => 0), ab_ai 0 10 (fun _ => 0), ab_ob 5 [ab_I (0), ab_I (0), ab_I (0), ab_I (0), ab_I (0), ab_I (0), ab_I (0), ab_I (0), ab_I (0), ab_I (0), ab_R (17), ab_R (18), ab_R (19), ab_R (20), ab_R (21), ab_R (22), ab_R (23), ab_R (24)], ab_ai 0 7 (fun _ => 0), ab_ai 0 7 (fun _ => 0), ab_ai 0 7 (fun _ => 0), ab_ai 0 35 (fun _ => 0), ab_al 24 (fun _ => 0), ab_ai 0 24 (fun _ => 0), ab_ai 0 12 (fun _ => 0), ab_ob 1 [ab_I (0), ab_R (25), ab_R (26), ab_R (27), ab_R (28)], ab_ai 0 10 (fun _ => 0), ab_ai 0 10 (fun _ => 0), ab_ai 0 10 (fun _ => 0), ab_ai 0 10 (fun _ => 0), ab_ar 4 4 (ab_up (ab_up (ab_up (fun _ => none) 0 (some 55)) 1 (some 68)) 2 (some 81)), ab_ai 2 4 (fun _ => 0), ab_ar 5 6 (fun _ => none), ab_ob 0 [ab_R (33), ab_R (34), ab_R (35), ab_I (0), ab_I (0)], ab_ai 0 20 (fun _ => 0), ab_ai 0 20 (fun _ => 0), ab_ai 0 20 (fun _ => 0), ab_ob 7 [ab_R (37), ab_I (0), ab_I (0)], ab_ai 0 400 (fun _ => 0), ab_ob 3 [ab_R (39), ab_I (0)], ab_al 32 (fun _ => 0), ab_ob 4 [ab_R (41), ab_R (42), ab_I (0), ab_R (43), ab_R (44)], ab_ai 0 5 (fun _ => 0), ab_ai 0 5 (fun _ => 0), ab_ai 0 6 (fun _ => 0), ab_ai 0 42 (fun _ => 0), ab_ob 9 [ab_R (46), ab_R (47), ab_R (48), ab_R (49), ab_R (50)], ab_ai 0 7 (fun _ => 0), ab_ai 0 49 (fun _ => 0), ab_ai 0 7 (fun _ => 0), ab_ai 0 128 (fun _ => 0), ab_ai 0 128 (fun _ => 0), ab_ob 2 [ab_R (52), ab_R (53), ab_I (0), ab_R (54), ab_I (0), ab_I (0)], ab_ai 0 84 (fun _ => 0), ab_ai 0 84 (fun _ => 0), ab_ai 0 35 (fun _ => 0), ab_ob 5 [ab_I (0), ab_I (0), ab_I (0), ab_I (0), ab_I (0), ab_I (0), ab_I (0), ab_I (0), ab_I (0), ab_I (0), ab_R (56), ab_R (57), ab_R (58), ab_R (59), ab_R (60), ab_R (61), ab_R (62), ab_R (63)], ab_ai 0 7 (fun _ => 0), ab_ai 0 7 (fun _ => 0), ab_ai 0 7 (fun _ => 0), ab_ai 0 35 (fun _ => 0), ab_al 24 (fun _ => 0), ab_ai 0 24 (fun _ => 0), ab_ai 0 12 (fun _ => 0), ab_ob 1 [ab_I (0), ab_R (64), ab_R (65), ab_R (66), ab_R (67)], ab_ai 0 10 (fun _ => 0), ab_ai 0 10 (fun _ => 0), ab_ai 0 10 (fun _ => 0), ab_ai 0 10 (fun _ => 0), ab_ob 5 [ab_I (0), ab_I (0), ab_I (0), ab_I (0), ab_I (0), ab_I (0), ab_I (0), ab_I (0), ab_I (0), ab_I (0), ab_R (69), ab_R (70), ab_R (71), ab_R (72), ab_R (73), ab_R (74), ab_R (75), ab_R (76)], ab_ai 0 7 (fun _ => 0), ab_ai 0 7 (fun _ => 0), ab_ai 0 7 (fun _ => 0), ab_ai 0 35 (fun _ => 0), ab_al 24 (fun _ => 0), ab_ai 0 24 (fun _ => 0), ab_ai 0 12 (fun _ => 0), ab_ob 1 [ab_I (0), ab_R (77), ab_R (78), ab_R (79), ab_R (80)], ab_ai 0 10 (fun _ => 0), ab_ai 0 10 (fun _ => 0), ab_ai 0 10 (fun _ => 0), ab_ai 0 10 (fun _ => 0), ab_ob 5 [ab_I (0), ab_I (0), ab_I (0), ab_I (0), ab_I (0), ab_I (0), ab_I (0), ab_I (0), ab_I (0), ab_I (0), ab_R (82), ab_R (83), ab_R (84), ab_R (85), ab_R (86), ab_R (87), ab_R (88), ab_R (89)], ab_ai 0 7 (fun _ => 0), ab_ai 0 7 (fun _ => 0), ab_ai 0 7 (fun _ => 0), ab_ai 0 35 (fun _ => 0), ab_al 24 (fun _ => 0), ab_ai 0 24 (fun _ => 0), ab_ai 0 12 (fun _ => 0), ab_ob 1 [ab_I (0), ab_R (90), ab_R (91), ab_R (92), ab_R (93)], ab_ai 0 10 (fun _ => 0), ab_ai 0 10 (fun _ => 0), ab_ai 0 10 (fun _ => 0), ab_ai 0 10 (fun _ => 0), ab_ob 5 [ab_I (0), ab_I (0), ab_I (0), ab_I (0), ab_I (0), ab_I (0), ab_I (0), ab_I (0), ab_I (0), ab_I (0), ab_R (95), ab_R (96), ab_R (97), ab_R (98), ab_R (99), ab_R (100), ab_R (101), ab_N], ab_ai 0 7 (fun _ => 0), ab_ai 0 7 (fun _ => 0), ab_ai 0 7 (fun _ => 0), ab_ai 0 35 (fun _ => 0), ab_al 24 (fun _ => 0), ab_ai 0 24 (fun _ => 0), ab_ai 0 12 (fun _ => 0), ab_ob 1 [ab_I (0), ab_R (103), ab_R (104), ab_R (105), ab_R (106)], ab_ai 0 10 (fun _ => 0), ab_ai 0 10 (fun _ => 0), ab_ai 0 10 (fun _ => 0), ab_ai 0 10 (fun _ => 0)]
set_option maxHeartbeats 4000000 in
set_option maxRecDepth 20000 in
theorem fx_20  : ab_Mt g_G g_rs mt_Di_init 1 4 40 [ab_R (102)] fw_37 (ab_is none fw_38) := by
  refine ab_Mt.of rfl (Nat.le_of_ble_eq_true rfl) ?_
  show ab_Ev g_G g_rs mt_Di_init _ _ _ 0 [some (ab_R (102))] [] _ _
  refine ev_aload_n de_Di_init_0 rfl rfl ?_
  refine ev_objInit de_Di_init_1 oi_Di (Nat.le_of_ble_eq_true rfl) (by decide) ?_
  refine ev_aload_n de_Di_init_4 rfl rfl ?_
  refine ev_bipush de_Di_init_5 rfl ?_
  refine ev_newai (n := 10) (bc := 3) (bs := 30) de_Di_init_7 ac_int (by decide) (by decide) (Nat.le_of_ble_eq_true rfl) (ab_okW_r (by decide +kernel) rfl (ab_all2 (ab_okru (by decide) (ab_okru (by decide) (ab_okru (by decide) ab_okr0))) ab_okr0)) (ab_okL_of rfl) (ab_okS_of rfl) ?_
  refine ev_top (b := ab_R 103) rfl ?_
  refine ev_world (w' := (fw_37 ++ [ab_ai 0 10 (fun _ => 0)])) rfl ?_
  refine ev_putfield de_Di_init_9 rfl fp_Di_9 (Nat.le_of_ble_eq_true rfl) trivial ?_
  refine ev_world (w' := ((fw_37.set 102 (ab_ob 1 [ab_I (0), ab_R (103), ab_N, ab_N, ab_N])) ++ [ab_ai 0 10 (fun _ => 0)])) rfl ?_
  refine ev_aload_n de_Di_init_12 rfl rfl ?_
  refine ev_bipush de_Di_init_13 rfl ?_
  refine ev_newai (n := 10) (bc := 2) (bs := 20) de_Di_init_15 ac_int (by decide) (by decide) (Nat.le_of_ble_eq_true rfl) (ab_okW_r (by decide +kernel) rfl (ab_all2 (ab_okru (by decide) (ab_okru (by decide) (ab_okru (by decide) ab_okr0))) ab_okr0)) (ab_okL_of rfl) (ab_okS_of rfl) ?_
  refine ev_top (b := ab_R 104) rfl ?_
  refine ev_world (w' := ((fw_37.set 102 (ab_ob 1 [ab_I (0), ab_R (103), ab_N, ab_N, ab_N])) ++ [ab_ai 0 10 (fun _ => 0), ab_ai 0 10 (fun _ => 0)])) rfl ?_
  refine ev_putfield de_Di_init_17 rfl fp_Di_15 (Nat.le_of_ble_eq_true rfl) trivial ?_
  refine ev_world (w' := ((fw_37.set 102 (ab_ob 1 [ab_I (0), ab_R (103), ab_R (104), ab_N, ab_N])) ++ [ab_ai 0 10 (fun _ => 0), ab_ai 0 10 (fun _ => 0)])) rfl ?_
  refine ev_aload_n de_Di_init_20 rfl rfl ?_
  refine ev_bipush de_Di_init_21 rfl ?_
  refine ev_newai (n := 10) (bc := 1) (bs := 10) de_Di_init_23 ac_int (by decide) (by decide) (Nat.le_of_ble_eq_true rfl) (ab_okW_r (by decide +kernel) rfl (ab_all2 (ab_okru (by decide) (ab_okru (by decide) (ab_okru (by decide) ab_okr0))) ab_okr0)) (ab_okL_of rfl) (ab_okS_of rfl) ?_
  refine ev_top (b := ab_R 105) rfl ?_
  refine ev_world (w' := ((fw_37.set 102 (ab_ob 1 [ab_I (0), ab_R (103), ab_R (104), ab_N, ab_N])) ++ [ab_ai 0 10 (fun _ => 0), ab_ai 0 10 (fun _ => 0), ab_ai 0 10 (fun _ => 0)])) rfl ?_
  refine ev_putfield de_Di_init_25 rfl fp_Di_18 (Nat.le_of_ble_eq_true rfl) trivial ?_
  refine ev_world (w' := ((fw_37.set 102 (ab_ob 1 [ab_I (0), ab_R (103), ab_R (104), ab_R (105), ab_N])) ++ [ab_ai 0 10 (fun _ => 0), ab_ai 0 10 (fun _ => 0), ab_ai 0 10 (fun _ => 0)])) rfl ?_
  refine ev_aload_n de_Di_init_28 rfl rfl ?_
  refine ev_bipush de_Di_init_29 rfl ?_
  refine ev_newai (n := 10) (bc := 0) (bs := 0) de_Di_init_31 ac_int (by decide) (by decide) (Nat.le_of_ble_eq_true rfl) (ab_okW_r (by decide +kernel) rfl (ab_all2 (ab_okru (by decide) (ab_okru (by decide) (ab_okru (by decide) ab_okr0))) ab_okr0)) (ab_okL_of rfl) (ab_okS_of rfl) ?_
  refine ev_top (b := ab_R 106) rfl ?_
  refine ev_world (w' := ((fw_37.set 102 (ab_ob 1 [ab_I (0), ab_R (103), ab_R (104), ab_R (105), ab_N])) ++ [ab_ai 0 10 (fun _ => 0), ab_ai 0 10 (fun _ => 0), ab_ai 0 10 (fun _ => 0), ab_ai 0 10 (fun _ => 0)])) rfl ?_
  refine ev_putfield de_Di_init_33 rfl fp_Di_21 (Nat.le_of_ble_eq_true rfl) trivial ?_
  refine ev_world (w' := ((fw_37.set 102 (ab_ob 1 [ab_I (0), ab_R (103), ab_R (104), ab_R (105), ab_R (106)])) ++ [ab_ai 0 10 (fun _ => 0), ab_ai 0 10 (fun _ => 0), ab_ai 0 10 (fun _ => 0), ab_ai 0 10 (fun _ => 0)])) rfl ?_
  exact ev_return de_Di_init_36 rfl ⟨rfl, rfl⟩
def fw_39 : ab_W := [ab_ob 10 [ab_R (1), ab_R (3), ab_R (16), ab_R (29), ab_R (30), ab_R (31), ab_I (0), ab_R (32), ab_R (36), ab_R (38), ab_R (40), ab_R (45), ab_R (51)], ab_ob 8 [ab_R (2), ab_I (0), ab_I (0), ab_R (ab_sb + 0), ab_I (0), ab_I (0), ab_I (0), ab_I (0), ab_I (0)], ab_ai 1 400 (fun _ => 0), ab_ob 5 [ab_I (0), ab_I (0), ab_I (0), ab_I (0), ab_I (0), ab_I (0), ab_I (0), ab_I (0), ab_I (0), ab_I (0), ab_R (4), ab_R (5), ab_R (6), ab_R (7), ab_R (8), ab_R (9), ab_R (10), ab_R (11)], ab_ai 0 7 (fun _ => 0), ab_ai 0 7 (fun _ => 0), ab_ai 0 7 (fun _ => 0), ab_ai 0 35 (fun _ => 0), ab_al 24 (fun _ => 0), ab_ai 0 24 (fun _ => 0), ab_ai 0 12 (fun _ => 0), ab_ob 1 [ab_I (0), ab_R (12), ab_R (13), ab_R (14), ab_R (15)], ab_ai 0 10 (fun _ => 0), ab_ai 0 10 (fun _ => 0), ab_ai 0 10 (fun _ => 0), ab_ai 0 10 (fun _ => 0), ab_ob 5 [ab_I (0), ab_I (0), ab_I (0), ab_I (0), ab_I (0), ab_I (0), ab_I (0), ab_I (0), ab_I (0), ab_I (0), ab_R (17), ab_R (18), ab_R (19), ab_R (20), ab_R (21), ab_R (22), ab_R (23), ab_R (24)], ab_ai 0 7 (fun _ => 0), ab_ai 0 7 (fun _ => 0), ab_ai 0 7 (fun _ => 0), ab_ai 0 35 (fun _ => 0), ab_al 24 (fun _ => 0), ab_ai 0 24 (fun _ => 0), ab_ai 0 12 (fun _ => 0), ab_ob 1 [ab_I (0), ab_R (25), ab_R (26), ab_R (27), ab_R (28)], ab_ai 0 10 (fun _ => 0), ab_ai 0 10 (fun _ => 0), ab_ai 0 10 (fun _ => 0), ab_ai 0 10 (fun _ => 0), ab_ar 4 4 (ab_up (ab_up (ab_up (fun _ => none) 0 (some 55)) 1 (some 68)) 2 (some 81)), ab_ai 2 4 (fun _ => 0), ab_ar 5 6 (fun _ => none), ab_ob 0 [ab_R (33), ab_R (34), ab_R (35), ab_I (0), ab_I (0)], ab_ai 0 20 (fun _ => 0), ab_ai 0 20 (fun _ => 0), ab_ai 0 20 (fun _ => 0), ab_ob 7 [ab_R (37), ab_I (0), ab_I (0)], ab_ai 0 400 (fun _ => 0), ab_ob 3 [ab_R (39), ab_I (0)], ab_al 32 (fun _ => 0), ab_ob 4 [ab_R (41), ab_R (42), ab_I (0), ab_R (43), ab_R (44)], ab_ai 0 5 (fun _ => 0), ab_ai 0 5 (fun _ => 0), ab_ai 0 6 (fun _ => 0), ab_ai 0 42 (fun _ => 0), ab_ob 9 [ab_R (46), ab_R (47), ab_R (48), ab_R (49), ab_R (50)], ab_ai 0 7 (fun _ => 0), ab_ai 0 49 (fun _ => 0), ab_ai 0 7 (fun _ => 0), ab_ai 0 128 (fun _ => 0), ab_ai 0 128 (fun _ => 0), ab_ob 2 [ab_R (52), ab_R (53), ab_I (0), ab_R (54), ab_I (0), ab_I (0)], ab_ai 0 84 (fun _ => 0), ab_ai 0 84 (fun _ => 0), ab_ai 0 35 (fun _ => 0), ab_ob 5 [ab_I (0), ab_I (0), ab_I (0), ab_I (0), ab_I (0), ab_I (0), ab_I (0), ab_I (0), ab_I (0), ab_I (0), ab_R (56), ab_R (57), ab_R (58), ab_R (59), ab_R (60), ab_R (61), ab_R (62), ab_R (63)], ab_ai 0 7 (fun _ => 0), ab_ai 0 7 (fun _ => 0), ab_ai 0 7 (fun _ => 0), ab_ai 0 35 (fun _ => 0), ab_al 24 (fun _ => 0), ab_ai 0 24 (fun _ => 0), ab_ai 0 12 (fun _ => 0), ab_ob 1 [ab_I (0), ab_R (64), ab_R (65), ab_R (66), ab_R (67)], ab_ai 0 10 (fun _ => 0), ab_ai 0 10 (fun _ => 0), ab_ai 0 10 (fun _ => 0), ab_ai 0 10 (fun _ => 0), ab_ob 5 [ab_I (0), ab_I (0), ab_I (0), ab_I (0), ab_I (0), ab_I (0), ab_I (0), ab_I (0), ab_I (0), ab_I (0), ab_R (69), ab_R (70), ab_R (71), ab_R (72), ab_R (73), ab_R (74), ab_R (75), ab_R (76)], ab_ai 0 7 (fun _ => 0), ab_ai 0 7 (fun _ => 0), ab_ai 0 7 (fun _ => 0), ab_ai 0 35 (fun _ => 0), ab_al 24 (fun _ => 0), ab_ai 0 24 (fun _ => 0), ab_ai 0 12 (fun _ => 0), ab_ob 1 [ab_I (0), ab_R (77), ab_R (78), ab_R (79), ab_R (80)], ab_ai 0 10 (fun _ => 0), ab_ai 0 10 (fun _ => 0), ab_ai 0 10 (fun _ => 0), ab_ai 0 10 (fun _ => 0), ab_ob 5 [ab_I (0), ab_I (0), ab_I (0), ab_I (0), ab_I (0), ab_I (0), ab_I (0), ab_I (0), ab_I (0), ab_I (0), ab_R (82), ab_R (83), ab_R (84), ab_R (85), ab_R (86), ab_R (87), ab_R (88), ab_R (89)], ab_ai 0 7 (fun _ => 0), ab_ai 0 7 (fun _ => 0), ab_ai 0 7 (fun _ => 0), ab_ai 0 35 (fun _ => 0), ab_al 24 (fun _ => 0), ab_ai 0 24 (fun _ => 0), ab_ai 0 12 (fun _ => 0), ab_ob 1 [ab_I (0), ab_R (90), ab_R (91), ab_R (92), ab_R (93)], ab_ai 0 10 (fun _ => 0), ab_ai 0 10 (fun _ => 0), ab_ai 0 10 (fun _ => 0), ab_ai 0 10 (fun _ => 0), ab_ob 5 [ab_I (0), ab_I (0), ab_I (0), ab_I (0), ab_I (0), ab_I (0), ab_I (0), ab_I (0), ab_I (0), ab_I (0), ab_R (95), ab_R (96), ab_R (97), ab_R (98), ab_R (99), ab_R (100), ab_R (101), ab_R (102)], ab_ai 0 7 (fun _ => 0), ab_ai 0 7 (fun _ => 0), ab_ai 0 7 (fun _ => 0), ab_ai 0 35 (fun _ => 0), ab_al 24 (fun _ => 0), ab_ai 0 24 (fun _ => 0), ab_ai 0 12 (fun _ => 0), ab_ob 1 [ab_I (0), ab_R (103), ab_R (104), ab_R (105), ab_R (106)], ab_ai 0 10 (fun _ => 0), ab_ai 0 10 (fun _ => 0), ab_ai 0 10 (fun _ => 0), ab_ai 0 10 (fun _ => 0)]
set_option maxHeartbeats 4000000 in
set_option maxRecDepth 20000 in
theorem fx_19  : ab_Mt g_G g_rs mt_Ri_init 2 12 161 [ab_R (94)] fw_36 (ab_is none fw_39) := by
  refine ab_Mt.of rfl (Nat.le_of_ble_eq_true rfl) ?_
  show ab_Ev g_G g_rs mt_Ri_init _ _ _ 0 [some (ab_R (94))] [] _ _
  refine ev_aload_n de_Ri_init_0 rfl rfl ?_
  refine ev_objInit de_Ri_init_1 oi_Ri (Nat.le_of_ble_eq_true rfl) (by decide) ?_
  refine ev_aload_n de_Ri_init_4 rfl rfl ?_
  refine ev_bipush de_Ri_init_5 rfl ?_
  refine ev_newai (n := 7) (bc := 11) (bs := 154) de_Ri_init_7 ac_int (by decide) (by decide) (Nat.le_of_ble_eq_true rfl) (ab_okW_r (by decide +kernel) rfl (ab_all2 (ab_okru (by decide) (ab_okru (by decide) (ab_okru (by decide) ab_okr0))) ab_okr0)) (ab_okL_of rfl) (ab_okS_of rfl) ?_
  refine ev_top (b := ab_R 95) rfl ?_
  refine ev_world (w' := (fw_36 ++ [ab_ai 0 7 (fun _ => 0)])) rfl ?_
  refine ev_putfield de_Ri_init_9 rfl fp_Ri_9 (Nat.le_of_ble_eq_true rfl) trivial ?_
  refine ev_world (w' := ((fw_36.set 94 (ab_ob 5 [ab_I (0), ab_I (0), ab_I (0), ab_I (0), ab_I (0), ab_I (0), ab_I (0), ab_I (0), ab_I (0), ab_I (0), ab_R (95), ab_N, ab_N, ab_N, ab_N, ab_N, ab_N, ab_N])) ++ [ab_ai 0 7 (fun _ => 0)])) rfl ?_
  refine ev_aload_n de_Ri_init_12 rfl rfl ?_
  refine ev_bipush de_Ri_init_13 rfl ?_
  refine ev_newai (n := 7) (bc := 10) (bs := 147) de_Ri_init_15 ac_int (by decide) (by decide) (Nat.le_of_ble_eq_true rfl) (ab_okW_r (by decide +kernel) rfl (ab_all2 (ab_okru (by decide) (ab_okru (by decide) (ab_okru (by decide) ab_okr0))) ab_okr0)) (ab_okL_of rfl) (ab_okS_of rfl) ?_
  refine ev_top (b := ab_R 96) rfl ?_
  refine ev_world (w' := ((fw_36.set 94 (ab_ob 5 [ab_I (0), ab_I (0), ab_I (0), ab_I (0), ab_I (0), ab_I (0), ab_I (0), ab_I (0), ab_I (0), ab_I (0), ab_R (95), ab_N, ab_N, ab_N, ab_N, ab_N, ab_N, ab_N])) ++ [ab_ai 0 7 (fun _ => 0), ab_ai 0 7 (fun _ => 0)])) rfl ?_
  refine ev_putfield de_Ri_init_17 rfl fp_Ri_15 (Nat.le_of_ble_eq_true rfl) trivial ?_
  refine ev_world (w' := ((fw_36.set 94 (ab_ob 5 [ab_I (0), ab_I (0), ab_I (0), ab_I (0), ab_I (0), ab_I (0), ab_I (0), ab_I (0), ab_I (0), ab_I (0), ab_R (95), ab_R (96), ab_N, ab_N, ab_N, ab_N, ab_N, ab_N])) ++ [ab_ai 0 7 (fun _ => 0), ab_ai 0 7 (fun _ => 0)])) rfl ?_
  refine ev_aload_n de_Ri_init_20 rfl rfl ?_
  refine ev_bipush de_Ri_init_21 rfl ?_
  refine ev_newai (n := 7) (bc := 9) (bs := 140) de_Ri_init_23 ac_int (by decide) (by decide) (Nat.le_of_ble_eq_true rfl) (ab_okW_r (by decide +kernel) rfl (ab_all2 (ab_okru (by decide) (ab_okru (by decide) (ab_okru (by decide) ab_okr0))) ab_okr0)) (ab_okL_of rfl) (ab_okS_of rfl) ?_
  refine ev_top (b := ab_R 97) rfl ?_
  refine ev_world (w' := ((fw_36.set 94 (ab_ob 5 [ab_I (0), ab_I (0), ab_I (0), ab_I (0), ab_I (0), ab_I (0), ab_I (0), ab_I (0), ab_I (0), ab_I (0), ab_R (95), ab_R (96), ab_N, ab_N, ab_N, ab_N, ab_N, ab_N])) ++ [ab_ai 0 7 (fun _ => 0), ab_ai 0 7 (fun _ => 0), ab_ai 0 7 (fun _ => 0)])) rfl ?_
  refine ev_putfield de_Ri_init_25 rfl fp_Ri_18 (Nat.le_of_ble_eq_true rfl) trivial ?_
  refine ev_world (w' := ((fw_36.set 94 (ab_ob 5 [ab_I (0), ab_I (0), ab_I (0), ab_I (0), ab_I (0), ab_I (0), ab_I (0), ab_I (0), ab_I (0), ab_I (0), ab_R (95), ab_R (96), ab_R (97), ab_N, ab_N, ab_N, ab_N, ab_N])) ++ [ab_ai 0 7 (fun _ => 0), ab_ai 0 7 (fun _ => 0), ab_ai 0 7 (fun _ => 0)])) rfl ?_
  refine ev_aload_n de_Ri_init_28 rfl rfl ?_
  refine ev_bipush de_Ri_init_29 rfl ?_
  refine ev_newai (n := 35) (bc := 8) (bs := 105) de_Ri_init_31 ac_int (by decide) (by decide) (Nat.le_of_ble_eq_true rfl) (ab_okW_r (by decide +kernel) rfl (ab_all2 (ab_okru (by decide) (ab_okru (by decide) (ab_okru (by decide) ab_okr0))) ab_okr0)) (ab_okL_of rfl) (ab_okS_of rfl) ?_
  refine ev_top (b := ab_R 98) rfl ?_
  refine ev_world (w' := ((fw_36.set 94 (ab_ob 5 [ab_I (0), ab_I (0), ab_I (0), ab_I (0), ab_I (0), ab_I (0), ab_I (0), ab_I (0), ab_I (0), ab_I (0), ab_R (95), ab_R (96), ab_R (97), ab_N, ab_N, ab_N, ab_N, ab_N])) ++ [ab_ai 0 7 (fun _ => 0), ab_ai 0 7 (fun _ => 0), ab_ai 0 7 (fun _ => 0), ab_ai 0 35 (fun _ => 0)])) rfl ?_
  refine ev_putfield de_Ri_init_33 rfl fp_Ri_21 (Nat.le_of_ble_eq_true rfl) trivial ?_
  refine ev_world (w' := ((fw_36.set 94 (ab_ob 5 [ab_I (0), ab_I (0), ab_I (0), ab_I (0), ab_I (0), ab_I (0), ab_I (0), ab_I (0), ab_I (0), ab_I (0), ab_R (95), ab_R (96), ab_R (97), ab_R (98), ab_N, ab_N, ab_N, ab_N])) ++ [ab_ai 0 7 (fun _ => 0), ab_ai 0 7 (fun _ => 0), ab_ai 0 7 (fun _ => 0), ab_ai 0 35 (fun _ => 0)])) rfl ?_
  refine ev_aload_n de_Ri_init_36 rfl rfl ?_
  refine ev_bipush de_Ri_init_37 rfl ?_
  refine ev_newal (n := 24) (bc := 7) (bs := 81) de_Ri_init_39 ac_long (by decide) (by decide) (Nat.le_of_ble_eq_true rfl) (ab_okW_r (by decide +kernel) rfl (ab_all2 (ab_okru (by decide) (ab_okru (by decide) (ab_okru (by decide) ab_okr0))) ab_okr0)) (ab_okL_of rfl) (ab_okS_of rfl) ?_
  refine ev_top (b := ab_R 99) rfl ?_
  refine ev_world (w' := ((fw_36.set 94 (ab_ob 5 [ab_I (0), ab_I (0), ab_I (0), ab_I (0), ab_I (0), ab_I (0), ab_I (0), ab_I (0), ab_I (0), ab_I (0), ab_R (95), ab_R (96), ab_R (97), ab_R (98), ab_N, ab_N, ab_N, ab_N])) ++ [ab_ai 0 7 (fun _ => 0), ab_ai 0 7 (fun _ => 0), ab_ai 0 7 (fun _ => 0), ab_ai 0 35 (fun _ => 0), ab_al 24 (fun _ => 0)])) rfl ?_
  refine ev_putfield de_Ri_init_41 rfl fp_Ri_24 (Nat.le_of_ble_eq_true rfl) trivial ?_
  refine ev_world (w' := ((fw_36.set 94 (ab_ob 5 [ab_I (0), ab_I (0), ab_I (0), ab_I (0), ab_I (0), ab_I (0), ab_I (0), ab_I (0), ab_I (0), ab_I (0), ab_R (95), ab_R (96), ab_R (97), ab_R (98), ab_R (99), ab_N, ab_N, ab_N])) ++ [ab_ai 0 7 (fun _ => 0), ab_ai 0 7 (fun _ => 0), ab_ai 0 7 (fun _ => 0), ab_ai 0 35 (fun _ => 0), ab_al 24 (fun _ => 0)])) rfl ?_
  refine ev_aload_n de_Ri_init_44 rfl rfl ?_
  refine ev_bipush de_Ri_init_45 rfl ?_
  refine ev_newai (n := 24) (bc := 6) (bs := 57) de_Ri_init_47 ac_int (by decide) (by decide) (Nat.le_of_ble_eq_true rfl) (ab_okW_r (by decide +kernel) rfl (ab_all2 (ab_okru (by decide) (ab_okru (by decide) (ab_okru (by decide) ab_okr0))) ab_okr0)) (ab_okL_of rfl) (ab_okS_of rfl) ?_
  refine ev_top (b := ab_R 100) rfl ?_
  refine ev_world (w' := ((fw_36.set 94 (ab_ob 5 [ab_I (0), ab_I (0), ab_I (0), ab_I (0), ab_I (0), ab_I (0), ab_I (0), ab_I (0), ab_I (0), ab_I (0), ab_R (95), ab_R (96), ab_R (97), ab_R (98), ab_R (99), ab_N, ab_N, ab_N])) ++ [ab_ai 0 7 (fun _ => 0), ab_ai 0 7 (fun _ => 0), ab_ai 0 7 (fun _ => 0), ab_ai 0 35 (fun _ => 0), ab_al 24 (fun _ => 0), ab_ai 0 24 (fun _ => 0)])) rfl ?_
  refine ev_putfield de_Ri_init_49 rfl fp_Ri_28 (Nat.le_of_ble_eq_true rfl) trivial ?_
  refine ev_world (w' := ((fw_36.set 94 (ab_ob 5 [ab_I (0), ab_I (0), ab_I (0), ab_I (0), ab_I (0), ab_I (0), ab_I (0), ab_I (0), ab_I (0), ab_I (0), ab_R (95), ab_R (96), ab_R (97), ab_R (98), ab_R (99), ab_R (100), ab_N, ab_N])) ++ [ab_ai 0 7 (fun _ => 0), ab_ai 0 7 (fun _ => 0), ab_ai 0 7 (fun _ => 0), ab_ai 0 35 (fun _ => 0), ab_al 24 (fun _ => 0), ab_ai 0 24 (fun _ => 0)])) rfl ?_
  refine ev_aload_n de_Ri_init_52 rfl rfl ?_
  refine ev_bipush de_Ri_init_53 rfl ?_
  refine ev_newai (n := 12) (bc := 5) (bs := 45) de_Ri_init_55 ac_int (by decide) (by decide) (Nat.le_of_ble_eq_true rfl) (ab_okW_r (by decide +kernel) rfl (ab_all2 (ab_okru (by decide) (ab_okru (by decide) (ab_okru (by decide) ab_okr0))) ab_okr0)) (ab_okL_of rfl) (ab_okS_of rfl) ?_
  refine ev_top (b := ab_R 101) rfl ?_
  refine ev_world (w' := ((fw_36.set 94 (ab_ob 5 [ab_I (0), ab_I (0), ab_I (0), ab_I (0), ab_I (0), ab_I (0), ab_I (0), ab_I (0), ab_I (0), ab_I (0), ab_R (95), ab_R (96), ab_R (97), ab_R (98), ab_R (99), ab_R (100), ab_N, ab_N])) ++ [ab_ai 0 7 (fun _ => 0), ab_ai 0 7 (fun _ => 0), ab_ai 0 7 (fun _ => 0), ab_ai 0 35 (fun _ => 0), ab_al 24 (fun _ => 0), ab_ai 0 24 (fun _ => 0), ab_ai 0 12 (fun _ => 0)])) rfl ?_
  refine ev_putfield de_Ri_init_57 rfl fp_Ri_31 (Nat.le_of_ble_eq_true rfl) trivial ?_
  refine ev_world (w' := ((fw_36.set 94 (ab_ob 5 [ab_I (0), ab_I (0), ab_I (0), ab_I (0), ab_I (0), ab_I (0), ab_I (0), ab_I (0), ab_I (0), ab_I (0), ab_R (95), ab_R (96), ab_R (97), ab_R (98), ab_R (99), ab_R (100), ab_R (101), ab_N])) ++ [ab_ai 0 7 (fun _ => 0), ab_ai 0 7 (fun _ => 0), ab_ai 0 7 (fun _ => 0), ab_ai 0 35 (fun _ => 0), ab_al 24 (fun _ => 0), ab_ai 0 24 (fun _ => 0), ab_ai 0 12 (fun _ => 0)])) rfl ?_
  refine ev_aload_n de_Ri_init_60 rfl rfl ?_
  refine ev_new (N := 5) (bc := 4) (bs := 40) de_Ri_init_61 nw_Ri_34 (Nat.le_of_ble_eq_true rfl) (ab_okW_r (by decide +kernel) rfl (ab_all2 (ab_okru (by decide) (ab_okru (by decide) (ab_okru (by decide) ab_okr0))) ab_okr0)) (ab_okS_of rfl) (ab_okL_of rfl) (ab_okS_of rfl) ?_
  refine ev_top (b := ab_R 102) rfl ?_
  refine ev_world (w' := ((fw_36.set 94 (ab_ob 5 [ab_I (0), ab_I (0), ab_I (0), ab_I (0), ab_I (0), ab_I (0), ab_I (0), ab_I (0), ab_I (0), ab_I (0), ab_R (95), ab_R (96), ab_R (97), ab_R (98), ab_R (99), ab_R (100), ab_R (101), ab_N])) ++ [ab_ai 0 7 (fun _ => 0), ab_ai 0 7 (fun _ => 0), ab_ai 0 7 (fun _ => 0), ab_ai 0 35 (fun _ => 0), ab_al 24 (fun _ => 0), ab_ai 0 24 (fun _ => 0), ab_ai 0 12 (fun _ => 0), ab_ob 1 [ab_I (0), ab_N, ab_N, ab_N, ab_N]])) rfl ?_
  refine ev_dup de_Ri_init_64 rfl ?_
  refine ev_world (w' := fw_37) rfl ?_
  refine ev_xn (mc := 4) (ms := 40) (bc := 0) (bs := 0) de_Ri_init_65 fx_20 kb_Ri_36 ⟨im_Di_init, rfl, rfl⟩ rfl (Nat.le_of_ble_eq_true rfl) (by decide) (ab_okL_of rfl) (ab_okS_of rfl) ?_
  refine ev_putfield de_Ri_init_68 rfl fp_Ri_37 (Nat.le_of_ble_eq_true rfl) trivial ?_
  refine ev_world (w' := (fw_38.set 94 (ab_ob 5 [ab_I (0), ab_I (0), ab_I (0), ab_I (0), ab_I (0), ab_I (0), ab_I (0), ab_I (0), ab_I (0), ab_I (0), ab_R (95), ab_R (96), ab_R (97), ab_R (98), ab_R (99), ab_R (100), ab_R (101), ab_R (102)]))) rfl ?_
  exact ev_return de_Ri_init_71 rfl ⟨rfl, rfl⟩
def fw_40 : ab_W := [ab_ob 10 [ab_R (1), ab_R (3), ab_R (16), ab_R (29), ab_R (30), ab_R (31), ab_I (0), ab_R (32), ab_R (36), ab_R (38), ab_R (40), ab_R (45), ab_R (51)], ab_ob 8 [ab_R (2), ab_I (0), ab_I (0), ab_R (ab_sb + 0), ab_I (0), ab_I (0), ab_I (0), ab_I (0), ab_I (0)], ab_ai 1 400 (fun _ => 0), ab_ob 5 [ab_I (0), ab_I (0), ab_I (0), ab_I (0), ab_I (0), ab_I (0), ab_I (0), ab_I (0), ab_I (0), ab_I (0), ab_R (4), ab_R (5), ab_R (6), ab_R (7), ab_R (8), ab_R (9), ab_R (10), ab_R (11)], ab_ai 0 7 (fun _ => 0), ab_ai 0 7 (fun _ => 0), ab_ai 0 7 (fun _ => 0), ab_ai 0 35 (fun _ => 0), ab_al 24 (fun _ => 0), ab_ai 0 24 (fun _ => 0), ab_ai 0 12 (fun _ => 0), ab_ob 1 [ab_I (0), ab_R (12), ab_R (13), ab_R (14), ab_R (15)], ab_ai 0 10 (fun _ => 0), ab_ai 0 10 (fun _ => 0), ab_ai 0 10 (fun _ => 0), ab_ai 0 10 (fun _ => 0), ab_ob 5 [ab_I (0), ab_I (0), ab_I (0), ab_I (0), ab_I (0), ab_I (0), ab_I (0), ab_I (0), ab_I (0), ab_I (0), ab_R (17), ab_R (18), ab_R (19), ab_R (20), ab_R (21), ab_R (22), ab_R (23), ab_R (24)], ab_ai 0 7 (fun _ => 0), ab_ai 0 7 (fun _ => 0), ab_ai 0 7 (fun _ => 0), ab_ai 0 35 (fun _ => 0), ab_al 24 (fun _ => 0), ab_ai 0 24 (fun _ => 0), ab_ai 0 12 (fun _ => 0), ab_ob 1 [ab_I (0), ab_R (25), ab_R (26), ab_R (27), ab_R (28)], ab_ai 0 10 (fun _ => 0), ab_ai 0 10 (fun _ => 0), ab_ai 0 10 (fun _ => 0), ab_ai 0 10 (fun _ => 0), ab_ar 4 4 (ab_up (ab_up (ab_up (ab_up (fun _ => none) 0 (some 55)) 1 (some 68)) 2 (some 81)) 3 (some 94)), ab_ai 2 4 (fun _ => 0), ab_ar 5 6 (fun _ => none), ab_ob 0 [ab_R (33), ab_R (34), ab_R (35), ab_I (0), ab_I (0)], ab_ai 0 20 (fun _ => 0), ab_ai 0 20 (fun _ => 0), ab_ai 0 20 (fun _ => 0), ab_ob 7 [ab_R (37), ab_I (0), ab_I (0)], ab_ai 0 400 (fun _ => 0), ab_ob 3 [ab_R (39), ab_I (0)], ab_al 32 (fun _ => 0), ab_ob 4 [ab_R (41), ab_R (42), ab_I (0), ab_R (43), ab_R (44)], ab_ai 0 5 (fun _ => 0), ab_ai 0 5 (fun _ => 0), ab_ai 0 6 (fun _ => 0), ab_ai 0 42 (fun _ => 0), ab_ob 9 [ab_R (46), ab_R (47), ab_R (48), ab_R (49), ab_R (50)], ab_ai 0 7 (fun _ => 0), ab_ai 0 49 (fun _ => 0), ab_ai 0 7 (fun _ => 0), ab_ai 0 128 (fun _ => 0), ab_ai 0 128 (fun _ => 0), ab_ob 2 [ab_R (52), ab_R (53), ab_I (0), ab_R (54), ab_I (0), ab_I (0)], ab_ai 0 84 (fun _ => 0), ab_ai 0 84 (fun _ => 0), ab_ai 0 35 (fun _ => 0), ab_ob 5 [ab_I (0), ab_I (0), ab_I (0), ab_I (0), ab_I (0), ab_I (0), ab_I (0), ab_I (0), ab_I (0), ab_I (0), ab_R (56), ab_R (57), ab_R (58), ab_R (59), ab_R (60), ab_R (61), ab_R (62), ab_R (63)], ab_ai 0 7 (fun _ => 0), ab_ai 0 7 (fun _ => 0), ab_ai 0 7 (fun _ => 0), ab_ai 0 35 (fun _ => 0), ab_al 24 (fun _ => 0), ab_ai 0 24 (fun _ => 0), ab_ai 0 12 (fun _ => 0), ab_ob 1 [ab_I (0), ab_R (64), ab_R (65), ab_R (66), ab_R (67)], ab_ai 0 10 (fun _ => 0), ab_ai 0 10 (fun _ => 0), ab_ai 0 10 (fun _ => 0), ab_ai 0 10 (fun _ => 0), ab_ob 5 [ab_I (0), ab_I (0), ab_I (0), ab_I (0), ab_I (0), ab_I (0), ab_I (0), ab_I (0), ab_I (0), ab_I (0), ab_R (69), ab_R (70), ab_R (71), ab_R (72), ab_R (73), ab_R (74), ab_R (75), ab_R (76)], ab_ai 0 7 (fun _ => 0), ab_ai 0 7 (fun _ => 0), ab_ai 0 7 (fun _ => 0), ab_ai 0 35 (fun _ => 0), ab_al 24 (fun _ => 0), ab_ai 0 24 (fun _ => 0), ab_ai 0 12 (fun _ => 0), ab_ob 1 [ab_I (0), ab_R (77), ab_R (78), ab_R (79), ab_R (80)], ab_ai 0 10 (fun _ => 0), ab_ai 0 10 (fun _ => 0), ab_ai 0 10 (fun _ => 0), ab_ai 0 10 (fun _ => 0), ab_ob 5 [ab_I (0), ab_I (0), ab_I (0), ab_I (0), ab_I (0), ab_I (0), ab_I (0), ab_I (0), ab_I (0), ab_I (0), ab_R (82), ab_R (83), ab_R (84), ab_R (85), ab_R (86), ab_R (87), ab_R (88), ab_R (89)], ab_ai 0 7 (fun _ => 0), ab_ai 0 7 (fun _ => 0), ab_ai 0 7 (fun _ => 0), ab_ai 0 35 (fun _ => 0), ab_al 24 (fun _ => 0), ab_ai 0 24 (fun _ => 0), ab_ai 0 12 (fun _ => 0), ab_ob 1 [ab_I (0), ab_R (90), ab_R (91), ab_R (92), ab_R (93)], ab_ai 0 10 (fun _ => 0), ab_ai 0 10 (fun _ => 0), ab_ai 0 10 (fun _ => 0), ab_ai 0 10 (fun _ => 0), ab_ob 5 [ab_I (0), ab_I (0), ab_I (0), ab_I (0), ab_I (0), ab_I (0), ab_I (0), ab_I (0), ab_I (0), ab_I (0), ab_R (95), ab_R (96), ab_R (97), ab_R (98), ab_R (99), ab_R (100), ab_R (101), ab_R (102)], ab_ai 0 7 (fun _ => 0), ab_ai 0 7 (fun _ => 0), ab_ai 0 7 (fun _ => 0), ab_ai 0 35 (fun _ => 0), ab_al 24 (fun _ => 0), ab_ai 0 24 (fun _ => 0), ab_ai 0 12 (fun _ => 0), ab_ob 1 [ab_I (0), ab_R (103), ab_R (104), ab_R (105), ab_R (106)], ab_ai 0 10 (fun _ => 0), ab_ai 0 10 (fun _ => 0), ab_ai 0 10 (fun _ => 0), ab_ai 0 10 (fun _ => 0)]
theorem de_Tu_init_0 : decode prog_1_method_1_code 0 = .ok (.aload_n 0, 1) := by decide +kernel
theorem de_Tu_init_1 : decode prog_1_method_1_code 1 = .ok (.invokespecial 1, 3) := by decide +kernel
theorem de_Tu_init_4 : decode prog_1_method_1_code 4 = .ok (.aload_n 0, 1) := by decide +kernel
theorem de_Tu_init_5 : decode prog_1_method_1_code 5 = .ok (.new 7, 3) := by decide +kernel
theorem de_Tu_init_8 : decode prog_1_method_1_code 8 = .ok (.dup, 1) := by decide +kernel
theorem de_Tu_init_9 : decode prog_1_method_1_code 9 = .ok (.invokespecial 9, 3) := by decide +kernel
theorem de_Tu_init_12 : decode prog_1_method_1_code 12 = .ok (.putfield 10, 3) := by decide +kernel
theorem de_Tu_init_15 : decode prog_1_method_1_code 15 = .ok (.aload_n 0, 1) := by decide +kernel
theorem de_Tu_init_16 : decode prog_1_method_1_code 16 = .ok (.new 16, 3) := by decide +kernel
theorem de_Tu_init_19 : decode prog_1_method_1_code 19 = .ok (.dup, 1) := by decide +kernel
theorem de_Tu_init_20 : decode prog_1_method_1_code 20 = .ok (.invokespecial 18, 3) := by decide +kernel
theorem de_Tu_init_23 : decode prog_1_method_1_code 23 = .ok (.putfield 19, 3) := by decide +kernel
theorem de_Tu_init_26 : decode prog_1_method_1_code 26 = .ok (.aload_n 0, 1) := by decide +kernel
theorem de_Tu_init_27 : decode prog_1_method_1_code 27 = .ok (.new 16, 3) := by decide +kernel
theorem de_Tu_init_30 : decode prog_1_method_1_code 30 = .ok (.dup, 1) := by decide +kernel
theorem de_Tu_init_31 : decode prog_1_method_1_code 31 = .ok (.invokespecial 18, 3) := by decide +kernel
theorem de_Tu_init_34 : decode prog_1_method_1_code 34 = .ok (.putfield 23, 3) := by decide +kernel
theorem de_Tu_init_37 : decode prog_1_method_1_code 37 = .ok (.aload_n 0, 1) := by decide +kernel
theorem de_Tu_init_38 : decode prog_1_method_1_code 38 = .ok (.iconst 4, 1) := by decide +kernel
theorem de_Tu_init_39 : decode prog_1_method_1_code 39 = .ok (.anewarray 16, 3) := by decide +kernel
theorem de_Tu_init_42 : decode prog_1_method_1_code 42 = .ok (.putfield 26, 3) := by decide +kernel
theorem de_Tu_init_45 : decode prog_1_method_1_code 45 = .ok (.aload_n 0, 1) := by decide +kernel
theorem de_Tu_init_46 : decode prog_1_method_1_code 46 = .ok (.iconst 4, 1) := by decide +kernel
theorem de_Tu_init_47 : decode prog_1_method_1_code 47 = .ok (.newarray .boolean, 2) := by decide +kernel
theorem de_Tu_init_49 : decode prog_1_method_1_code 49 = .ok (.putfield 30, 3) := by decide +kernel
theorem de_Tu_init_52 : decode prog_1_method_1_code 52 = .ok (.aload_n 0, 1) := by decide +kernel
theorem de_Tu_init_53 : decode prog_1_method_1_code 53 = .ok (.bipush 6, 2) := by decide +kernel
theorem de_Tu_init_55 : decode prog_1_method_1_code 55 = .ok (.anewarray 34, 3) := by decide +kernel
theorem de_Tu_init_58 : decode prog_1_method_1_code 58 = .ok (.putfield 36, 3) := by decide +kernel
theorem de_Tu_init_61 : decode prog_1_method_1_code 61 = .ok (.aload_n 0, 1) := by decide +kernel
theorem de_Tu_init_62 : decode prog_1_method_1_code 62 = .ok (.new 40, 3) := by decide +kernel
theorem de_Tu_init_65 : decode prog_1_method_1_code 65 = .ok (.dup, 1) := by decide +kernel
theorem de_Tu_init_66 : decode prog_1_method_1_code 66 = .ok (.invokespecial 42, 3) := by decide +kernel
theorem de_Tu_init_69 : decode prog_1_method_1_code 69 = .ok (.putfield 43, 3) := by decide +kernel
theorem de_Tu_init_72 : decode prog_1_method_1_code 72 = .ok (.aload_n 0, 1) := by decide +kernel
theorem de_Tu_init_73 : decode prog_1_method_1_code 73 = .ok (.new 47, 3) := by decide +kernel
theorem de_Tu_init_76 : decode prog_1_method_1_code 76 = .ok (.dup, 1) := by decide +kernel
theorem de_Tu_init_77 : decode prog_1_method_1_code 77 = .ok (.invokespecial 49, 3) := by decide +kernel
theorem de_Tu_init_80 : decode prog_1_method_1_code 80 = .ok (.putfield 50, 3) := by decide +kernel
theorem de_Tu_init_83 : decode prog_1_method_1_code 83 = .ok (.aload_n 0, 1) := by decide +kernel
theorem de_Tu_init_84 : decode prog_1_method_1_code 84 = .ok (.new 54, 3) := by decide +kernel
theorem de_Tu_init_87 : decode prog_1_method_1_code 87 = .ok (.dup, 1) := by decide +kernel
theorem de_Tu_init_88 : decode prog_1_method_1_code 88 = .ok (.invokespecial 56, 3) := by decide +kernel
theorem de_Tu_init_91 : decode prog_1_method_1_code 91 = .ok (.putfield 57, 3) := by decide +kernel
theorem de_Tu_init_94 : decode prog_1_method_1_code 94 = .ok (.aload_n 0, 1) := by decide +kernel
theorem de_Tu_init_95 : decode prog_1_method_1_code 95 = .ok (.new 61, 3) := by decide +kernel
theorem de_Tu_init_98 : decode prog_1_method_1_code 98 = .ok (.dup, 1) := by decide +kernel
theorem de_Tu_init_99 : decode prog_1_method_1_code 99 = .ok (.invokespecial 63, 3) := by decide +kernel
theorem de_Tu_init_102 : decode prog_1_method_1_code 102 = .ok (.putfield 64, 3) := by decide +kernel
theorem de_Tu_init_105 : decode prog_1_method_1_code 105 = .ok (.aload_n 0, 1) := by decide +kernel
theorem de_Tu_init_106 : decode prog_1_method_1_code 106 = .ok (.new 68, 3) := by decide +kernel
theorem de_Tu_init_109 : decode prog_1_method_1_code 109 = .ok (.dup, 1) := by decide +kernel
theorem de_Tu_init_110 : decode prog_1_method_1_code 110 = .ok (.invokespecial 70, 3) := by decide +kernel
theorem de_Tu_init_113 : decode prog_1_method_1_code 113 = .ok (.putfield 71, 3) := by decide +kernel
theorem de_Tu_init_116 : decode prog_1_method_1_code 116 = .ok (.aload_n 0, 1) := by decide +kernel
theorem de_Tu_init_117 : decode prog_1_method_1_code 117 = .ok (.new 75, 3) := by decide +kernel
theorem de_Tu_init_120 : decode prog_1_method_1_code 120 = .ok (.dup, 1) := by decide +kernel
theorem de_Tu_init_121 : decode prog_1_method_1_code 121 = .ok (.invokespecial 77, 3) := by decide +kernel
theorem de_Tu_init_124 : decode prog_1_method_1_code 124 = .ok (.putfield 78, 3) := by decide +kernel
theorem de_Tu_init_127 : decode prog_1_method_1_code 127 = .ok (.iconst 0, 1) := by decide +kernel
theorem de_Tu_init_128 : decode prog_1_method_1_code 128 = .ok (.istore_n 1, 1) := by decide +kernel
theorem de_Tu_init_129 : decode prog_1_method_1_code 129 = .ok (.iload_n 1, 1) := by decide +kernel
theorem de_Tu_init_130 : decode prog_1_method_1_code 130 = .ok (.iconst 4, 1) := by decide +kernel
theorem de_Tu_init_131 : decode prog_1_method_1_code 131 = .ok (.if_icmp .ge 22, 3) := by decide +kernel
theorem de_Tu_init_134 : decode prog_1_method_1_code 134 = .ok (.aload_n 0, 1) := by decide +kernel
theorem de_Tu_init_135 : decode prog_1_method_1_code 135 = .ok (.getfield 26, 3) := by decide +kernel
theorem de_Tu_init_138 : decode prog_1_method_1_code 138 = .ok (.iload_n 1, 1) := by decide +kernel
theorem de_Tu_init_139 : decode prog_1_method_1_code 139 = .ok (.new 16, 3) := by decide +kernel
theorem de_Tu_init_142 : decode prog_1_method_1_code 142 = .ok (.dup, 1) := by decide +kernel
theorem de_Tu_init_143 : decode prog_1_method_1_code 143 = .ok (.invokespecial 18, 3) := by decide +kernel
theorem de_Tu_init_146 : decode prog_1_method_1_code 146 = .ok (.aastore, 1) := by decide +kernel
theorem de_Tu_init_147 : decode prog_1_method_1_code 147 = .ok (.iinc 1 1, 3) := by decide +kernel
theorem de_Tu_init_150 : decode prog_1_method_1_code 150 = .ok (.goto (-21), 3) := by decide +kernel
theorem de_Tu_init_153 : decode prog_1_method_1_code 153 = .ok (.return_, 1) := by decide +kernel
set_option maxHeartbeats 4000000 in
set_option maxRecDepth 20000 in
theorem co_Tu_init  : ab_Mt g_G g_rs mt_Tu_init 3 106 2595 [ab_R (0)] fw_a (ab_is none fw_40) := by
  refine ab_Mt.of rfl (Nat.le_of_ble_eq_true rfl) ?_
  show ab_Ev g_G g_rs mt_Tu_init _ _ _ 0 [some (ab_R (0)), none] [] _ _
  refine ev_aload_n de_Tu_init_0 rfl rfl ?_
  refine ev_objInit de_Tu_init_1 oi_Tu (Nat.le_of_ble_eq_true rfl) (by decide) ?_
  refine ev_aload_n de_Tu_init_4 rfl rfl ?_
  refine ev_new (N := 9) (bc := 105) (bs := 2586) de_Tu_init_5 nw_Tu_7 (Nat.le_of_ble_eq_true rfl) (ab_okW_of (by decide +kernel)) (ab_okS_of rfl) (ab_okL_of rfl) (ab_okS_of rfl) ?_
  refine ev_top (b := ab_R 1) rfl ?_
  refine ev_world (w' := (fw_a ++ [ab_ob 8 [ab_N, ab_I (0), ab_I (0), ab_N, ab_I (0), ab_I (0), ab_I (0), ab_I (0), ab_I (0)]])) rfl ?_
  refine ev_dup de_Tu_init_8 rfl ?_
  refine ev_world (w' := fw_2) rfl ?_
  refine ev_xn (mc := 1) (ms := 400) (bc := 104) (bs := 2186) de_Tu_init_9 fx_2 kb_Tu_9 ⟨im_Ta_init, rfl, rfl⟩ rfl (Nat.le_of_ble_eq_true rfl) (by decide) (ab_okL_of rfl) (ab_okS_of rfl) ?_
  refine ev_putfield de_Tu_init_12 rfl fp_Tu_10 (Nat.le_of_ble_eq_true rfl) trivial ?_
  refine ev_world (w' := (fw_3.set 0 (ab_ob 10 [ab_R (1), ab_N, ab_N, ab_N, ab_N, ab_N, ab_I (0), ab_N, ab_N, ab_N, ab_N, ab_N, ab_N]))) rfl ?_
  refine ev_aload_n de_Tu_init_15 rfl rfl ?_
  refine ev_new (N := 18) (bc := 103) (bs := 2168) de_Tu_init_16 nw_Tu_16 (Nat.le_of_ble_eq_true rfl) (ab_okW_of (by decide +kernel)) (ab_okS_of rfl) (ab_okL_of rfl) (ab_okS_of rfl) ?_
  refine ev_top (b := ab_R 3) rfl ?_
  refine ev_world (w' := ((fw_3.set 0 (ab_ob 10 [ab_R (1), ab_N, ab_N, ab_N, ab_N, ab_N, ab_I (0), ab_N, ab_N, ab_N, ab_N, ab_N, ab_N])) ++ [ab_ob 5 [ab_I (0), ab_I (0), ab_I (0), ab_I (0), ab_I (0), ab_I (0), ab_I (0), ab_I (0), ab_I (0), ab_I (0), ab_N, ab_N, ab_N, ab_N, ab_N, ab_N, ab_N, ab_N]])) rfl ?_
  refine ev_dup de_Tu_init_19 rfl ?_
  refine ev_world (w' := fw_4) rfl ?_
  refine ev_xn (mc := 12) (ms := 161) (bc := 91) (bs := 2007) de_Tu_init_20 fx_3 kb_Tu_18 ⟨im_Ri_init, rfl, rfl⟩ rfl (Nat.le_of_ble_eq_true rfl) (by decide) (ab_okL_of rfl) (ab_okS_of rfl) ?_
  refine ev_putfield de_Tu_init_23 rfl (fp_Tu_19 _) (Nat.le_of_ble_eq_true rfl) trivial ?_
  refine ev_world (w' := (fw_7.set 0 (ab_ob 10 [ab_R (1), ab_R (3), ab_N, ab_N, ab_N, ab_N, ab_I (0), ab_N, ab_N, ab_N, ab_N, ab_N, ab_N]))) rfl ?_
  refine ev_aload_n de_Tu_init_26 rfl rfl ?_
  refine ev_new (N := 18) (bc := 90) (bs := 1989) de_Tu_init_27 nw_Tu_16 (Nat.le_of_ble_eq_true rfl) (ab_okW_of (by decide +kernel)) (ab_okS_of rfl) (ab_okL_of rfl) (ab_okS_of rfl) ?_
  refine ev_top (b := ab_R 16) rfl ?_
  refine ev_world (w' := ((fw_7.set 0 (ab_ob 10 [ab_R (1), ab_R (3), ab_N, ab_N, ab_N, ab_N, ab_I (0), ab_N, ab_N, ab_N, ab_N, ab_N, ab_N])) ++ [ab_ob 5 [ab_I (0), ab_I (0), ab_I (0), ab_I (0), ab_I (0), ab_I (0), ab_I (0), ab_I (0), ab_I (0), ab_I (0), ab_N, ab_N, ab_N, ab_N, ab_N, ab_N, ab_N, ab_N]])) rfl ?_
  refine ev_dup de_Tu_init_30 rfl ?_
  refine ev_world (w' := fw_8) rfl ?_
  refine ev_xn (mc := 12) (ms := 161) (bc := 78) (bs := 1828) de_Tu_init_31 fx_5 kb_Tu_18 ⟨im_Ri_init, rfl, rfl⟩ rfl (Nat.le_of_ble_eq_true rfl) (by decide) (ab_okL_of rfl) (ab_okS_of rfl) ?_
  refine ev_putfield de_Tu_init_34 rfl (fp_Tu_23 _) (Nat.le_of_ble_eq_true rfl) trivial ?_
  refine ev_world (w' := (fw_11.set 0 (ab_ob 10 [ab_R (1), ab_R (3), ab_R (16), ab_N, ab_N, ab_N, ab_I (0), ab_N, ab_N, ab_N, ab_N, ab_N, ab_N]))) rfl ?_
  refine ev_aload_n de_Tu_init_37 rfl rfl ?_
  refine ev_iconst de_Tu_init_38 ?_
  refine ev_newar (n := 4) (t := 0) (bc := 77) (bs := 1824) de_Tu_init_39 cw_Tu_16 rfl (by decide) (by decide) (Nat.le_of_ble_eq_true rfl) (ab_okW_of (by decide +kernel)) (ab_okL_of rfl) (ab_okS_of rfl) ?_
  refine ev_top (b := ab_R 29) rfl ?_
  refine ev_world (w' := ((fw_11.set 0 (ab_ob 10 [ab_R (1), ab_R (3), ab_R (16), ab_N, ab_N, ab_N, ab_I (0), ab_N, ab_N, ab_N, ab_N, ab_N, ab_N])) ++ [ab_ar 4 4 (fun _ => none)])) rfl ?_
  refine ev_putfield de_Tu_init_42 rfl fp_Tu_26 (Nat.le_of_ble_eq_true rfl) trivial ?_
  refine ev_world (w' := ((fw_11.set 0 (ab_ob 10 [ab_R (1), ab_R (3), ab_R (16), ab_R (29), ab_N, ab_N, ab_I (0), ab_N, ab_N, ab_N, ab_N, ab_N, ab_N])) ++ [ab_ar 4 4 (fun _ => none)])) rfl ?_
  refine ev_aload_n de_Tu_init_45 rfl rfl ?_
  refine ev_iconst de_Tu_init_46 ?_
  refine ev_newaz (n := 4) (bc := 76) (bs := 1820) de_Tu_init_47 ac_boolean (by decide) (by decide) (Nat.le_of_ble_eq_true rfl) (ab_okW_r (by decide +kernel) rfl (ab_all1 ab_okr0)) (ab_okL_of rfl) (ab_okS_of rfl) ?_
  refine ev_top (b := ab_R 30) rfl ?_
  refine ev_world (w' := ((fw_11.set 0 (ab_ob 10 [ab_R (1), ab_R (3), ab_R (16), ab_R (29), ab_N, ab_N, ab_I (0), ab_N, ab_N, ab_N, ab_N, ab_N, ab_N])) ++ [ab_ar 4 4 (fun _ => none), ab_ai 2 4 (fun _ => 0)])) rfl ?_
  refine ev_putfield de_Tu_init_49 rfl fp_Tu_30 (Nat.le_of_ble_eq_true rfl) trivial ?_
  refine ev_world (w' := ((fw_11.set 0 (ab_ob 10 [ab_R (1), ab_R (3), ab_R (16), ab_R (29), ab_R (30), ab_N, ab_I (0), ab_N, ab_N, ab_N, ab_N, ab_N, ab_N])) ++ [ab_ar 4 4 (fun _ => none), ab_ai 2 4 (fun _ => 0)])) rfl ?_
  refine ev_aload_n de_Tu_init_52 rfl rfl ?_
  refine ev_bipush de_Tu_init_53 rfl ?_
  refine ev_newar (n := 6) (t := 1) (bc := 75) (bs := 1814) de_Tu_init_55 cw_Tu_34 rfl (by decide) (by decide) (Nat.le_of_ble_eq_true rfl) (ab_okW_r (by decide +kernel) rfl (ab_all1 ab_okr0)) (ab_okL_of rfl) (ab_okS_of rfl) ?_
  refine ev_top (b := ab_R 31) rfl ?_
  refine ev_world (w' := ((fw_11.set 0 (ab_ob 10 [ab_R (1), ab_R (3), ab_R (16), ab_R (29), ab_R (30), ab_N, ab_I (0), ab_N, ab_N, ab_N, ab_N, ab_N, ab_N])) ++ [ab_ar 4 4 (fun _ => none), ab_ai 2 4 (fun _ => 0), ab_ar 5 6 (fun _ => none)])) rfl ?_
  refine ev_putfield de_Tu_init_58 rfl fp_Tu_36 (Nat.le_of_ble_eq_true rfl) trivial ?_
  refine ev_world (w' := ((fw_11.set 0 (ab_ob 10 [ab_R (1), ab_R (3), ab_R (16), ab_R (29), ab_R (30), ab_R (31), ab_I (0), ab_N, ab_N, ab_N, ab_N, ab_N, ab_N])) ++ [ab_ar 4 4 (fun _ => none), ab_ai 2 4 (fun _ => 0), ab_ar 5 6 (fun _ => none)])) rfl ?_
  refine ev_aload_n de_Tu_init_61 rfl rfl ?_
  refine ev_new (N := 5) (bc := 74) (bs := 1809) de_Tu_init_62 nw_Tu_40 (Nat.le_of_ble_eq_true rfl) (ab_okW_r (by decide +kernel) rfl (ab_all2 ab_okr0 ab_okr0)) (ab_okS_of rfl) (ab_okL_of rfl) (ab_okS_of rfl) ?_
  refine ev_top (b := ab_R 32) rfl ?_
  refine ev_world (w' := ((fw_11.set 0 (ab_ob 10 [ab_R (1), ab_R (3), ab_R (16), ab_R (29), ab_R (30), ab_R (31), ab_I (0), ab_N, ab_N, ab_N, ab_N, ab_N, ab_N])) ++ [ab_ar 4 4 (fun _ => none), ab_ai 2 4 (fun _ => 0), ab_ar 5 6 (fun _ => none), ab_ob 0 [ab_N, ab_N, ab_N, ab_I (0), ab_I (0)]])) rfl ?_
  refine ev_dup de_Tu_init_65 rfl ?_
  refine ev_world (w' := fw_12) rfl ?_
  refine ev_xn (mc := 3) (ms := 60) (bc := 71) (bs := 1749) de_Tu_init_66 fx_7 kb_Tu_42 ⟨im_Ac_init, rfl, rfl⟩ rfl (Nat.le_of_ble_eq_true rfl) (by decide) (ab_okL_of rfl) (ab_okS_of rfl) ?_
  refine ev_putfield de_Tu_init_69 rfl fp_Tu_43 (Nat.le_of_ble_eq_true rfl) trivial ?_
  refine ev_world (w' := (fw_13.set 0 (ab_ob 10 [ab_R (1), ab_R (3), ab_R (16), ab_R (29), ab_R (30), ab_R (31), ab_I (0), ab_R (32), ab_N, ab_N, ab_N, ab_N, ab_N]))) rfl ?_
  refine ev_aload_n de_Tu_init_72 rfl rfl ?_
  refine ev_new (N := 3) (bc := 70) (bs := 1746) de_Tu_init_73 nw_Tu_47 (Nat.le_of_ble_eq_true rfl) (ab_okW_r (by decide +kernel) rfl (ab_all2 ab_okr0 ab_okr0)) (ab_okS_of rfl) (ab_okL_of rfl) (ab_okS_of rfl) ?_
  refine ev_top (b := ab_R 36) rfl ?_
  refine ev_world (w' := ((fw_13.set 0 (ab_ob 10 [ab_R (1), ab_R (3), ab_R (16), ab_R (29), ab_R (30), ab_R (31), ab_I (0), ab_R (32), ab_N, ab_N, ab_N, ab_N, ab_N])) ++ [ab_ob 7 [ab_N, ab_I (0), ab_I (0)]])) rfl ?_
  refine ev_dup de_Tu_init_76 rfl ?_
  refine ev_world (w' := fw_14) rfl ?_
  refine ev_xn (mc := 1) (ms := 400) (bc := 69) (bs := 1346) de_Tu_init_77 fx_8 kb_Tu_49 ⟨im_Ru_init, rfl, rfl⟩ rfl (Nat.le_of_ble_eq_true rfl) (by decide) (ab_okL_of rfl) (ab_okS_of rfl) ?_
  refine ev_putfield de_Tu_init_80 rfl fp_Tu_50 (Nat.le_of_ble_eq_true rfl) trivial ?_
  refine ev_world (w' := (fw_15.set 0 (ab_ob 10 [ab_R (1), ab_R (3), ab_R (16), ab_R (29), ab_R (30), ab_R (31), ab_I (0), ab_R (32), ab_R (36), ab_N, ab_N, ab_N, ab_N]))) rfl ?_
  refine ev_aload_n de_Tu_init_83 rfl rfl ?_
  refine ev_new (N := 2) (bc := 68) (bs := 1344) de_Tu_init_84 nw_Tu_54 (Nat.le_of_ble_eq_true rfl) (ab_okW_r (by decide +kernel) rfl (ab_all2 ab_okr0 ab_okr0)) (ab_okS_of rfl) (ab_okL_of rfl) (ab_okS_of rfl) ?_
  refine ev_top (b := ab_R 38) rfl ?_
  refine ev_world (w' := ((fw_15.set 0 (ab_ob 10 [ab_R (1), ab_R (3), ab_R (16), ab_R (29), ab_R (30), ab_R (31), ab_I (0), ab_R (32), ab_R (36), ab_N, ab_N, ab_N, ab_N])) ++ [ab_ob 3 [ab_N, ab_I (0)]])) rfl ?_
  refine ev_dup de_Tu_init_87 rfl ?_
  refine ev_world (w' := fw_16) rfl ?_
  refine ev_xn (mc := 1) (ms := 32) (bc := 67) (bs := 1312) de_Tu_init_88 fx_9 kb_Tu_56 ⟨im_Ma_init, rfl, rfl⟩ rfl (Nat.le_of_ble_eq_true rfl) (by decide) (ab_okL_of rfl) (ab_okS_of rfl) ?_
  refine ev_putfield de_Tu_init_91 rfl fp_Tu_57 (Nat.le_of_ble_eq_true rfl) trivial ?_
  refine ev_world (w' := (fw_17.set 0 (ab_ob 10 [ab_R (1), ab_R (3), ab_R (16), ab_R (29), ab_R (30), ab_R (31), ab_I (0), ab_R (32), ab_R (36), ab_R (38), ab_N, ab_N, ab_N]))) rfl ?_
  refine ev_aload_n de_Tu_init_94 rfl rfl ?_
  refine ev_new (N := 5) (bc := 66) (bs := 1307) de_Tu_init_95 nw_Tu_61 (Nat.le_of_ble_eq_true rfl) (ab_okW_r (by decide +kernel) rfl (ab_all2 ab_okr0 ab_okr0)) (ab_okS_of rfl) (ab_okL_of rfl) (ab_okS_of rfl) ?_
  refine ev_top (b := ab_R 40) rfl ?_
  refine ev_world (w' := ((fw_17.set 0 (ab_ob 10 [ab_R (1), ab_R (3), ab_R (16), ab_R (29), ab_R (30), ab_R (31), ab_I (0), ab_R (32), ab_R (36), ab_R (38), ab_N, ab_N, ab_N])) ++ [ab_ob 4 [ab_N, ab_N, ab_I (0), ab_N, ab_N]])) rfl ?_
  refine ev_dup de_Tu_init_98 rfl ?_
  refine ev_world (w' := fw_18) rfl ?_
  refine ev_xn (mc := 4) (ms := 58) (bc := 62) (bs := 1249) de_Tu_init_99 fx_10 kb_Tu_63 ⟨im_Pl_init, rfl, rfl⟩ rfl (Nat.le_of_ble_eq_true rfl) (by decide) (ab_okL_of rfl) (ab_okS_of rfl) ?_
  refine ev_putfield de_Tu_init_102 rfl fp_Tu_64 (Nat.le_of_ble_eq_true rfl) trivial ?_
  refine ev_world (w' := (fw_19.set 0 (ab_ob 10 [ab_R (1), ab_R (3), ab_R (16), ab_R (29), ab_R (30), ab_R (31), ab_I (0), ab_R (32), ab_R (36), ab_R (38), ab_R (40), ab_N, ab_N]))) rfl ?_
  refine ev_aload_n de_Tu_init_105 rfl rfl ?_
  refine ev_new (N := 5) (bc := 61) (bs := 1244) de_Tu_init_106 nw_Tu_68 (Nat.le_of_ble_eq_true rfl) (ab_okW_r (by decide +kernel) rfl (ab_all2 ab_okr0 ab_okr0)) (ab_okS_of rfl) (ab_okL_of rfl) (ab_okS_of rfl) ?_
  refine ev_top (b := ab_R 45) rfl ?_
  refine ev_world (w' := ((fw_19.set 0 (ab_ob 10 [ab_R (1), ab_R (3), ab_R (16), ab_R (29), ab_R (30), ab_R (31), ab_I (0), ab_R (32), ab_R (36), ab_R (38), ab_R (40), ab_N, ab_N])) ++ [ab_ob 9 [ab_N, ab_N, ab_N, ab_N, ab_N]])) rfl ?_
  refine ev_dup de_Tu_init_109 rfl ?_
  refine ev_world (w' := fw_20) rfl ?_
  refine ev_xn (mc := 5) (ms := 319) (bc := 56) (bs := 925) de_Tu_init_110 fx_11 kb_Tu_70 ⟨im_Tr_init, rfl, rfl⟩ rfl (Nat.le_of_ble_eq_true rfl) (by decide) (ab_okL_of rfl) (ab_okS_of rfl) ?_
  refine ev_putfield de_Tu_init_113 rfl fp_Tu_71 (Nat.le_of_ble_eq_true rfl) trivial ?_
  refine ev_world (w' := (fw_21.set 0 (ab_ob 10 [ab_R (1), ab_R (3), ab_R (16), ab_R (29), ab_R (30), ab_R (31), ab_I (0), ab_R (32), ab_R (36), ab_R (38), ab_R (40), ab_R (45), ab_N]))) rfl ?_
  refine ev_aload_n de_Tu_init_116 rfl rfl ?_
  refine ev_new (N := 6) (bc := 55) (bs := 919) de_Tu_init_117 nw_Tu_75 (Nat.le_of_ble_eq_true rfl) (ab_okW_r (by decide +kernel) rfl (ab_all2 ab_okr0 ab_okr0)) (ab_okS_of rfl) (ab_okL_of rfl) (ab_okS_of rfl) ?_
  refine ev_top (b := ab_R 51) rfl ?_
  refine ev_world (w' := ((fw_21.set 0 (ab_ob 10 [ab_R (1), ab_R (3), ab_R (16), ab_R (29), ab_R (30), ab_R (31), ab_I (0), ab_R (32), ab_R (36), ab_R (38), ab_R (40), ab_R (45), ab_N])) ++ [ab_ob 2 [ab_N, ab_N, ab_I (0), ab_N, ab_I (0), ab_I (0)]])) rfl ?_
  refine ev_dup de_Tu_init_120 rfl ?_
  refine ev_world (w' := fw_22) rfl ?_
  refine ev_xn (mc := 3) (ms := 203) (bc := 52) (bs := 716) de_Tu_init_121 fx_12 kb_Tu_77 ⟨im_Gu_init, rfl, rfl⟩ rfl (Nat.le_of_ble_eq_true rfl) (by decide) (ab_okL_of rfl) (ab_okS_of rfl) ?_
  refine ev_putfield de_Tu_init_124 rfl fp_Tu_78 (Nat.le_of_ble_eq_true rfl) trivial ?_
  refine ev_world (w' := (fw_23.set 0 (ab_ob 10 [ab_R (1), ab_R (3), ab_R (16), ab_R (29), ab_R (30), ab_R (31), ab_I (0), ab_R (32), ab_R (36), ab_R (38), ab_R (40), ab_R (45), ab_R (51)]))) rfl ?_
  refine ev_iconst de_Tu_init_127 ?_
  refine ev_istore_n (l' := [_, _]) de_Tu_init_128 rfl (Nat.le_of_ble_eq_true rfl) rfl ?_
  refine ev_iload_n de_Tu_init_129 rfl rfl ?_
  refine ev_iconst de_Tu_init_130 ?_
  refine ev_icmp_ge (tgt := 153) de_Tu_init_131 (by decide) (by decide) (by decide) (fun h => absurd h (by decide)) (fun _ => ?_)
  refine ev_aload_n de_Tu_init_134 rfl rfl ?_
  refine ev_getfield de_Tu_init_135 rfl fl_Tu_26 rfl ?_
  refine ev_iload_n de_Tu_init_138 rfl rfl ?_
  refine ev_new (N := 18) (bc := 51) (bs := 698) de_Tu_init_139 nw_Tu_16 (Nat.le_of_ble_eq_true rfl) (ab_okW_r (by decide +kernel) rfl (ab_all2 ab_okr0 ab_okr0)) (ab_okS_of rfl) (ab_okL_of rfl) (ab_okS_of rfl) ?_
  refine ev_top (b := ab_R 55) rfl ?_
  refine ev_world (w' := ((fw_23.set 0 (ab_ob 10 [ab_R (1), ab_R (3), ab_R (16), ab_R (29), ab_R (30), ab_R (31), ab_I (0), ab_R (32), ab_R (36), ab_R (38), ab_R (40), ab_R (45), ab_R (51)])) ++ [ab_ob 5 [ab_I (0), ab_I (0), ab_I (0), ab_I (0), ab_I (0), ab_I (0), ab_I (0), ab_I (0), ab_I (0), ab_I (0), ab_N, ab_N, ab_N, ab_N, ab_N, ab_N, ab_N, ab_N]])) rfl ?_
  refine ev_dup de_Tu_init_142 rfl ?_
  refine ev_world (w' := fw_24) rfl ?_
  refine ev_xn (mc := 12) (ms := 161) (bc := 39) (bs := 537) de_Tu_init_143 fx_13 kb_Tu_18 ⟨im_Ri_init, rfl, rfl⟩ rfl (Nat.le_of_ble_eq_true rfl) (by decide) (ab_okL_of rfl) (ab_okS_of rfl) ?_
  refine ev_aastore (t := 0) de_Tu_init_146 rfl rfl rfl rfl (by decide) (by decide) (by decide) ?_
  refine ev_world (w' := (fw_27.set 29 (ab_ar 4 4 (ab_up (fun _ => none) 0 (some 55))))) rfl ?_
  refine ev_iinc (l' := [_, _]) de_Tu_init_147 rfl rfl ?_
  refine ev_loc (l2 := [some (ab_R (0)), some (ab_I (1))]) rfl ?_
  refine ev_goto (tgt := 129) de_Tu_init_150 (by decide) ?_
  refine ev_iload_n de_Tu_init_129 rfl rfl ?_
  refine ev_iconst de_Tu_init_130 ?_
  refine ev_icmp_ge (tgt := 153) de_Tu_init_131 (by decide) (by decide) (by decide) (fun h => absurd h (by decide)) (fun _ => ?_)
  refine ev_aload_n de_Tu_init_134 rfl rfl ?_
  refine ev_getfield de_Tu_init_135 rfl fl_Tu_26 rfl ?_
  refine ev_iload_n de_Tu_init_138 rfl rfl ?_
  refine ev_new (N := 18) (bc := 38) (bs := 519) de_Tu_init_139 nw_Tu_16 (Nat.le_of_ble_eq_true rfl) (ab_okW_r (by decide +kernel) rfl (ab_all2 (ab_okru (by decide) ab_okr0) ab_okr0)) (ab_okS_of rfl) (ab_okL_of rfl) (ab_okS_of rfl) ?_
  refine ev_top (b := ab_R 68) rfl ?_
  refine ev_world (w' := ((fw_27.set 29 (ab_ar 4 4 (ab_up (fun _ => none) 0 (some 55)))) ++ [ab_ob 5 [ab_I (0), ab_I (0), ab_I (0), ab_I (0), ab_I (0), ab_I (0), ab_I (0), ab_I (0), ab_I (0), ab_I (0), ab_N, ab_N, ab_N, ab_N, ab_N, ab_N, ab_N, ab_N]])) rfl ?_
  refine ev_dup de_Tu_init_142 rfl ?_
  refine ev_world (w' := fw_28) rfl ?_
  refine ev_xn (mc := 12) (ms := 161) (bc := 26) (bs := 358) de_Tu_init_143 fx_15 kb_Tu_18 ⟨im_Ri_init, rfl, rfl⟩ rfl (Nat.le_of_ble_eq_true rfl) (by decide) (ab_okL_of rfl) (ab_okS_of rfl) ?_
  refine ev_aastore (t := 0) de_Tu_init_146 rfl rfl rfl rfl (by decide) (by decide) (by decide) ?_
  refine ev_world (w' := (fw_31.set 29 (ab_ar 4 4 (ab_up (ab_up (fun _ => none) 0 (some 55)) 1 (some 68))))) rfl ?_
  refine ev_iinc (l' := [_, _]) de_Tu_init_147 rfl rfl ?_
  refine ev_loc (l2 := [some (ab_R (0)), some (ab_I (2))]) rfl ?_
  refine ev_goto (tgt := 129) de_Tu_init_150 (by decide) ?_
  refine ev_iload_n de_Tu_init_129 rfl rfl ?_
  refine ev_iconst de_Tu_init_130 ?_
  refine ev_icmp_ge (tgt := 153) de_Tu_init_131 (by decide) (by decide) (by decide) (fun h => absurd h (by decide)) (fun _ => ?_)
  refine ev_aload_n de_Tu_init_134 rfl rfl ?_
  refine ev_getfield de_Tu_init_135 rfl fl_Tu_26 rfl ?_
  refine ev_iload_n de_Tu_init_138 rfl rfl ?_
  refine ev_new (N := 18) (bc := 25) (bs := 340) de_Tu_init_139 nw_Tu_16 (Nat.le_of_ble_eq_true rfl) (ab_okW_r (by decide +kernel) rfl (ab_all2 (ab_okru (by decide) (ab_okru (by decide) ab_okr0)) ab_okr0)) (ab_okS_of rfl) (ab_okL_of rfl) (ab_okS_of rfl) ?_
  refine ev_top (b := ab_R 81) rfl ?_
  refine ev_world (w' := ((fw_31.set 29 (ab_ar 4 4 (ab_up (ab_up (fun _ => none) 0 (some 55)) 1 (some 68)))) ++ [ab_ob 5 [ab_I (0), ab_I (0), ab_I (0), ab_I (0), ab_I (0), ab_I (0), ab_I (0), ab_I (0), ab_I (0), ab_I (0), ab_N, ab_N, ab_N, ab_N, ab_N, ab_N, ab_N, ab_N]])) rfl ?_
  refine ev_dup de_Tu_init_142 rfl ?_
  refine ev_world (w' := fw_32) rfl ?_
  refine ev_xn (mc := 12) (ms := 161) (bc := 13) (bs := 179) de_Tu_init_143 fx_17 kb_Tu_18 ⟨im_Ri_init, rfl, rfl⟩ rfl (Nat.le_of_ble_eq_true rfl) (by decide) (ab_okL_of rfl) (ab_okS_of rfl) ?_
  refine ev_aastore (t := 0) de_Tu_init_146 rfl rfl rfl rfl (by decide) (by decide) (by decide) ?_
  refine ev_world (w' := (fw_35.set 29 (ab_ar 4 4 (ab_up (ab_up (ab_up (fun _ => none) 0 (some 55)) 1 (some 68)) 2 (some 81))))) rfl ?_
  refine ev_iinc (l' := [_, _]) de_Tu_init_147 rfl rfl ?_
  refine ev_loc (l2 := [some (ab_R (0)), some (ab_I (3))]) rfl ?_
  refine ev_goto (tgt := 129) de_Tu_init_150 (by decide) ?_
  refine ev_iload_n de_Tu_init_129 rfl rfl ?_
  refine ev_iconst de_Tu_init_130 ?_
  refine ev_icmp_ge (tgt := 153) de_Tu_init_131 (by decide) (by decide) (by decide) (fun h => absurd h (by decide)) (fun _ => ?_)
  refine ev_aload_n de_Tu_init_134 rfl rfl ?_
  refine ev_getfield de_Tu_init_135 rfl fl_Tu_26 rfl ?_
  refine ev_iload_n de_Tu_init_138 rfl rfl ?_
  refine ev_new (N := 18) (bc := 12) (bs := 161) de_Tu_init_139 nw_Tu_16 (Nat.le_of_ble_eq_true rfl) (ab_okW_r (by decide +kernel) rfl (ab_all2 (ab_okru (by decide) (ab_okru (by decide) (ab_okru (by decide) ab_okr0))) ab_okr0)) (ab_okS_of rfl) (ab_okL_of rfl) (ab_okS_of rfl) ?_
  refine ev_top (b := ab_R 94) rfl ?_
  refine ev_world (w' := ((fw_35.set 29 (ab_ar 4 4 (ab_up (ab_up (ab_up (fun _ => none) 0 (some 55)) 1 (some 68)) 2 (some 81)))) ++ [ab_ob 5 [ab_I (0), ab_I (0), ab_I (0), ab_I (0), ab_I (0), ab_I (0), ab_I (0), ab_I (0), ab_I (0), ab_I (0), ab_N, ab_N, ab_N, ab_N, ab_N, ab_N, ab_N, ab_N]])) rfl ?_
  refine ev_dup de_Tu_init_142 rfl ?_
  refine ev_world (w' := fw_36) rfl ?_
  refine ev_xn (mc := 12) (ms := 161) (bc := 0) (bs := 0) de_Tu_init_143 fx_19 kb_Tu_18 ⟨im_Ri_init, rfl, rfl⟩ rfl (Nat.le_of_ble_eq_true rfl) (by decide) (ab_okL_of rfl) (ab_okS_of rfl) ?_
  refine ev_aastore (t := 0) de_Tu_init_146 rfl rfl rfl rfl (by decide) (by decide) (by decide) ?_
  refine ev_world (w' := (fw_39.set 29 (ab_ar 4 4 (ab_up (ab_up (ab_up (ab_up (fun _ => none) 0 (some 55)) 1 (some 68)) 2 (some 81)) 3 (some 94))))) rfl ?_
  refine ev_iinc (l' := [_, _]) de_Tu_init_147 rfl rfl ?_
  refine ev_loc (l2 := [some (ab_R (0)), some (ab_I (4))]) rfl ?_
  refine ev_goto (tgt := 129) de_Tu_init_150 (by decide) ?_
  refine ev_iload_n de_Tu_init_129 rfl rfl ?_
  refine ev_iconst de_Tu_init_130 ?_
  refine ev_icmp_ge (tgt := 153) de_Tu_init_131 (by decide) (by decide) (by decide) (fun _ => ?_) (fun h => absurd h (by decide))
  exact ev_return de_Tu_init_153 rfl ⟨rfl, rfl⟩
