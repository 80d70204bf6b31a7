def fw_0 : ab_W := [ab_ob 10 [ab_R (1), ab_R (3), ab_R (16), ab_R (29), ab_R (30), ab_R (31), ab_I (0), ab_R (32), ab_R (36), ab_R (38), ab_R (40), ab_R (45), ab_R (51)], ab_ob 8 [ab_R (2), ab_I (0), ab_I (0), ab_R (ab_sb + 0), ab_I (0), ab_I (0), ab_I (0), ab_I (0), ab_I (0)], ab_ai 1 400 (fun _ => 0), ab_ob 5 [ab_I (0), ab_I (0), ab_I (0), ab_I (0), ab_I (0), ab_I (0), ab_I (0), ab_I (0), ab_I (0), ab_I (0), ab_R (4), ab_R (5), ab_R (6), ab_R (7), ab_R (8), ab_R (9), ab_R (10), ab_R (11)], ab_ai 0 7 (fun _ => 0), ab_ai 0 7 (fun _ => 0), ab_ai 0 7 (fun _ => 0), ab_ai 0 35 (fun _ => 0), ab_al 24 (fun _ => 0), ab_ai 0 24 (fun _ => 0), ab_ai 0 12 (fun _ => 0), ab_ob 1 [ab_I (0), ab_R (12), ab_R (13), ab_R (14), ab_R (15)], ab_ai 0 10 (fun _ => 0), ab_ai 0 10 (fun _ => 0), ab_ai 0 10 (fun _ => 0), ab_ai 0 10 (fun _ => 0), ab_ob 5 [ab_I (0), ab_I (0), ab_I (0), ab_I (0), ab_I (0), ab_I (0), ab_I (0), ab_I (0), ab_I (0), ab_I (0), ab_R (17), ab_R (18), ab_R (19), ab_R (20), ab_R (21), ab_R (22), ab_R (23), ab_R (24)], ab_ai 0 7 (fun _ => 0), ab_ai 0 7 (fun _ => 0), ab_ai 0 7 (fun _ => 0), ab_ai 0 35 (fun _ => 0), ab_al 24 (fun _ => 0), ab_ai 0 24 (fun _ => 0), ab_ai 0 12 (fun _ => 0), ab_ob 1 [ab_I (0), ab_R (25), ab_R (26), ab_R (27), ab_R (28)], ab_ai 0 10 (fun _ => 0), ab_ai 0 10 (fun _ => 0), ab_ai 0 10 (fun _ => 0), ab_ai 0 10 (fun _ => 0), ab_ar 4 4 (ab_up (ab_up (ab_up (ab_up (fun _ => none) 0 (some 55)) 1 (some 68)) 2 (some 81)) 3 (some 94)), ab_ai 2 4 (fun _ => 0), ab_ar 5 6 (fun _ => none), ab_ob 0 [ab_R (33), ab_R (34), ab_R (35), ab_I (0), ab_I (0)], ab_ai 0 20 (fun _ => 0), ab_ai 0 20 (fun _ => 0), ab_ai 0 20 (fun _ => 0), ab_ob 7 [ab_R (37), ab_I (0), ab_I (0)], ab_ai 0 400 (fun _ => 0), ab_ob 3 [ab_R (39), ab_I (0)], ab_al 32 (fun _ => 0), ab_ob 4 [ab_R (41), ab_R (42), ab_I (0), ab_R (43), ab_R (44)], ab_ai 0 5 (fun _ => 0), ab_ai 0 5 (fun _ => 0), ab_ai 0 6 (fun _ => 0), ab_ai 0 42 (fun _ => 0), ab_ob 9 [ab_R (46), ab_R (47), ab_R (48), ab_R (49), ab_R (50)], ab_ai 0 7 (fun _ => 0), ab_ai 0 49 (fun _ => 0), ab_ai 0 7 (fun _ => 0), ab_ai 0 128 (fun _ => 0), ab_ai 0 128 (fun _ => 0), ab_ob 2 [ab_R (52), ab_R (53), ab_I (0), ab_R (54), ab_I (0), ab_I (0)], ab_ai 0 84 (fun _ => 0), ab_ai 0 84 (fun _ => 0), ab_ai 0 35 (fun _ => 0), ab_ob 5 [ab_I (0), ab_I (0), ab_I (0), ab_I (0), ab_I (0), ab_I (0), ab_I (0), ab_I (0), ab_I (0), ab_I (0), ab_R (56), ab_R (57), ab_R (58), ab_R (59), ab_R (60), ab_R (61), ab_R (62), ab_R (63)], ab_ai 0 7 (fun _ => 0), ab_ai 0 7 (fun _ => 0), ab_ai 0 7 (fun _ => 0), ab_ai 0 35 (fun _ => 0), ab_al 24 (fun _ => 0), ab_ai 0 24 (fun _ => 0), ab_ai 0 12 (fun _ => 0), ab_ob 1 [ab_I (0), ab_R (64), ab_R (65), ab_R (66), ab_R (67)], ab_ai 0 10 (fun _ => 0), ab_ai 0 10 (fun _ => 0), ab_ai 0 10 (fun _ => 0), ab_ai 0 10 (fun _ => 0), ab_ob 5 [ab_I (0), ab_I (0), ab_I (0), ab_I (0), ab_I (0), ab_I (0), ab_I (0), ab_I (0), ab_I (0), ab_I (0), ab_R (69), ab_R (70), ab_R (71), ab_R (72), ab_R (73), ab_R (74), ab_R (75), ab_R (76)], ab_ai 0 7 (fun _ => 0), ab_ai 0 7 (fun _ => 0), ab_ai 0 7 (fun _ => 0), ab_ai 0 35 (fun _ => 0), ab_al 24 (fun _ => 0), ab_ai 0 24 (fun _ => 0), ab_ai 0 12 (fun _ => 0), ab_ob 1 [ab_I (0), ab_R (77), ab_R (78), ab_R (79), ab_R (80)], ab_ai 0 10 (fun _ => 0), ab_ai 0 10 (fun _ => 0), ab_ai 0 10 (fun _ => 0), ab_ai 0 10 (fun _ => 0), ab_ob 5 [ab_I (0), ab_I (0), ab_I (0), ab_I (0), ab_I (0), ab_I (0), ab_I (0), ab_I (0), ab_I (0), ab_I (0), ab_R (82), ab_R (83), ab_R (84), ab_R (85), ab_R (86), ab_R (87), ab_R (88), ab_R (89)], ab_ai 0 7 (fun _ => 0), ab_ai 0 7 (fun _ => 0), ab_ai 0 7 (fun _ => 0), ab_ai 0 35 (fun _ => 0), ab_al 24 (fun _ => 0), ab_ai 0 24 (fun _ => 0), ab_ai 0 12 (fun _ => 0), ab_ob 1 [ab_I (0), ab_R (90), ab_R (91), ab_R (92), ab_R (93)], ab_ai 0 10 (fun _ => 0), ab_ai 0 10 (fun _ => 0), ab_ai 0 10 (fun _ => 0), ab_ai 0 10 (fun _ => 0), ab_ob 5 [ab_I (0), ab_I (0), ab_I (0), ab_I (0), ab_I (0), ab_I (0), ab_I (0), ab_I (0), ab_I (0), ab_I (0), ab_R (95), ab_R (96), ab_R (97), ab_R (98), ab_R (99), ab_R (100), ab_R (101), ab_R (102)], ab_ai 0 7 (fun _ => 0), ab_ai 0 7 (fun _ => 0), ab_ai 0 7 (fun _ => 0), ab_ai 0 35 (fun _ => 0), ab_al 24 (fun _ => 0), ab_ai 0 24 (fun _ => 0), ab_ai 0 12 (fun _ => 0), ab_ob 1 [ab_I (0), ab_R (103), ab_R (104), ab_R (105), ab_R (106)], ab_ai 0 10 (fun _ => 0), ab_ai 0 10 (fun _ => 0), ab_ai 0 10 (fun _ => 0), ab_ai 0 10 (fun _ => 0), ab_ob 11 [ab_R (108), ab_I (0), ab_I (0), ab_R (109), ab_R (110), ab_R (111), ab_R (112), ab_R (113), ab_I (0), ab_I (0), ab_I (0), ab_I (0), ab_I (0), ab_I (0), ab_I (0), ab_R (114), ab_I (0), ab_R (115), ab_I (0), ab_R (116), ab_R (117), ab_I (0), ab_R (118), ab_I (0), ab_R (119), ab_R (120), ab_R (121), ab_R (122), ab_R (123), ab_R (124), ab_R (125), ab_I (0), ab_I (0), ab_J (0), ab_R (126), ab_R (127), ab_R (128)], ab_ai 1 400 (fun _ => 0), ab_ai 0 2400 (fun _ => 0), ab_ai 0 7 (fun _ => 0), ab_ai 0 288 (fun _ => 0), ab_ai 0 6 (fun _ => 0), ab_ai 0 150 (fun _ => 0), ab_ai 0 400 (fun _ => 0), ab_al 64 (fun _ => 0), ab_al 12 (fun _ => 0), ab_ai 0 191 (fun _ => 0), ab_ai 0 1060 (fun _ => 0), ab_ai 0 53 (fun _ => 0), ab_ai 0 7 (fun _ => 0), ab_ai 0 97 (fun _ => 0), ab_ai 0 7 (fun _ => 0), ab_ai 0 49 (fun _ => 0), ab_ai 0 7 (fun _ => 0), ab_ai 0 7 (fun _ => 0), ab_ai 0 764 (fun _ => 0), ab_ai 0 4 (fun _ => 0), ab_ai 2 4 (fun _ => 0)]
theorem de_Mo_in_0 : decode prog_14_method_2_code 0 = .ok (.lload_n 0, 1) := by decide +kernel
theorem de_Mo_in_1 : decode prog_14_method_2_code 1 = .ok (.lload_n 2, 1) := by decide +kernel
theorem de_Mo_in_2 : decode prog_14_method_2_code 2 = .ok (.lcmp, 1) := by decide +kernel
theorem de_Mo_in_3 : decode prog_14_method_2_code 3 = .ok (.ifCond .lt 14, 3) := by decide +kernel
theorem de_Mo_in_6 : decode prog_14_method_2_code 6 = .ok (.lload_n 0, 1) := by decide +kernel
theorem de_Mo_in_7 : decode prog_14_method_2_code 7 = .ok (.lload 4, 2) := by decide +kernel
theorem de_Mo_in_9 : decode prog_14_method_2_code 9 = .ok (.lcmp, 1) := by decide +kernel
theorem de_Mo_in_10 : decode prog_14_method_2_code 10 = .ok (.ifCond .gt 7, 3) := by decide +kernel
theorem de_Mo_in_13 : decode prog_14_method_2_code 13 = .ok (.iconst 1, 1) := by decide +kernel
theorem de_Mo_in_14 : decode prog_14_method_2_code 14 = .ok (.goto 4, 3) := by decide +kernel
theorem de_Mo_in_17 : decode prog_14_method_2_code 17 = .ok (.iconst 0, 1) := by decide +kernel
theorem de_Mo_in_18 : decode prog_14_method_2_code 18 = .ok (.ireturn, 1) := by decide +kernel
set_option maxRecDepth 10000 in
theorem co_Mo_in (w : ab_W) (v a b : Int) (hv : ab_in v) (ha : ab_in a) (hb : ab_in b) : ab_Mt g_G g_rs mt_Mo_in 0 0 0 [ab_J (Int64.ofInt v), ab_J (Int64.ofInt a), ab_J (Int64.ofInt b)] w (ab_is (some (ab_I (if a ≤ v ∧ v ≤ b then 1 else 0))) w) := by
  refine ab_Mt.of rfl (Nat.le_of_ble_eq_true rfl) ?_
  show ab_Ev g_G g_rs mt_Mo_in _ _ _ 0 [some (ab_J (Int64.ofInt v)), none, some (ab_J (Int64.ofInt a)), none, some (ab_J (Int64.ofInt b)), none] [] _ _
  refine ev_lload_n de_Mo_in_0 rfl rfl ?_
  refine ev_lload_n de_Mo_in_1 rfl rfl ?_
  refine ev_lcmp de_Mo_in_2 ?_
  have q := ab_cmpI hv ha
  refine ev_if_lt (tgt := 17) de_Mo_in_3 (by decide) (by omega) (fun h3 => ?_) (fun h3 => ?_)
  · skip
    refine ev_iconst de_Mo_in_17 ?_
    exact ev_zreturn de_Mo_in_18 rfl (by omega) ⟨by first | rw [if_pos (by omega)] | rw [if_neg (by omega)], rfl⟩
  · skip
    refine ev_lload_n de_Mo_in_6 rfl rfl ?_
    refine ev_lload de_Mo_in_7 rfl ?_
    refine ev_lcmp de_Mo_in_9 ?_
    have q2 := ab_cmpI hv hb
    refine ev_if_gt (tgt := 17) de_Mo_in_10 (by decide) (by omega) (fun h10 => ?_) (fun h10 => ?_)
    · skip
      refine ev_iconst de_Mo_in_17 ?_
      exact ev_zreturn de_Mo_in_18 rfl (by omega) ⟨by first | rw [if_pos (by omega)] | rw [if_neg (by omega)], rfl⟩
    · skip
      refine ev_iconst de_Mo_in_13 ?_
      refine ev_goto (tgt := 18) de_Mo_in_14 (by decide) ?_
      exact ev_zreturn de_Mo_in_18 rfl (by omega) ⟨by first | rw [if_pos (by omega)] | rw [if_neg (by omega)], rfl⟩
theorem de_Tu_end_0 : decode prog_1_method_3_code 0 = .ok (.iload_n 1, 1) := by decide +kernel
theorem de_Tu_end_1 : decode prog_1_method_3_code 1 = .ok (.ifCond .lt 14, 3) := by decide +kernel
theorem de_Tu_end_4 : decode prog_1_method_3_code 4 = .ok (.iload_n 1, 1) := by decide +kernel
theorem de_Tu_end_5 : decode prog_1_method_3_code 5 = .ok (.aload_n 0, 1) := by decide +kernel
theorem de_Tu_end_6 : decode prog_1_method_3_code 6 = .ok (.getfield 10, 3) := by decide +kernel
theorem de_Tu_end_9 : decode prog_1_method_3_code 9 = .ok (.getfield 82, 3) := by decide +kernel
theorem de_Tu_end_12 : decode prog_1_method_3_code 12 = .ok (.if_icmp .le 5, 3) := by decide +kernel
theorem de_Tu_end_17 : decode prog_1_method_3_code 17 = .ok (.aload_n 0, 1) := by decide +kernel
theorem de_Tu_end_18 : decode prog_1_method_3_code 18 = .ok (.getfield 10, 3) := by decide +kernel
theorem de_Tu_end_21 : decode prog_1_method_3_code 21 = .ok (.iload_n 1, 1) := by decide +kernel
theorem de_Tu_end_22 : decode prog_1_method_3_code 22 = .ok (.putfield 82, 3) := by decide +kernel
theorem de_Tu_end_25 : decode prog_1_method_3_code 25 = .ok (.iload_n 1, 1) := by decide +kernel
theorem de_Tu_end_26 : decode prog_1_method_3_code 26 = .ok (.ireturn, 1) := by decide +kernel
set_option maxHeartbeats 4000000 in
set_option maxRecDepth 20000 in
theorem xx_end_0  : ab_Mt g_G g_rs mt_Tu_end 1 0 0 [ab_R (0), ab_I (0)] fw_0 (ab_is (some (ab_I (0))) fw_0) := by
  refine ab_Mt.of rfl (Nat.le_of_ble_eq_true rfl) ?_
  show ab_Ev g_G g_rs mt_Tu_end _ _ _ 0 [some (ab_R (0)), some (ab_I (0))] [] _ _
  refine ev_iload_n de_Tu_end_0 rfl rfl ?_
  refine ev_if_lt (tgt := 15) de_Tu_end_1 (by decide) (by decide) (fun h => absurd h (by decide)) (fun _ => ?_)
  refine ev_iload_n de_Tu_end_4 rfl rfl ?_
  refine ev_aload_n de_Tu_end_5 rfl rfl ?_
  refine ev_getfield de_Tu_end_6 rfl fl_Tu_10 rfl ?_
  refine ev_getfield de_Tu_end_9 rfl fl_Tu_82 rfl ?_
  refine ev_icmp_le (tgt := 17) de_Tu_end_12 (by decide) (by decide) (by decide) (fun _ => ?_) (fun h => absurd h (by decide))
  refine ev_aload_n de_Tu_end_17 rfl rfl ?_
  refine ev_getfield de_Tu_end_18 rfl fl_Tu_10 rfl ?_
  refine ev_iload_n de_Tu_end_21 rfl rfl ?_
  refine ev_putfield de_Tu_end_22 rfl (fp_Tu_82 _) (Nat.le_of_ble_eq_true rfl) trivial ?_
  refine ev_world (w' := fw_0) rfl ?_
  refine ev_iload_n de_Tu_end_25 rfl rfl ?_
  exact ev_ireturn de_Tu_end_26 rfl ⟨rfl, rfl⟩
theorem de_Mo_end_0 : decode prog_14_method_7_code 0 = .ok (.iload_n 1, 1) := by decide +kernel
theorem de_Mo_end_1 : decode prog_14_method_7_code 1 = .ok (.ifCond .lt 11, 3) := by decide +kernel
theorem de_Mo_end_4 : decode prog_14_method_7_code 4 = .ok (.iload_n 1, 1) := by decide +kernel
theorem de_Mo_end_5 : decode prog_14_method_7_code 5 = .ok (.aload_n 0, 1) := by decide +kernel
theorem de_Mo_end_6 : decode prog_14_method_7_code 6 = .ok (.getfield 76, 3) := by decide +kernel
theorem de_Mo_end_9 : decode prog_14_method_7_code 9 = .ok (.if_icmp .le 5, 3) := by decide +kernel
theorem de_Mo_end_14 : decode prog_14_method_7_code 14 = .ok (.aload_n 0, 1) := by decide +kernel
theorem de_Mo_end_15 : decode prog_14_method_7_code 15 = .ok (.iload_n 1, 1) := by decide +kernel
theorem de_Mo_end_16 : decode prog_14_method_7_code 16 = .ok (.putfield 76, 3) := by decide +kernel
theorem de_Mo_end_19 : decode prog_14_method_7_code 19 = .ok (.iload_n 1, 1) := by decide +kernel
theorem de_Mo_end_20 : decode prog_14_method_7_code 20 = .ok (.ireturn, 1) := by decide +kernel
set_option maxHeartbeats 4000000 in
set_option maxRecDepth 20000 in
theorem yy_end_0  : ab_Mt g_G g_rs mt_Mo_end 1 0 0 [ab_R (107), ab_I (0)] fw_0 (ab_is (some (ab_I (0))) fw_0) := by
  refine ab_Mt.of rfl (Nat.le_of_ble_eq_true rfl) ?_
  show ab_Ev g_G g_rs mt_Mo_end _ _ _ 0 [some (ab_R (107)), some (ab_I (0))] [] _ _
  refine ev_iload_n de_Mo_end_0 rfl rfl ?_
  refine ev_if_lt (tgt := 12) de_Mo_end_1 (by decide) (by decide) (fun h => absurd h (by decide)) (fun _ => ?_)
  refine ev_iload_n de_Mo_end_4 rfl rfl ?_
  refine ev_aload_n de_Mo_end_5 rfl rfl ?_
  refine ev_getfield de_Mo_end_6 rfl fl_Mo_76 rfl ?_
  refine ev_icmp_le (tgt := 14) de_Mo_end_9 (by decide) (by decide) (by decide) (fun _ => ?_) (fun h => absurd h (by decide))
  refine ev_aload_n de_Mo_end_14 rfl rfl ?_
  refine ev_iload_n de_Mo_end_15 rfl rfl ?_
  refine ev_putfield de_Mo_end_16 rfl (fp_Mo_76 _) (Nat.le_of_ble_eq_true rfl) trivial ?_
  refine ev_world (w' := fw_0) rfl ?_
  refine ev_iload_n de_Mo_end_19 rfl rfl ?_
  exact ev_ireturn de_Mo_end_20 rfl ⟨rfl, rfl⟩
theorem de_Tu_end_15 : decode prog_1_method_3_code 15 = .ok (.iconst (-1), 1) := by decide +kernel
theorem de_Tu_end_16 : decode prog_1_method_3_code 16 = .ok (.ireturn, 1) := by decide +kernel
set_option maxHeartbeats 4000000 in
set_option maxRecDepth 20000 in
theorem xx_end_1 (v0 : Int) (hv0 : ab_in v0) (hc0 : (v0 ≤ (-1)) ∨ (1 ≤ v0)) : ab_Mt g_G g_rs mt_Tu_end 1 0 0 [ab_R (0), ab_I (v0)] fw_0 (ab_is (some (ab_I ((-1)))) fw_0) := by
  refine ab_Mt.of rfl (Nat.le_of_ble_eq_true rfl) ?_
  show ab_Ev g_G g_rs mt_Tu_end _ _ _ 0 [some (ab_R (0)), some (ab_I (v0))] [] _ _
  refine ev_iload_n de_Tu_end_0 rfl rfl ?_
  refine ev_if_lt (tgt := 15) de_Tu_end_1 (by decide) (by omega) (fun h1 => ?_) (fun h1 => ?_)
  · skip
    refine ev_iconst de_Tu_end_15 ?_
    exact ev_ireturn de_Tu_end_16 rfl ⟨rfl, rfl⟩
  · skip
    refine ev_iload_n de_Tu_end_4 rfl rfl ?_
    refine ev_aload_n de_Tu_end_5 rfl rfl ?_
    refine ev_getfield de_Tu_end_6 rfl fl_Tu_10 rfl ?_
    refine ev_getfield de_Tu_end_9 rfl fl_Tu_82 rfl ?_
    refine ev_icmp_le (tgt := 17) de_Tu_end_12 (by decide) (by omega) (by decide) (fun h => absurd h (by omega)) (fun h12 => ?_)
    refine ev_iconst de_Tu_end_15 ?_
    exact ev_ireturn de_Tu_end_16 rfl ⟨rfl, rfl⟩
theorem de_Mo_end_12 : decode prog_14_method_7_code 12 = .ok (.iconst (-1), 1) := by decide +kernel
theorem de_Mo_end_13 : decode prog_14_method_7_code 13 = .ok (.ireturn, 1) := by decide +kernel
set_option maxHeartbeats 4000000 in
set_option maxRecDepth 20000 in
theorem yy_end_1 (v0 : Int) (hv0 : ab_in v0) (hc0 : (v0 ≤ (-1)) ∨ (1 ≤ v0)) : ab_Mt g_G g_rs mt_Mo_end 1 0 0 [ab_R (107), ab_I (v0)] fw_0 (ab_is (some (ab_I ((-1)))) fw_0) := by
  refine ab_Mt.of rfl (Nat.le_of_ble_eq_true rfl) ?_
  show ab_Ev g_G g_rs mt_Mo_end _ _ _ 0 [some (ab_R (107)), some (ab_I (v0))] [] _ _
  refine ev_iload_n de_Mo_end_0 rfl rfl ?_
  refine ev_if_lt (tgt := 12) de_Mo_end_1 (by decide) (by omega) (fun h1 => ?_) (fun h1 => ?_)
  · skip
    refine ev_iconst de_Mo_end_12 ?_
    exact ev_ireturn de_Mo_end_13 rfl ⟨rfl, rfl⟩
  · skip
    refine ev_iload_n de_Mo_end_4 rfl rfl ?_
    refine ev_aload_n de_Mo_end_5 rfl rfl ?_
    refine ev_getfield de_Mo_end_6 rfl fl_Mo_76 rfl ?_
    refine ev_icmp_le (tgt := 14) de_Mo_end_9 (by decide) (by omega) (by decide) (fun h => absurd h (by omega)) (fun h9 => ?_)
    refine ev_iconst de_Mo_end_12 ?_
    exact ev_ireturn de_Mo_end_13 rfl ⟨rfl, rfl⟩
theorem de_Ta_advance_0 : decode prog_11_method_5_code 0 = .ok (.aload_n 0, 1) := by decide +kernel
theorem de_Ta_advance_1 : decode prog_11_method_5_code 1 = .ok (.getfield 25, 3) := by decide +kernel
theorem de_Ta_advance_4 : decode prog_11_method_5_code 4 = .ok (.aload_n 0, 1) := by decide +kernel
theorem de_Ta_advance_5 : decode prog_11_method_5_code 5 = .ok (.getfield 21, 3) := by decide +kernel
theorem de_Ta_advance_8 : decode prog_11_method_5_code 8 = .ok (.if_icmp .ge 30, 3) := by decide +kernel
theorem de_Ta_advance_38 : decode prog_11_method_5_code 38 = .ok (.aload_n 0, 1) := by decide +kernel
theorem de_Ta_advance_39 : decode prog_11_method_5_code 39 = .ok (.aload_n 0, 1) := by decide +kernel
theorem de_Ta_advance_40 : decode prog_11_method_5_code 40 = .ok (.getfield 25, 3) := by decide +kernel
theorem de_Ta_advance_43 : decode prog_11_method_5_code 43 = .ok (.putfield 34, 3) := by decide +kernel
theorem de_Ta_advance_46 : decode prog_11_method_5_code 46 = .ok (.aload_n 0, 1) := by decide +kernel
theorem de_Ta_advance_47 : decode prog_11_method_5_code 47 = .ok (.iconst (-1), 1) := by decide +kernel
theorem de_Ta_advance_48 : decode prog_11_method_5_code 48 = .ok (.putfield 40, 3) := by decide +kernel
theorem de_Ta_advance_51 : decode prog_11_method_5_code 51 = .ok (.aload_n 0, 1) := by decide +kernel
theorem de_Ta_advance_52 : decode prog_11_method_5_code 52 = .ok (.iconst (-1), 1) := by decide +kernel
theorem de_Ta_advance_53 : decode prog_11_method_5_code 53 = .ok (.putfield 43, 3) := by decide +kernel
theorem de_Ta_advance_56 : decode prog_11_method_5_code 56 = .ok (.aload_n 0, 1) := by decide +kernel
theorem de_Ta_advance_57 : decode prog_11_method_5_code 57 = .ok (.getfield 25, 3) := by decide +kernel
theorem de_Ta_advance_60 : decode prog_11_method_5_code 60 = .ok (.aload_n 0, 1) := by decide +kernel
theorem de_Ta_advance_61 : decode prog_11_method_5_code 61 = .ok (.getfield 21, 3) := by decide +kernel
theorem de_Ta_advance_64 : decode prog_11_method_5_code 64 = .ok (.if_icmp .lt 11, 3) := by decide +kernel
theorem de_Ta_advance_67 : decode prog_11_method_5_code 67 = .ok (.aload_n 0, 1) := by decide +kernel
theorem de_Ta_advance_68 : decode prog_11_method_5_code 68 = .ok (.iconst (-1), 1) := by decide +kernel
theorem de_Ta_advance_69 : decode prog_11_method_5_code 69 = .ok (.putfield 37, 3) := by decide +kernel
theorem de_Ta_advance_72 : decode prog_11_method_5_code 72 = .ok (.goto 89, 3) := by decide +kernel
theorem de_Ta_advance_161 : decode prog_11_method_5_code 161 = .ok (.return_, 1) := by decide +kernel
set_option maxHeartbeats 4000000 in
set_option maxRecDepth 20000 in
theorem fx_29  : ab_Mt g_G g_rs mt_Ta_advance 1 0 0 [ab_R (1)] (fw_0.set 1 (ab_ob 8 [ab_R (2), ab_I (0), ab_I (0), ab_R (ab_sb + 1), ab_I (0), ab_I (0), ab_I (0), ab_I (0), ab_I (0)])) (ab_is none (fw_0.set 1 (ab_ob 8 [ab_R (2), ab_I (0), ab_I (0), ab_R (ab_sb + 1), ab_I (0), ab_I (0), ab_I ((-1)), ab_I ((-1)), ab_I ((-1))]))) := by
  refine ab_Mt.of rfl (Nat.le_of_ble_eq_true rfl) ?_
  show ab_Ev g_G g_rs mt_Ta_advance _ _ _ 0 [some (ab_R (1))] [] _ _
  refine ev_aload_n de_Ta_advance_0 rfl rfl ?_
  refine ev_getfield de_Ta_advance_1 rfl fl_Ta_25 rfl ?_
  refine ev_aload_n de_Ta_advance_4 rfl rfl ?_
  refine ev_getfield de_Ta_advance_5 rfl fl_Ta_21 rfl ?_
  refine ev_icmp_ge (tgt := 38) de_Ta_advance_8 (by decide) (by decide) (by decide) (fun _ => ?_) (fun h => absurd h (by decide))
  refine ev_aload_n de_Ta_advance_38 rfl rfl ?_
  refine ev_aload_n de_Ta_advance_39 rfl rfl ?_
  refine ev_getfield de_Ta_advance_40 rfl fl_Ta_25 rfl ?_
  refine ev_putfield de_Ta_advance_43 rfl (fp_Ta_34 _) (Nat.le_of_ble_eq_true rfl) trivial ?_
  refine ev_world (w' := (fw_0.set 1 (ab_ob 8 [ab_R (2), ab_I (0), ab_I (0), ab_R (ab_sb + 1), ab_I (0), ab_I (0), ab_I (0), ab_I (0), ab_I (0)]))) rfl ?_
  refine ev_aload_n de_Ta_advance_46 rfl rfl ?_
  refine ev_iconst de_Ta_advance_47 ?_
  refine ev_putfield de_Ta_advance_48 rfl (fp_Ta_40 _) (Nat.le_of_ble_eq_true rfl) trivial ?_
  refine ev_world (w' := (fw_0.set 1 (ab_ob 8 [ab_R (2), ab_I (0), ab_I (0), ab_R (ab_sb + 1), ab_I (0), ab_I (0), ab_I (0), ab_I ((-1)), ab_I (0)]))) rfl ?_
  refine ev_aload_n de_Ta_advance_51 rfl rfl ?_
  refine ev_iconst de_Ta_advance_52 ?_
  refine ev_putfield de_Ta_advance_53 rfl (fp_Ta_43 _) (Nat.le_of_ble_eq_true rfl) trivial ?_
  refine ev_world (w' := (fw_0.set 1 (ab_ob 8 [ab_R (2), ab_I (0), ab_I (0), ab_R (ab_sb + 1), ab_I (0), ab_I (0), ab_I (0), ab_I ((-1)), ab_I ((-1))]))) rfl ?_
  refine ev_aload_n de_Ta_advance_56 rfl rfl ?_
  refine ev_getfield de_Ta_advance_57 rfl fl_Ta_25 rfl ?_
  refine ev_aload_n de_Ta_advance_60 rfl rfl ?_
  refine ev_getfield de_Ta_advance_61 rfl fl_Ta_21 rfl ?_
  refine ev_icmp_lt (tgt := 75) de_Ta_advance_64 (by decide) (by decide) (by decide) (fun h => absurd h (by decide)) (fun _ => ?_)
  refine ev_aload_n de_Ta_advance_67 rfl rfl ?_
  refine ev_iconst de_Ta_advance_68 ?_
  refine ev_putfield de_Ta_advance_69 rfl (fp_Ta_37 _) (Nat.le_of_ble_eq_true rfl) trivial ?_
  refine ev_world (w' := (fw_0.set 1 (ab_ob 8 [ab_R (2), ab_I (0), ab_I (0), ab_R (ab_sb + 1), ab_I (0), ab_I (0), ab_I ((-1)), ab_I ((-1)), ab_I ((-1))]))) rfl ?_
  refine ev_goto (tgt := 161) de_Ta_advance_72 (by decide) ?_
  exact ev_return de_Ta_advance_161 rfl ⟨rfl, rfl⟩
theorem de_Ta_begin_0 : decode prog_11_method_3_code 0 = .ok (.aload_n 0, 1) := by decide +kernel
theorem de_Ta_begin_1 : decode prog_11_method_3_code 1 = .ok (.aload_n 1, 1) := by decide +kernel
theorem de_Ta_begin_2 : decode prog_11_method_3_code 2 = .ok (.putfield 17, 3) := by decide +kernel
theorem de_Ta_begin_5 : decode prog_11_method_3_code 5 = .ok (.aload_n 0, 1) := by decide +kernel
theorem de_Ta_begin_6 : decode prog_11_method_3_code 6 = .ok (.iconst 0, 1) := by decide +kernel
theorem de_Ta_begin_7 : decode prog_11_method_3_code 7 = .ok (.putfield 25, 3) := by decide +kernel
theorem de_Ta_begin_10 : decode prog_11_method_3_code 10 = .ok (.aload_n 0, 1) := by decide +kernel
theorem de_Ta_begin_11 : decode prog_11_method_3_code 11 = .ok (.iconst 0, 1) := by decide +kernel
theorem de_Ta_begin_12 : decode prog_11_method_3_code 12 = .ok (.putfield 28, 3) := by decide +kernel
theorem de_Ta_begin_15 : decode prog_11_method_3_code 15 = .ok (.aload_n 0, 1) := by decide +kernel
theorem de_Ta_begin_16 : decode prog_11_method_3_code 16 = .ok (.invokevirtual 31, 3) := by decide +kernel
theorem de_Ta_begin_19 : decode prog_11_method_3_code 19 = .ok (.return_, 1) := by decide +kernel
set_option maxHeartbeats 4000000 in
set_option maxRecDepth 20000 in
theorem fx_28  : ab_Mt g_G g_rs mt_Ta_begin 2 0 0 [ab_R (1), ab_R (ab_sb + 1)] fw_0 (ab_is none (fw_0.set 1 (ab_ob 8 [ab_R (2), ab_I (0), ab_I (0), ab_R (ab_sb + 1), ab_I (0), ab_I (0), ab_I ((-1)), ab_I ((-1)), ab_I ((-1))]))) := by
  refine ab_Mt.of rfl (Nat.le_of_ble_eq_true rfl) ?_
  show ab_Ev g_G g_rs mt_Ta_begin _ _ _ 0 [some (ab_R (1)), some (ab_R (ab_sb + 1))] [] _ _
  refine ev_aload_n de_Ta_begin_0 rfl rfl ?_
  refine ev_aload_n de_Ta_begin_1 rfl rfl ?_
  refine ev_putfield de_Ta_begin_2 rfl (fp_Ta_17 _) (Nat.le_of_ble_eq_true rfl) trivial ?_
  refine ev_world (w' := (fw_0.set 1 (ab_ob 8 [ab_R (2), ab_I (0), ab_I (0), ab_R (ab_sb + 1), ab_I (0), ab_I (0), ab_I (0), ab_I (0), ab_I (0)]))) rfl ?_
  refine ev_aload_n de_Ta_begin_5 rfl rfl ?_
  refine ev_iconst de_Ta_begin_6 ?_
  refine ev_putfield de_Ta_begin_7 rfl (fp_Ta_25 _) (Nat.le_of_ble_eq_true rfl) trivial ?_
  refine ev_world (w' := (fw_0.set 1 (ab_ob 8 [ab_R (2), ab_I (0), ab_I (0), ab_R (ab_sb + 1), ab_I (0), ab_I (0), ab_I (0), ab_I (0), ab_I (0)]))) rfl ?_
  refine ev_aload_n de_Ta_begin_10 rfl rfl ?_
  refine ev_iconst de_Ta_begin_11 ?_
  refine ev_putfield de_Ta_begin_12 rfl (fp_Ta_28 _) (Nat.le_of_ble_eq_true rfl) trivial ?_
  refine ev_world (w' := (fw_0.set 1 (ab_ob 8 [ab_R (2), ab_I (0), ab_I (0), ab_R (ab_sb + 1), ab_I (0), ab_I (0), ab_I (0), ab_I (0), ab_I (0)]))) rfl ?_
  refine ev_aload_n de_Ta_begin_15 rfl rfl ?_
  refine ev_vn (ci := 8) de_Ta_begin_16 fx_29 kb_Ta_31 ⟨im_Ta_advance, se_Ta_advance⟩ rfl rfl rfl (Nat.le_of_ble_eq_true rfl) (by decide) rfl ?_
  exact ev_return de_Ta_begin_19 rfl ⟨rfl, rfl⟩
theorem de_Ri_clear_0 : decode prog_7_method_2_code 0 = .ok (.aload_n 0, 1) := by decide +kernel
theorem de_Ri_clear_1 : decode prog_7_method_2_code 1 = .ok (.iconst 0, 1) := by decide +kernel
theorem de_Ri_clear_2 : decode prog_7_method_2_code 2 = .ok (.putfield 41, 3) := by decide +kernel
theorem de_Ri_clear_5 : decode prog_7_method_2_code 5 = .ok (.aload_n 0, 1) := by decide +kernel
theorem de_Ri_clear_6 : decode prog_7_method_2_code 6 = .ok (.iconst 0, 1) := by decide +kernel
theorem de_Ri_clear_7 : decode prog_7_method_2_code 7 = .ok (.putfield 45, 3) := by decide +kernel
theorem de_Ri_clear_10 : decode prog_7_method_2_code 10 = .ok (.aload_n 0, 1) := by decide +kernel
theorem de_Ri_clear_11 : decode prog_7_method_2_code 11 = .ok (.iconst 0, 1) := by decide +kernel
theorem de_Ri_clear_12 : decode prog_7_method_2_code 12 = .ok (.putfield 49, 3) := by decide +kernel
theorem de_Ri_clear_15 : decode prog_7_method_2_code 15 = .ok (.aload_n 0, 1) := by decide +kernel
theorem de_Ri_clear_16 : decode prog_7_method_2_code 16 = .ok (.iconst 0, 1) := by decide +kernel
theorem de_Ri_clear_17 : decode prog_7_method_2_code 17 = .ok (.putfield 52, 3) := by decide +kernel
theorem de_Ri_clear_20 : decode prog_7_method_2_code 20 = .ok (.aload_n 0, 1) := by decide +kernel
theorem de_Ri_clear_21 : decode prog_7_method_2_code 21 = .ok (.iconst 0, 1) := by decide +kernel
theorem de_Ri_clear_22 : decode prog_7_method_2_code 22 = .ok (.putfield 55, 3) := by decide +kernel
theorem de_Ri_clear_25 : decode prog_7_method_2_code 25 = .ok (.aload_n 0, 1) := by decide +kernel
theorem de_Ri_clear_26 : decode prog_7_method_2_code 26 = .ok (.iconst 0, 1) := by decide +kernel
theorem de_Ri_clear_27 : decode prog_7_method_2_code 27 = .ok (.putfield 58, 3) := by decide +kernel
theorem de_Ri_clear_30 : decode prog_7_method_2_code 30 = .ok (.aload_n 0, 1) := by decide +kernel
theorem de_Ri_clear_31 : decode prog_7_method_2_code 31 = .ok (.iconst 0, 1) := by decide +kernel
theorem de_Ri_clear_32 : decode prog_7_method_2_code 32 = .ok (.putfield 61, 3) := by decide +kernel
theorem de_Ri_clear_35 : decode prog_7_method_2_code 35 = .ok (.aload_n 0, 1) := by decide +kernel
theorem de_Ri_clear_36 : decode prog_7_method_2_code 36 = .ok (.iconst 0, 1) := by decide +kernel
theorem de_Ri_clear_37 : decode prog_7_method_2_code 37 = .ok (.putfield 64, 3) := by decide +kernel
theorem de_Ri_clear_40 : decode prog_7_method_2_code 40 = .ok (.aload_n 0, 1) := by decide +kernel
theorem de_Ri_clear_41 : decode prog_7_method_2_code 41 = .ok (.iconst 0, 1) := by decide +kernel
theorem de_Ri_clear_42 : decode prog_7_method_2_code 42 = .ok (.putfield 67, 3) := by decide +kernel
theorem de_Ri_clear_45 : decode prog_7_method_2_code 45 = .ok (.aload_n 0, 1) := by decide +kernel
theorem de_Ri_clear_46 : decode prog_7_method_2_code 46 = .ok (.iconst 0, 1) := by decide +kernel
theorem de_Ri_clear_47 : decode prog_7_method_2_code 47 = .ok (.putfield 70, 3) := by decide +kernel
theorem de_Ri_clear_50 : decode prog_7_method_2_code 50 = .ok (.aload_n 0, 1) := by decide +kernel
theorem de_Ri_clear_51 : decode prog_7_method_2_code 51 = .ok (.getfield 21, 3) := by decide +kernel
theorem de_Ri_clear_54 : decode prog_7_method_2_code 54 = .ok (.iconst 0, 1) := by decide +kernel
theorem de_Ri_clear_55 : decode prog_7_method_2_code 55 = .ok (.invokestatic 73, 3) := by decide +kernel
theorem de_Ri_clear_58 : decode prog_7_method_2_code 58 = .ok (.aload_n 0, 1) := by decide +kernel
theorem de_Ri_clear_59 : decode prog_7_method_2_code 59 = .ok (.getfield 24, 3) := by decide +kernel
theorem de_Ri_clear_62 : decode prog_7_method_2_code 62 = .ok (.lconst 0, 1) := by decide +kernel
theorem de_Ri_clear_63 : decode prog_7_method_2_code 63 = .ok (.invokestatic 79, 3) := by decide +kernel
theorem de_Ri_clear_66 : decode prog_7_method_2_code 66 = .ok (.aload_n 0, 1) := by decide +kernel
theorem de_Ri_clear_67 : decode prog_7_method_2_code 67 = .ok (.getfield 28, 3) := by decide +kernel
theorem de_Ri_clear_70 : decode prog_7_method_2_code 70 = .ok (.iconst 1, 1) := by decide +kernel
theorem de_Ri_clear_71 : decode prog_7_method_2_code 71 = .ok (.invokestatic 73, 3) := by decide +kernel
theorem de_Ri_clear_74 : decode prog_7_method_2_code 74 = .ok (.aload_n 0, 1) := by decide +kernel
theorem de_Ri_clear_75 : decode prog_7_method_2_code 75 = .ok (.getfield 31, 3) := by decide +kernel
theorem de_Ri_clear_78 : decode prog_7_method_2_code 78 = .ok (.iconst 0, 1) := by decide +kernel
theorem de_Ri_clear_79 : decode prog_7_method_2_code 79 = .ok (.invokestatic 73, 3) := by decide +kernel
theorem de_Ri_clear_82 : decode prog_7_method_2_code 82 = .ok (.aload_n 0, 1) := by decide +kernel
theorem de_Ri_clear_83 : decode prog_7_method_2_code 83 = .ok (.getfield 37, 3) := by decide +kernel
theorem de_Ri_clear_86 : decode prog_7_method_2_code 86 = .ok (.iconst 0, 1) := by decide +kernel
theorem de_Ri_clear_87 : decode prog_7_method_2_code 87 = .ok (.putfield 82, 3) := by decide +kernel
theorem de_Ri_clear_90 : decode prog_7_method_2_code 90 = .ok (.return_, 1) := by decide +kernel
set_option maxHeartbeats 4000000 in
set_option maxRecDepth 20000 in
theorem fx_30  : ab_Mt g_G g_rs mt_Ri_clear 1 0 0 [ab_R (16)] (fw_0.set 1 (ab_ob 8 [ab_R (2), ab_I (0), ab_I (0), ab_R (ab_sb + 1), ab_I (0), ab_I (0), ab_I ((-1)), ab_I ((-1)), ab_I ((-1))])) (ab_is none (((((fw_0.set 1 (ab_ob 8 [ab_R (2), ab_I (0), ab_I (0), ab_R (ab_sb + 1), ab_I (0), ab_I (0), ab_I ((-1)), ab_I ((-1)), ab_I ((-1))])).set 20 (ab_ai 0 35 (ab_fv (fun _ => 0) (0) 35))).set 21 (ab_al 24 (ab_fv (fun _ => 0) (Int64.ofInt 0) 24))).set 22 (ab_ai 0 24 (ab_fv (fun _ => 0) (1) 24))).set 23 (ab_ai 0 12 (ab_fv (fun _ => 0) (0) 12)))) := by
  refine ab_Mt.of rfl (Nat.le_of_ble_eq_true rfl) ?_
  show ab_Ev g_G g_rs mt_Ri_clear _ _ _ 0 [some (ab_R (16))] [] _ _
  refine ev_aload_n de_Ri_clear_0 rfl rfl ?_
  refine ev_iconst de_Ri_clear_1 ?_
  refine ev_putfield de_Ri_clear_2 rfl (fp_Ri_41 _) (Nat.le_of_ble_eq_true rfl) (Or.inl rfl) ?_
  refine ev_world (w' := (fw_0.set 1 (ab_ob 8 [ab_R (2), ab_I (0), ab_I (0), ab_R (ab_sb + 1), ab_I (0), ab_I (0), ab_I ((-1)), ab_I ((-1)), ab_I ((-1))]))) rfl ?_
  refine ev_aload_n de_Ri_clear_5 rfl rfl ?_
  refine ev_iconst de_Ri_clear_6 ?_
  refine ev_putfield de_Ri_clear_7 rfl (fp_Ri_45 _) (Nat.le_of_ble_eq_true rfl) trivial ?_
  refine ev_world (w' := (fw_0.set 1 (ab_ob 8 [ab_R (2), ab_I (0), ab_I (0), ab_R (ab_sb + 1), ab_I (0), ab_I (0), ab_I ((-1)), ab_I ((-1)), ab_I ((-1))]))) rfl ?_
  refine ev_aload_n de_Ri_clear_10 rfl rfl ?_
  refine ev_iconst de_Ri_clear_11 ?_
  refine ev_putfield de_Ri_clear_12 rfl (fp_Ri_49 _) (Nat.le_of_ble_eq_true rfl) trivial ?_
  refine ev_world (w' := (fw_0.set 1 (ab_ob 8 [ab_R (2), ab_I (0), ab_I (0), ab_R (ab_sb + 1), ab_I (0), ab_I (0), ab_I ((-1)), ab_I ((-1)), ab_I ((-1))]))) rfl ?_
  refine ev_aload_n de_Ri_clear_15 rfl rfl ?_
  refine ev_iconst de_Ri_clear_16 ?_
  refine ev_putfield de_Ri_clear_17 rfl (fp_Ri_52 _) (Nat.le_of_ble_eq_true rfl) trivial ?_
  refine ev_world (w' := (fw_0.set 1 (ab_ob 8 [ab_R (2), ab_I (0), ab_I (0), ab_R (ab_sb + 1), ab_I (0), ab_I (0), ab_I ((-1)), ab_I ((-1)), ab_I ((-1))]))) rfl ?_
  refine ev_aload_n de_Ri_clear_20 rfl rfl ?_
  refine ev_iconst de_Ri_clear_21 ?_
  refine ev_putfield de_Ri_clear_22 rfl (fp_Ri_55 _) (Nat.le_of_ble_eq_true rfl) (Or.inl rfl) ?_
  refine ev_world (w' := (fw_0.set 1 (ab_ob 8 [ab_R (2), ab_I (0), ab_I (0), ab_R (ab_sb + 1), ab_I (0), ab_I (0), ab_I ((-1)), ab_I ((-1)), ab_I ((-1))]))) rfl ?_
  refine ev_aload_n de_Ri_clear_25 rfl rfl ?_
  refine ev_iconst de_Ri_clear_26 ?_
  refine ev_putfield de_Ri_clear_27 rfl (fp_Ri_58 _) (Nat.le_of_ble_eq_true rfl) trivial ?_
  refine ev_world (w' := (fw_0.set 1 (ab_ob 8 [ab_R (2), ab_I (0), ab_I (0), ab_R (ab_sb + 1), ab_I (0), ab_I (0), ab_I ((-1)), ab_I ((-1)), ab_I ((-1))]))) rfl ?_
  refine ev_aload_n de_Ri_clear_30 rfl rfl ?_
  refine ev_iconst de_Ri_clear_31 ?_
  refine ev_putfield de_Ri_clear_32 rfl (fp_Ri_61 _) (Nat.le_of_ble_eq_true rfl) trivial ?_
  refine ev_world (w' := (fw_0.set 1 (ab_ob 8 [ab_R (2), ab_I (0), ab_I (0), ab_R (ab_sb + 1), ab_I (0), ab_I (0), ab_I ((-1)), ab_I ((-1)), ab_I ((-1))]))) rfl ?_
  refine ev_aload_n de_Ri_clear_35 rfl rfl ?_
  refine ev_iconst de_Ri_clear_36 ?_
  refine ev_putfield de_Ri_clear_37 rfl (fp_Ri_64 _) (Nat.le_of_ble_eq_true rfl) trivial ?_
  refine ev_world (w' := (fw_0.set 1 (ab_ob 8 [ab_R (2), ab_I (0), ab_I (0), ab_R (ab_sb + 1), ab_I (0), ab_I (0), ab_I ((-1)), ab_I ((-1)), ab_I ((-1))]))) rfl ?_
  refine ev_aload_n de_Ri_clear_40 rfl rfl ?_
  refine ev_iconst de_Ri_clear_41 ?_
  refine ev_putfield de_Ri_clear_42 rfl (fp_Ri_67 _) (Nat.le_of_ble_eq_true rfl) trivial ?_
  refine ev_world (w' := (fw_0.set 1 (ab_ob 8 [ab_R (2), ab_I (0), ab_I (0), ab_R (ab_sb + 1), ab_I (0), ab_I (0), ab_I ((-1)), ab_I ((-1)), ab_I ((-1))]))) rfl ?_
  refine ev_aload_n de_Ri_clear_45 rfl rfl ?_
  refine ev_iconst de_Ri_clear_46 ?_
  refine ev_putfield de_Ri_clear_47 rfl (fp_Ri_70 _) (Nat.le_of_ble_eq_true rfl) trivial ?_
  refine ev_world (w' := (fw_0.set 1 (ab_ob 8 [ab_R (2), ab_I (0), ab_I (0), ab_R (ab_sb + 1), ab_I (0), ab_I (0), ab_I ((-1)), ab_I ((-1)), ab_I ((-1))]))) rfl ?_
  refine ev_aload_n de_Ri_clear_50 rfl rfl ?_
  refine ev_getfield de_Ri_clear_51 rfl fl_Ri_21 rfl ?_
  refine ev_iconst de_Ri_clear_54 ?_
  refine ev_sn de_Ri_clear_55 (co_Ar_fill_AIIV _ 20 35 _ _ rfl (by decide)) kb_Ri_73 sc_Ar_fill_AIIV rfl (Nat.le_of_ble_eq_true rfl) (by decide) rfl ?_
  refine ev_world (w' := ((fw_0.set 1 (ab_ob 8 [ab_R (2), ab_I (0), ab_I (0), ab_R (ab_sb + 1), ab_I (0), ab_I (0), ab_I ((-1)), ab_I ((-1)), ab_I ((-1))])).set 20 (ab_ai 0 35 (ab_fv (fun _ => 0) (0) 35)))) rfl ?_
  refine ev_aload_n de_Ri_clear_58 rfl rfl ?_
  refine ev_getfield de_Ri_clear_59 rfl fl_Ri_24 rfl ?_
  refine ev_lconsti (n := 0) de_Ri_clear_62 (by decide) ?_
  refine ev_sn de_Ri_clear_63 (co_Ar_fill_AJJV _ 21 24 _ _ rfl (by decide)) kb_Ri_79 sc_Ar_fill_AJJV rfl (Nat.le_of_ble_eq_true rfl) (by decide) rfl ?_
  refine ev_world (w' := (((fw_0.set 1 (ab_ob 8 [ab_R (2), ab_I (0), ab_I (0), ab_R (ab_sb + 1), ab_I (0), ab_I (0), ab_I ((-1)), ab_I ((-1)), ab_I ((-1))])).set 20 (ab_ai 0 35 (ab_fv (fun _ => 0) (0) 35))).set 21 (ab_al 24 (ab_fv (fun _ => 0) (Int64.ofInt 0) 24)))) rfl ?_
  refine ev_aload_n de_Ri_clear_66 rfl rfl ?_
  refine ev_getfield de_Ri_clear_67 rfl fl_Ri_28 rfl ?_
  refine ev_iconst de_Ri_clear_70 ?_
  refine ev_sn de_Ri_clear_71 (co_Ar_fill_AIIV _ 22 24 _ _ rfl (by decide)) kb_Ri_73 sc_Ar_fill_AIIV rfl (Nat.le_of_ble_eq_true rfl) (by decide) rfl ?_
  refine ev_world (w' := ((((fw_0.set 1 (ab_ob 8 [ab_R (2), ab_I (0), ab_I (0), ab_R (ab_sb + 1), ab_I (0), ab_I (0), ab_I ((-1)), ab_I ((-1)), ab_I ((-1))])).set 20 (ab_ai 0 35 (ab_fv (fun _ => 0) (0) 35))).set 21 (ab_al 24 (ab_fv (fun _ => 0) (Int64.ofInt 0) 24))).set 22 (ab_ai 0 24 (ab_fv (fun _ => 0) (1) 24)))) rfl ?_
  refine ev_aload_n de_Ri_clear_74 rfl rfl ?_
  refine ev_getfield de_Ri_clear_75 rfl fl_Ri_31 rfl ?_
  refine ev_iconst de_Ri_clear_78 ?_
  refine ev_sn de_Ri_clear_79 (co_Ar_fill_AIIV _ 23 12 _ _ rfl (by decide)) kb_Ri_73 sc_Ar_fill_AIIV rfl (Nat.le_of_ble_eq_true rfl) (by decide) rfl ?_
  refine ev_world (w' := (((((fw_0.set 1 (ab_ob 8 [ab_R (2), ab_I (0), ab_I (0), ab_R (ab_sb + 1), ab_I (0), ab_I (0), ab_I ((-1)), ab_I ((-1)), ab_I ((-1))])).set 20 (ab_ai 0 35 (ab_fv (fun _ => 0) (0) 35))).set 21 (ab_al 24 (ab_fv (fun _ => 0) (Int64.ofInt 0) 24))).set 22 (ab_ai 0 24 (ab_fv (fun _ => 0) (1) 24))).set 23 (ab_ai 0 12 (ab_fv (fun _ => 0) (0) 12)))) rfl ?_
  refine ev_aload_n de_Ri_clear_82 rfl rfl ?_
  refine ev_getfield de_Ri_clear_83 rfl fl_Ri_37 rfl ?_
  refine ev_iconst de_Ri_clear_86 ?_
  refine ev_putfield de_Ri_clear_87 rfl (fp_Ri_82 _) (Nat.le_of_ble_eq_true rfl) trivial ?_
  refine ev_world (w' := (((((fw_0.set 1 (ab_ob 8 [ab_R (2), ab_I (0), ab_I (0), ab_R (ab_sb + 1), ab_I (0), ab_I (0), ab_I ((-1)), ab_I ((-1)), ab_I ((-1))])).set 20 (ab_ai 0 35 (ab_fv (fun _ => 0) (0) 35))).set 21 (ab_al 24 (ab_fv (fun _ => 0) (Int64.ofInt 0) 24))).set 22 (ab_ai 0 24 (ab_fv (fun _ => 0) (1) 24))).set 23 (ab_ai 0 12 (ab_fv (fun _ => 0) (0) 12)))) rfl ?_
  exact ev_return de_Ri_clear_90 rfl ⟨rfl, rfl⟩
theorem de_Ta_fail_0 : decode prog_11_method_4_code 0 = .ok (.aload_n 0, 1) := by decide +kernel
theorem de_Ta_fail_1 : decode prog_11_method_4_code 1 = .ok (.getfield 28, 3) := by decide +kernel
theorem de_Ta_fail_4 : decode prog_11_method_4_code 4 = .ok (.ifCond .ne 18, 3) := by decide +kernel
theorem de_Ta_fail_7 : decode prog_11_method_4_code 7 = .ok (.aload_n 0, 1) := by decide +kernel
theorem de_Ta_fail_8 : decode prog_11_method_4_code 8 = .ok (.iconst 1, 1) := by decide +kernel
theorem de_Ta_fail_9 : decode prog_11_method_4_code 9 = .ok (.bipush 8, 2) := by decide +kernel
theorem de_Ta_fail_11 : decode prog_11_method_4_code 11 = .ok (.aload_n 0, 1) := by decide +kernel
theorem de_Ta_fail_12 : decode prog_11_method_4_code 12 = .ok (.getfield 34, 3) := by decide +kernel
theorem de_Ta_fail_15 : decode prog_11_method_4_code 15 = .ok (.imul, 1) := by decide +kernel
theorem de_Ta_fail_16 : decode prog_11_method_4_code 16 = .ok (.iadd, 1) := by decide +kernel
theorem de_Ta_fail_17 : decode prog_11_method_4_code 17 = .ok (.iload_n 1, 1) := by decide +kernel
theorem de_Ta_fail_18 : decode prog_11_method_4_code 18 = .ok (.iadd, 1) := by decide +kernel
theorem de_Ta_fail_19 : decode prog_11_method_4_code 19 = .ok (.putfield 28, 3) := by decide +kernel
theorem de_Ta_fail_22 : decode prog_11_method_4_code 22 = .ok (.aload_n 0, 1) := by decide +kernel
theorem de_Ta_fail_23 : decode prog_11_method_4_code 23 = .ok (.aload_n 0, 1) := by decide +kernel
theorem de_Ta_fail_24 : decode prog_11_method_4_code 24 = .ok (.getfield 21, 3) := by decide +kernel
theorem de_Ta_fail_27 : decode prog_11_method_4_code 27 = .ok (.putfield 25, 3) := by decide +kernel
theorem de_Ta_fail_30 : decode prog_11_method_4_code 30 = .ok (.aload_n 0, 1) := by decide +kernel
theorem de_Ta_fail_31 : decode prog_11_method_4_code 31 = .ok (.iconst (-1), 1) := by decide +kernel
theorem de_Ta_fail_32 : decode prog_11_method_4_code 32 = .ok (.putfield 37, 3) := by decide +kernel
theorem de_Ta_fail_35 : decode prog_11_method_4_code 35 = .ok (.aload_n 0, 1) := by decide +kernel
theorem de_Ta_fail_36 : decode prog_11_method_4_code 36 = .ok (.iconst (-1), 1) := by decide +kernel
theorem de_Ta_fail_37 : decode prog_11_method_4_code 37 = .ok (.putfield 40, 3) := by decide +kernel
theorem de_Ta_fail_40 : decode prog_11_method_4_code 40 = .ok (.aload_n 0, 1) := by decide +kernel
theorem de_Ta_fail_41 : decode prog_11_method_4_code 41 = .ok (.iconst (-1), 1) := by decide +kernel
theorem de_Ta_fail_42 : decode prog_11_method_4_code 42 = .ok (.putfield 43, 3) := by decide +kernel
theorem de_Ta_fail_45 : decode prog_11_method_4_code 45 = .ok (.return_, 1) := by decide +kernel
set_option maxHeartbeats 4000000 in
set_option maxRecDepth 20000 in
theorem fx_31  : ab_Mt g_G g_rs mt_Ta_fail 1 0 0 [ab_R (1), ab_I (0)] (((((fw_0.set 1 (ab_ob 8 [ab_R (2), ab_I (0), ab_I (0), ab_R (ab_sb + 1), ab_I (0), ab_I (0), ab_I ((-1)), ab_I ((-1)), ab_I ((-1))])).set 20 (ab_ai 0 35 (ab_fv (fun _ => 0) (0) 35))).set 21 (ab_al 24 (ab_fv (fun _ => 0) (Int64.ofInt 0) 24))).set 22 (ab_ai 0 24 (ab_fv (fun _ => 0) (1) 24))).set 23 (ab_ai 0 12 (ab_fv (fun _ => 0) (0) 12))) (ab_is none (((((fw_0.set 1 (ab_ob 8 [ab_R (2), ab_I (0), ab_I (0), ab_R (ab_sb + 1), ab_I (1), ab_I (0), ab_I ((-1)), ab_I ((-1)), ab_I ((-1))])).set 20 (ab_ai 0 35 (ab_fv (fun _ => 0) (0) 35))).set 21 (ab_al 24 (ab_fv (fun _ => 0) (Int64.ofInt 0) 24))).set 22 (ab_ai 0 24 (ab_fv (fun _ => 0) (1) 24))).set 23 (ab_ai 0 12 (ab_fv (fun _ => 0) (0) 12)))) := by
  refine ab_Mt.of rfl (Nat.le_of_ble_eq_true rfl) ?_
  show ab_Ev g_G g_rs mt_Ta_fail _ _ _ 0 [some (ab_R (1)), some (ab_I (0))] [] _ _
  refine ev_aload_n de_Ta_fail_0 rfl rfl ?_
  refine ev_getfield de_Ta_fail_1 rfl fl_Ta_28 rfl ?_
  refine ev_if_ne (tgt := 22) de_Ta_fail_4 (by decide) (by decide) (fun h => absurd h (by decide)) (fun _ => ?_)
  refine ev_aload_n de_Ta_fail_7 rfl rfl ?_
  refine ev_iconst de_Ta_fail_8 ?_
  refine ev_bipush de_Ta_fail_9 rfl ?_
  refine ev_aload_n de_Ta_fail_11 rfl rfl ?_
  refine ev_getfield de_Ta_fail_12 rfl fl_Ta_34 rfl ?_
  refine ev_imul de_Ta_fail_15 ?_
  refine ev_top (b := ab_I (0)) rfl ?_
  refine ev_iadd de_Ta_fail_16 ?_
  refine ev_top (b := ab_I (1)) rfl ?_
  refine ev_iload_n de_Ta_fail_17 rfl rfl ?_
  refine ev_iadd de_Ta_fail_18 ?_
  refine ev_top (b := ab_I (1)) rfl ?_
  refine ev_putfield de_Ta_fail_19 rfl (fp_Ta_28 _) (Nat.le_of_ble_eq_true rfl) trivial ?_
  refine ev_world (w' := (((((fw_0.set 1 (ab_ob 8 [ab_R (2), ab_I (0), ab_I (0), ab_R (ab_sb + 1), ab_I (1), ab_I (0), ab_I ((-1)), ab_I ((-1)), ab_I ((-1))])).set 20 (ab_ai 0 35 (ab_fv (fun _ => 0) (0) 35))).set 21 (ab_al 24 (ab_fv (fun _ => 0) (Int64.ofInt 0) 24))).set 22 (ab_ai 0 24 (ab_fv (fun _ => 0) (1) 24))).set 23 (ab_ai 0 12 (ab_fv (fun _ => 0) (0) 12)))) rfl ?_
  refine ev_aload_n de_Ta_fail_22 rfl rfl ?_
  refine ev_aload_n de_Ta_fail_23 rfl rfl ?_
  refine ev_getfield de_Ta_fail_24 rfl fl_Ta_21 rfl ?_
  refine ev_putfield de_Ta_fail_27 rfl (fp_Ta_25 _) (Nat.le_of_ble_eq_true rfl) trivial ?_
  refine ev_world (w' := (((((fw_0.set 1 (ab_ob 8 [ab_R (2), ab_I (0), ab_I (0), ab_R (ab_sb + 1), ab_I (1), ab_I (0), ab_I ((-1)), ab_I ((-1)), ab_I ((-1))])).set 20 (ab_ai 0 35 (ab_fv (fun _ => 0) (0) 35))).set 21 (ab_al 24 (ab_fv (fun _ => 0) (Int64.ofInt 0) 24))).set 22 (ab_ai 0 24 (ab_fv (fun _ => 0) (1) 24))).set 23 (ab_ai 0 12 (ab_fv (fun _ => 0) (0) 12)))) rfl ?_
  refine ev_aload_n de_Ta_fail_30 rfl rfl ?_
  refine ev_iconst de_Ta_fail_31 ?_
  refine ev_putfield de_Ta_fail_32 rfl (fp_Ta_37 _) (Nat.le_of_ble_eq_true rfl) trivial ?_
  refine ev_world (w' := (((((fw_0.set 1 (ab_ob 8 [ab_R (2), ab_I (0), ab_I (0), ab_R (ab_sb + 1), ab_I (1), ab_I (0), ab_I ((-1)), ab_I ((-1)), ab_I ((-1))])).set 20 (ab_ai 0 35 (ab_fv (fun _ => 0) (0) 35))).set 21 (ab_al 24 (ab_fv (fun _ => 0) (Int64.ofInt 0) 24))).set 22 (ab_ai 0 24 (ab_fv (fun _ => 0) (1) 24))).set 23 (ab_ai 0 12 (ab_fv (fun _ => 0) (0) 12)))) rfl ?_
  refine ev_aload_n de_Ta_fail_35 rfl rfl ?_
  refine ev_iconst de_Ta_fail_36 ?_
  refine ev_putfield de_Ta_fail_37 rfl (fp_Ta_40 _) (Nat.le_of_ble_eq_true rfl) trivial ?_
  refine ev_world (w' := (((((fw_0.set 1 (ab_ob 8 [ab_R (2), ab_I (0), ab_I (0), ab_R (ab_sb + 1), ab_I (1), ab_I (0), ab_I ((-1)), ab_I ((-1)), ab_I ((-1))])).set 20 (ab_ai 0 35 (ab_fv (fun _ => 0) (0) 35))).set 21 (ab_al 24 (ab_fv (fun _ => 0) (Int64.ofInt 0) 24))).set 22 (ab_ai 0 24 (ab_fv (fun _ => 0) (1) 24))).set 23 (ab_ai 0 12 (ab_fv (fun _ => 0) (0) 12)))) rfl ?_
  refine ev_aload_n de_Ta_fail_40 rfl rfl ?_
  refine ev_iconst de_Ta_fail_41 ?_
  refine ev_putfield de_Ta_fail_42 rfl (fp_Ta_43 _) (Nat.le_of_ble_eq_true rfl) trivial ?_
  refine ev_world (w' := (((((fw_0.set 1 (ab_ob 8 [ab_R (2), ab_I (0), ab_I (0), ab_R (ab_sb + 1), ab_I (1), ab_I (0), ab_I ((-1)), ab_I ((-1)), ab_I ((-1))])).set 20 (ab_ai 0 35 (ab_fv (fun _ => 0) (0) 35))).set 21 (ab_al 24 (ab_fv (fun _ => 0) (Int64.ofInt 0) 24))).set 22 (ab_ai 0 24 (ab_fv (fun _ => 0) (1) 24))).set 23 (ab_ai 0 12 (ab_fv (fun _ => 0) (0) 12)))) rfl ?_
  exact ev_return de_Ta_fail_45 rfl ⟨rfl, rfl⟩
theorem de_Rr_readAll_0 : decode prog_8_method_2_code 0 = .ok (.aload_n 0, 1) := by decide +kernel
theorem de_Rr_readAll_1 : decode prog_8_method_2_code 1 = .ok (.ldc 11, 2) := by decide +kernel
theorem de_Rr_readAll_3 : decode prog_8_method_2_code 3 = .ok (.invokevirtual 13, 3) := by decide +kernel
theorem de_Rr_readAll_6 : decode prog_8_method_2_code 6 = .ok (.aload_n 1, 1) := by decide +kernel
theorem de_Rr_readAll_7 : decode prog_8_method_2_code 7 = .ok (.invokevirtual 19, 3) := by decide +kernel
theorem de_Rr_readAll_10 : decode prog_8_method_2_code 10 = .ok (.iconst 1, 1) := by decide +kernel
theorem de_Rr_readAll_11 : decode prog_8_method_2_code 11 = .ok (.istore_n 2, 1) := by decide +kernel
theorem de_Rr_readAll_12 : decode prog_8_method_2_code 12 = .ok (.iconst 0, 1) := by decide +kernel
theorem de_Rr_readAll_13 : decode prog_8_method_2_code 13 = .ok (.istore_n 3, 1) := by decide +kernel
theorem de_Rr_readAll_14 : decode prog_8_method_2_code 14 = .ok (.iload_n 2, 1) := by decide +kernel
theorem de_Rr_readAll_15 : decode prog_8_method_2_code 15 = .ok (.ifCond .eq 93, 3) := by decide +kernel
theorem de_Rr_readAll_18 : decode prog_8_method_2_code 18 = .ok (.iload_n 3, 1) := by decide +kernel
theorem de_Rr_readAll_19 : decode prog_8_method_2_code 19 = .ok (.bipush 40, 2) := by decide +kernel
theorem de_Rr_readAll_21 : decode prog_8_method_2_code 21 = .ok (.if_icmp .gt 87, 3) := by decide +kernel
theorem de_Rr_readAll_24 : decode prog_8_method_2_code 24 = .ok (.aload_n 0, 1) := by decide +kernel
theorem de_Rr_readAll_25 : decode prog_8_method_2_code 25 = .ok (.getfield 24, 3) := by decide +kernel
theorem de_Rr_readAll_28 : decode prog_8_method_2_code 28 = .ok (.istore 4, 2) := by decide +kernel
theorem de_Rr_readAll_30 : decode prog_8_method_2_code 30 = .ok (.iload 4, 2) := by decide +kernel
theorem de_Rr_readAll_32 : decode prog_8_method_2_code 32 = .ok (.iconst (-1), 1) := by decide +kernel
theorem de_Rr_readAll_33 : decode prog_8_method_2_code 33 = .ok (.if_icmp .ne 11, 3) := by decide +kernel
theorem de_Rr_readAll_36 : decode prog_8_method_2_code 36 = .ok (.aload_n 0, 1) := by decide +kernel
theorem de_Rr_readAll_37 : decode prog_8_method_2_code 37 = .ok (.iconst 0, 1) := by decide +kernel
theorem de_Rr_readAll_38 : decode prog_8_method_2_code 38 = .ok (.invokevirtual 28, 3) := by decide +kernel
theorem de_Rr_readAll_41 : decode prog_8_method_2_code 41 = .ok (.goto 38, 3) := by decide +kernel
theorem de_Rr_readAll_79 : decode prog_8_method_2_code 79 = .ok (.aload_n 0, 1) := by decide +kernel
theorem de_Rr_readAll_80 : decode prog_8_method_2_code 80 = .ok (.getfield 43, 3) := by decide +kernel
theorem de_Rr_readAll_83 : decode prog_8_method_2_code 83 = .ok (.bipush 59, 2) := by decide +kernel
theorem de_Rr_readAll_85 : decode prog_8_method_2_code 85 = .ok (.if_icmp .ne 7, 3) := by decide +kernel
theorem de_Rr_readAll_92 : decode prog_8_method_2_code 92 = .ok (.iconst 0, 1) := by decide +kernel
theorem de_Rr_readAll_93 : decode prog_8_method_2_code 93 = .ok (.istore_n 2, 1) := by decide +kernel
theorem de_Rr_readAll_94 : decode prog_8_method_2_code 94 = .ok (.iload_n 2, 1) := by decide +kernel
theorem de_Rr_readAll_95 : decode prog_8_method_2_code 95 = .ok (.ifCond .eq 7, 3) := by decide +kernel
theorem de_Rr_readAll_102 : decode prog_8_method_2_code 102 = .ok (.iinc 3 1, 3) := by decide +kernel
theorem de_Rr_readAll_105 : decode prog_8_method_2_code 105 = .ok (.goto (-91), 3) := by decide +kernel
theorem de_Rr_readAll_108 : decode prog_8_method_2_code 108 = .ok (.aload_n 0, 1) := by decide +kernel
theorem de_Rr_readAll_109 : decode prog_8_method_2_code 109 = .ok (.getfield 43, 3) := by decide +kernel
theorem de_Rr_readAll_112 : decode prog_8_method_2_code 112 = .ok (.iconst (-1), 1) := by decide +kernel
theorem de_Rr_readAll_113 : decode prog_8_method_2_code 113 = .ok (.if_icmp .eq 8, 3) := by decide +kernel
theorem de_Rr_readAll_121 : decode prog_8_method_2_code 121 = .ok (.aload_n 1, 1) := by decide +kernel
theorem de_Rr_readAll_122 : decode prog_8_method_2_code 122 = .ok (.aload_n 0, 1) := by decide +kernel
theorem de_Rr_readAll_123 : decode prog_8_method_2_code 123 = .ok (.getfield 46, 3) := by decide +kernel
theorem de_Rr_readAll_126 : decode prog_8_method_2_code 126 = .ok (.ifCond .ne 7, 3) := by decide +kernel
theorem de_Rr_readAll_133 : decode prog_8_method_2_code 133 = .ok (.iconst 0, 1) := by decide +kernel
theorem de_Rr_readAll_134 : decode prog_8_method_2_code 134 = .ok (.putfield 49, 3) := by decide +kernel
theorem de_Rr_readAll_137 : decode prog_8_method_2_code 137 = .ok (.aload_n 0, 1) := by decide +kernel
theorem de_Rr_readAll_138 : decode prog_8_method_2_code 138 = .ok (.getfield 46, 3) := by decide +kernel
theorem de_Rr_readAll_141 : decode prog_8_method_2_code 141 = .ok (.ireturn, 1) := by decide +kernel
set_option maxHeartbeats 4000000 in
set_option maxRecDepth 20000 in
theorem fx_27  : ab_Mt g_G g_rs mt_Rr_readAll 3 0 0 [ab_R (1), ab_R (16)] fw_0 (ab_is (some (ab_I (1))) (((((fw_0.set 1 (ab_ob 8 [ab_R (2), ab_I (0), ab_I (0), ab_R (ab_sb + 1), ab_I (1), ab_I (0), ab_I ((-1)), ab_I ((-1)), ab_I ((-1))])).set 20 (ab_ai 0 35 (ab_fv (fun _ => 0) (0) 35))).set 21 (ab_al 24 (ab_fv (fun _ => 0) (Int64.ofInt 0) 24))).set 22 (ab_ai 0 24 (ab_fv (fun _ => 0) (1) 24))).set 23 (ab_ai 0 12 (ab_fv (fun _ => 0) (0) 12)))) := by
  refine ab_Mt.of rfl (Nat.le_of_ble_eq_true rfl) ?_
  show ab_Ev g_G g_rs mt_Rr_readAll _ _ _ 0 [some (ab_R (1)), some (ab_R (16)), none, none, none] [] _ _
  refine ev_aload_n de_Rr_readAll_0 rfl rfl ?_
  refine ev_ldcS (k := 1) de_Rr_readAll_1 (List.mem_of_getElem? (i := 1) rfl) (by decide) ?_
  refine ev_vn (ci := 8) de_Rr_readAll_3 fx_28 kb_Rr_13 ⟨im_Ta_begin, se_Ta_begin⟩ rfl rfl rfl (Nat.le_of_ble_eq_true rfl) (by decide) rfl ?_
  refine ev_aload_n de_Rr_readAll_6 rfl rfl ?_
  refine ev_vn (ci := 5) de_Rr_readAll_7 fx_30 kb_Rr_19 ⟨im_Ri_clear, se_Ri_clear⟩ rfl rfl rfl (Nat.le_of_ble_eq_true rfl) (by decide) rfl ?_
  refine ev_iconst de_Rr_readAll_10 ?_
  refine ev_istore_n (l' := [_, _, _, _, _]) de_Rr_readAll_11 rfl (Nat.le_of_ble_eq_true rfl) rfl ?_
  refine ev_iconst de_Rr_readAll_12 ?_
  refine ev_istore_n (l' := [_, _, _, _, _]) de_Rr_readAll_13 rfl (Nat.le_of_ble_eq_true rfl) rfl ?_
  refine ev_iload_n de_Rr_readAll_14 rfl rfl ?_
  refine ev_if_eq (tgt := 108) de_Rr_readAll_15 (by decide) (by decide) (fun h => absurd h (by decide)) (fun _ => ?_)
  refine ev_iload_n de_Rr_readAll_18 rfl rfl ?_
  refine ev_bipush de_Rr_readAll_19 rfl ?_
  refine ev_icmp_gt (tgt := 108) de_Rr_readAll_21 (by decide) (by decide) (by decide) (fun h => absurd h (by decide)) (fun _ => ?_)
  refine ev_aload_n de_Rr_readAll_24 rfl rfl ?_
  refine ev_getfield de_Rr_readAll_25 rfl fl_Rr_24 rfl ?_
  refine ev_istore (l' := [_, _, _, _, _]) de_Rr_readAll_28 (Nat.le_of_ble_eq_true rfl) rfl ?_
  refine ev_iload de_Rr_readAll_30 rfl ?_
  refine ev_iconst de_Rr_readAll_32 ?_
  refine ev_icmp_ne (tgt := 44) de_Rr_readAll_33 (by decide) (by decide) (by decide) (fun h => absurd h (by decide)) (fun _ => ?_)
  refine ev_aload_n de_Rr_readAll_36 rfl rfl ?_
  refine ev_iconst de_Rr_readAll_37 ?_
  refine ev_vn (ci := 8) de_Rr_readAll_38 fx_31 kb_Rr_28 ⟨im_Ta_fail, se_Ta_fail⟩ rfl rfl rfl (Nat.le_of_ble_eq_true rfl) (by decide) rfl ?_
  refine ev_goto (tgt := 79) de_Rr_readAll_41 (by decide) ?_
  refine ev_aload_n de_Rr_readAll_79 rfl rfl ?_
  refine ev_getfield de_Rr_readAll_80 rfl fl_Rr_43 rfl ?_
  refine ev_bipush de_Rr_readAll_83 rfl ?_
  refine ev_icmp_ne (tgt := 92) de_Rr_readAll_85 (by decide) (by decide) (by decide) (fun _ => ?_) (fun h => absurd h (by decide))
  refine ev_iconst de_Rr_readAll_92 ?_
  refine ev_istore_n (l' := [_, _, _, _, _]) de_Rr_readAll_93 rfl (Nat.le_of_ble_eq_true rfl) rfl ?_
  refine ev_iload_n de_Rr_readAll_94 rfl rfl ?_
  refine ev_if_eq (tgt := 102) de_Rr_readAll_95 (by decide) (by decide) (fun _ => ?_) (fun h => absurd h (by decide))
  refine ev_iinc (l' := [_, _, _, _, _]) de_Rr_readAll_102 rfl rfl ?_
  refine ev_loc (l2 := [some (ab_R (1)), some (ab_R (16)), some (ab_I (0)), some (ab_I (1)), some (ab_I ((-1)))]) rfl ?_
  refine ev_goto (tgt := 14) de_Rr_readAll_105 (by decide) ?_
  refine ev_iload_n de_Rr_readAll_14 rfl rfl ?_
  refine ev_if_eq (tgt := 108) de_Rr_readAll_15 (by decide) (by decide) (fun _ => ?_) (fun h => absurd h (by decide))
  refine ev_aload_n de_Rr_readAll_108 rfl rfl ?_
  refine ev_getfield de_Rr_readAll_109 rfl fl_Rr_43 rfl ?_
  refine ev_iconst de_Rr_readAll_112 ?_
  refine ev_icmp_eq (tgt := 121) de_Rr_readAll_113 (by decide) (by decide) (by decide) (fun _ => ?_) (fun h => absurd h (by decide))
  refine ev_aload_n de_Rr_readAll_121 rfl rfl ?_
  refine ev_aload_n de_Rr_readAll_122 rfl rfl ?_
  refine ev_getfield de_Rr_readAll_123 rfl fl_Rr_46 rfl ?_
  refine ev_if_ne (tgt := 133) de_Rr_readAll_126 (by decide) (by decide) (fun _ => ?_) (fun h => absurd h (by decide))
  refine ev_iconst de_Rr_readAll_133 ?_
  refine ev_putfield de_Rr_readAll_134 rfl (fp_Rr_49 _) (Nat.le_of_ble_eq_true rfl) (Or.inl rfl) ?_
  refine ev_world (w' := (((((fw_0.set 1 (ab_ob 8 [ab_R (2), ab_I (0), ab_I (0), ab_R (ab_sb + 1), ab_I (1), ab_I (0), ab_I ((-1)), ab_I ((-1)), ab_I ((-1))])).set 20 (ab_ai 0 35 (ab_fv (fun _ => 0) (0) 35))).set 21 (ab_al 24 (ab_fv (fun _ => 0) (Int64.ofInt 0) 24))).set 22 (ab_ai 0 24 (ab_fv (fun _ => 0) (1) 24))).set 23 (ab_ai 0 12 (ab_fv (fun _ => 0) (0) 12)))) rfl ?_
  refine ev_aload_n de_Rr_readAll_137 rfl rfl ?_
  refine ev_getfield de_Rr_readAll_138 rfl fl_Rr_46 rfl ?_
  exact ev_ireturn de_Rr_readAll_141 rfl ⟨rfl, rfl⟩
theorem de_Tu_ring_0 : decode prog_1_method_4_code 0 = .ok (.aload_n 0, 1) := by decide +kernel
theorem de_Tu_ring_1 : decode prog_1_method_4_code 1 = .ok (.getfield 10, 3) := by decide +kernel
theorem de_Tu_ring_4 : decode prog_1_method_4_code 4 = .ok (.aload_n 0, 1) := by decide +kernel
theorem de_Tu_ring_5 : decode prog_1_method_4_code 5 = .ok (.getfield 23, 3) := by decide +kernel
theorem de_Tu_ring_8 : decode prog_1_method_4_code 8 = .ok (.invokestatic 90, 3) := by decide +kernel
theorem de_Tu_ring_11 : decode prog_1_method_4_code 11 = .ok (.istore_n 1, 1) := by decide +kernel
theorem de_Tu_ring_12 : decode prog_1_method_4_code 12 = .ok (.aload_n 0, 1) := by decide +kernel
theorem de_Tu_ring_13 : decode prog_1_method_4_code 13 = .ok (.getfield 10, 3) := by decide +kernel
theorem de_Tu_ring_16 : decode prog_1_method_4_code 16 = .ok (.iconst 0, 1) := by decide +kernel
theorem de_Tu_ring_17 : decode prog_1_method_4_code 17 = .ok (.putfield 82, 3) := by decide +kernel
theorem de_Tu_ring_20 : decode prog_1_method_4_code 20 = .ok (.iload_n 1, 1) := by decide +kernel
theorem de_Tu_ring_21 : decode prog_1_method_4_code 21 = .ok (.ifCond .eq 8, 3) := by decide +kernel
theorem de_Tu_ring_24 : decode prog_1_method_4_code 24 = .ok (.bipush (-2), 2) := by decide +kernel
theorem de_Tu_ring_26 : decode prog_1_method_4_code 26 = .ok (.iload_n 1, 1) := by decide +kernel
theorem de_Tu_ring_27 : decode prog_1_method_4_code 27 = .ok (.isub, 1) := by decide +kernel
theorem de_Tu_ring_28 : decode prog_1_method_4_code 28 = .ok (.ireturn, 1) := by decide +kernel
set_option maxHeartbeats 4000000 in
set_option maxRecDepth 20000 in
theorem xx_ring_0  : ab_Mt g_G g_rs mt_Tu_ring 4 0 0 [ab_R (0)] fw_0 (ab_is (some (ab_I ((-3)))) (((((fw_0.set 1 (ab_ob 8 [ab_R (2), ab_I (0), ab_I (0), ab_R (ab_sb + 1), ab_I (1), ab_I (0), ab_I ((-1)), ab_I ((-1)), ab_I ((-1))])).set 20 (ab_ai 0 35 (ab_fv (fun _ => 0) (0) 35))).set 21 (ab_al 24 (ab_fv (fun _ => 0) (Int64.ofInt 0) 24))).set 22 (ab_ai 0 24 (ab_fv (fun _ => 0) (1) 24))).set 23 (ab_ai 0 12 (ab_fv (fun _ => 0) (0) 12)))) := by
  refine ab_Mt.of rfl (Nat.le_of_ble_eq_true rfl) ?_
  show ab_Ev g_G g_rs mt_Tu_ring _ _ _ 0 [some (ab_R (0)), none, none] [] _ _
  refine ev_aload_n de_Tu_ring_0 rfl rfl ?_
  refine ev_getfield de_Tu_ring_1 rfl fl_Tu_10 rfl ?_
  refine ev_aload_n de_Tu_ring_4 rfl rfl ?_
  refine ev_getfield de_Tu_ring_5 rfl fl_Tu_23 rfl ?_
  refine ev_sv de_Tu_ring_8 fx_27 kb_Tu_90 sc_Rr_readAll rfl (Nat.le_of_ble_eq_true rfl) (by decide) rfl ?_
  refine ev_istore_n (l' := [_, _, _]) de_Tu_ring_11 rfl (Nat.le_of_ble_eq_true rfl) rfl ?_
  refine ev_aload_n de_Tu_ring_12 rfl rfl ?_
  refine ev_getfield de_Tu_ring_13 rfl fl_Tu_10 rfl ?_
  refine ev_iconst de_Tu_ring_16 ?_
  refine ev_putfield de_Tu_ring_17 rfl (fp_Tu_82 _) (Nat.le_of_ble_eq_true rfl) trivial ?_
  refine ev_world (w' := (((((fw_0.set 1 (ab_ob 8 [ab_R (2), ab_I (0), ab_I (0), ab_R (ab_sb + 1), ab_I (1), ab_I (0), ab_I ((-1)), ab_I ((-1)), ab_I ((-1))])).set 20 (ab_ai 0 35 (ab_fv (fun _ => 0) (0) 35))).set 21 (ab_al 24 (ab_fv (fun _ => 0) (Int64.ofInt 0) 24))).set 22 (ab_ai 0 24 (ab_fv (fun _ => 0) (1) 24))).set 23 (ab_ai 0 12 (ab_fv (fun _ => 0) (0) 12)))) rfl ?_
  refine ev_iload_n de_Tu_ring_20 rfl rfl ?_
  refine ev_if_eq (tgt := 29) de_Tu_ring_21 (by decide) (by decide) (fun h => absurd h (by decide)) (fun _ => ?_)
  refine ev_bipush de_Tu_ring_24 rfl ?_
  refine ev_iload_n de_Tu_ring_26 rfl rfl ?_
  refine ev_isub de_Tu_ring_27 ?_
  refine ev_top (b := ab_I ((-3))) rfl ?_
  exact ev_ireturn de_Tu_ring_28 rfl ⟨rfl, rfl⟩
set_option maxHeartbeats 4000000 in
set_option maxRecDepth 20000 in
theorem fx_35  : ab_Mt g_G g_rs mt_Ta_advance 1 0 0 [ab_R (1)] (fw_0.set 1 (ab_ob 8 [ab_R (2), ab_I (0), ab_I (0), ab_R (ab_sb + 2), ab_I (0), ab_I (0), ab_I (0), ab_I (0), ab_I (0)])) (ab_is none (fw_0.set 1 (ab_ob 8 [ab_R (2), ab_I (0), ab_I (0), ab_R (ab_sb + 2), ab_I (0), ab_I (0), ab_I ((-1)), ab_I ((-1)), ab_I ((-1))]))) := by
  refine ab_Mt.of rfl (Nat.le_of_ble_eq_true rfl) ?_
  show ab_Ev g_G g_rs mt_Ta_advance _ _ _ 0 [some (ab_R (1))] [] _ _
  refine ev_aload_n de_Ta_advance_0 rfl rfl ?_
  refine ev_getfield de_Ta_advance_1 rfl fl_Ta_25 rfl ?_
  refine ev_aload_n de_Ta_advance_4 rfl rfl ?_
  refine ev_getfield de_Ta_advance_5 rfl fl_Ta_21 rfl ?_
  refine ev_icmp_ge (tgt := 38) de_Ta_advance_8 (by decide) (by decide) (by decide) (fun _ => ?_) (fun h => absurd h (by decide))
  refine ev_aload_n de_Ta_advance_38 rfl rfl ?_
  refine ev_aload_n de_Ta_advance_39 rfl rfl ?_
  refine ev_getfield de_Ta_advance_40 rfl fl_Ta_25 rfl ?_
  refine ev_putfield de_Ta_advance_43 rfl (fp_Ta_34 _) (Nat.le_of_ble_eq_true rfl) trivial ?_
  refine ev_world (w' := (fw_0.set 1 (ab_ob 8 [ab_R (2), ab_I (0), ab_I (0), ab_R (ab_sb + 2), ab_I (0), ab_I (0), ab_I (0), ab_I (0), ab_I (0)]))) rfl ?_
  refine ev_aload_n de_Ta_advance_46 rfl rfl ?_
  refine ev_iconst de_Ta_advance_47 ?_
  refine ev_putfield de_Ta_advance_48 rfl (fp_Ta_40 _) (Nat.le_of_ble_eq_true rfl) trivial ?_
  refine ev_world (w' := (fw_0.set 1 (ab_ob 8 [ab_R (2), ab_I (0), ab_I (0), ab_R (ab_sb + 2), ab_I (0), ab_I (0), ab_I (0), ab_I ((-1)), ab_I (0)]))) rfl ?_
  refine ev_aload_n de_Ta_advance_51 rfl rfl ?_
  refine ev_iconst de_Ta_advance_52 ?_
  refine ev_putfield de_Ta_advance_53 rfl (fp_Ta_43 _) (Nat.le_of_ble_eq_true rfl) trivial ?_
  refine ev_world (w' := (fw_0.set 1 (ab_ob 8 [ab_R (2), ab_I (0), ab_I (0), ab_R (ab_sb + 2), ab_I (0), ab_I (0), ab_I (0), ab_I ((-1)), ab_I ((-1))]))) rfl ?_
  refine ev_aload_n de_Ta_advance_56 rfl rfl ?_
  refine ev_getfield de_Ta_advance_57 rfl fl_Ta_25 rfl ?_
  refine ev_aload_n de_Ta_advance_60 rfl rfl ?_
  refine ev_getfield de_Ta_advance_61 rfl fl_Ta_21 rfl ?_
  refine ev_icmp_lt (tgt := 75) de_Ta_advance_64 (by decide) (by decide) (by decide) (fun h => absurd h (by decide)) (fun _ => ?_)
  refine ev_aload_n de_Ta_advance_67 rfl rfl ?_
  refine ev_iconst de_Ta_advance_68 ?_
  refine ev_putfield de_Ta_advance_69 rfl (fp_Ta_37 _) (Nat.le_of_ble_eq_true rfl) trivial ?_
  refine ev_world (w' := (fw_0.set 1 (ab_ob 8 [ab_R (2), ab_I (0), ab_I (0), ab_R (ab_sb + 2), ab_I (0), ab_I (0), ab_I ((-1)), ab_I ((-1)), ab_I ((-1))]))) rfl ?_
  refine ev_goto (tgt := 161) de_Ta_advance_72 (by decide) ?_
  exact ev_return de_Ta_advance_161 rfl ⟨rfl, rfl⟩
set_option maxHeartbeats 4000000 in
set_option maxRecDepth 20000 in
theorem fx_34  : ab_Mt g_G g_rs mt_Ta_begin 2 0 0 [ab_R (1), ab_R (ab_sb + 2)] fw_0 (ab_is none (fw_0.set 1 (ab_ob 8 [ab_R (2), ab_I (0), ab_I (0), ab_R (ab_sb + 2), ab_I (0), ab_I (0), ab_I ((-1)), ab_I ((-1)), ab_I ((-1))]))) := by
  refine ab_Mt.of rfl (Nat.le_of_ble_eq_true rfl) ?_
  show ab_Ev g_G g_rs mt_Ta_begin _ _ _ 0 [some (ab_R (1)), some (ab_R (ab_sb + 2))] [] _ _
  refine ev_aload_n de_Ta_begin_0 rfl rfl ?_
  refine ev_aload_n de_Ta_begin_1 rfl rfl ?_
  refine ev_putfield de_Ta_begin_2 rfl (fp_Ta_17 _) (Nat.le_of_ble_eq_true rfl) trivial ?_
  refine ev_world (w' := (fw_0.set 1 (ab_ob 8 [ab_R (2), ab_I (0), ab_I (0), ab_R (ab_sb + 2), ab_I (0), ab_I (0), ab_I (0), ab_I (0), ab_I (0)]))) rfl ?_
  refine ev_aload_n de_Ta_begin_5 rfl rfl ?_
  refine ev_iconst de_Ta_begin_6 ?_
  refine ev_putfield de_Ta_begin_7 rfl (fp_Ta_25 _) (Nat.le_of_ble_eq_true rfl) trivial ?_
  refine ev_world (w' := (fw_0.set 1 (ab_ob 8 [ab_R (2), ab_I (0), ab_I (0), ab_R (ab_sb + 2), ab_I (0), ab_I (0), ab_I (0), ab_I (0), ab_I (0)]))) rfl ?_
  refine ev_aload_n de_Ta_begin_10 rfl rfl ?_
  refine ev_iconst de_Ta_begin_11 ?_
  refine ev_putfield de_Ta_begin_12 rfl (fp_Ta_28 _) (Nat.le_of_ble_eq_true rfl) trivial ?_
  refine ev_world (w' := (fw_0.set 1 (ab_ob 8 [ab_R (2), ab_I (0), ab_I (0), ab_R (ab_sb + 2), ab_I (0), ab_I (0), ab_I (0), ab_I (0), ab_I (0)]))) rfl ?_
  refine ev_aload_n de_Ta_begin_15 rfl rfl ?_
  refine ev_vn (ci := 8) de_Ta_begin_16 fx_35 kb_Ta_31 ⟨im_Ta_advance, se_Ta_advance⟩ rfl rfl rfl (Nat.le_of_ble_eq_true rfl) (by decide) rfl ?_
  exact ev_return de_Ta_begin_19 rfl ⟨rfl, rfl⟩
set_option maxHeartbeats 4000000 in
set_option maxRecDepth 20000 in
theorem fx_36  : ab_Mt g_G g_rs mt_Ta_fail 1 0 0 [ab_R (1), ab_I (0)] (fw_0.set 1 (ab_ob 8 [ab_R (2), ab_I (0), ab_I (0), ab_R (ab_sb + 2), ab_I (0), ab_I (0), ab_I ((-1)), ab_I ((-1)), ab_I ((-1))])) (ab_is none (fw_0.set 1 (ab_ob 8 [ab_R (2), ab_I (0), ab_I (0), ab_R (ab_sb + 2), ab_I (1), ab_I (0), ab_I ((-1)), ab_I ((-1)), ab_I ((-1))]))) := by
  refine ab_Mt.of rfl (Nat.le_of_ble_eq_true rfl) ?_
  show ab_Ev g_G g_rs mt_Ta_fail _ _ _ 0 [some (ab_R (1)), some (ab_I (0))] [] _ _
  refine ev_aload_n de_Ta_fail_0 rfl rfl ?_
  refine ev_getfield de_Ta_fail_1 rfl fl_Ta_28 rfl ?_
  refine ev_if_ne (tgt := 22) de_Ta_fail_4 (by decide) (by decide) (fun h => absurd h (by decide)) (fun _ => ?_)
  refine ev_aload_n de_Ta_fail_7 rfl rfl ?_
  refine ev_iconst de_Ta_fail_8 ?_
  refine ev_bipush de_Ta_fail_9 rfl ?_
  refine ev_aload_n de_Ta_fail_11 rfl rfl ?_
  refine ev_getfield de_Ta_fail_12 rfl fl_Ta_34 rfl ?_
  refine ev_imul de_Ta_fail_15 ?_
  refine ev_top (b := ab_I (0)) rfl ?_
  refine ev_iadd de_Ta_fail_16 ?_
  refine ev_top (b := ab_I (1)) rfl ?_
  refine ev_iload_n de_Ta_fail_17 rfl rfl ?_
  refine ev_iadd de_Ta_fail_18 ?_
  refine ev_top (b := ab_I (1)) rfl ?_
  refine ev_putfield de_Ta_fail_19 rfl (fp_Ta_28 _) (Nat.le_of_ble_eq_true rfl) trivial ?_
  refine ev_world (w' := (fw_0.set 1 (ab_ob 8 [ab_R (2), ab_I (0), ab_I (0), ab_R (ab_sb + 2), ab_I (1), ab_I (0), ab_I ((-1)), ab_I ((-1)), ab_I ((-1))]))) rfl ?_
  refine ev_aload_n de_Ta_fail_22 rfl rfl ?_
  refine ev_aload_n de_Ta_fail_23 rfl rfl ?_
  refine ev_getfield de_Ta_fail_24 rfl fl_Ta_21 rfl ?_
  refine ev_putfield de_Ta_fail_27 rfl (fp_Ta_25 _) (Nat.le_of_ble_eq_true rfl) trivial ?_
  refine ev_world (w' := (fw_0.set 1 (ab_ob 8 [ab_R (2), ab_I (0), ab_I (0), ab_R (ab_sb + 2), ab_I (1), ab_I (0), ab_I ((-1)), ab_I ((-1)), ab_I ((-1))]))) rfl ?_
  refine ev_aload_n de_Ta_fail_30 rfl rfl ?_
  refine ev_iconst de_Ta_fail_31 ?_
  refine ev_putfield de_Ta_fail_32 rfl (fp_Ta_37 _) (Nat.le_of_ble_eq_true rfl) trivial ?_
  refine ev_world (w' := (fw_0.set 1 (ab_ob 8 [ab_R (2), ab_I (0), ab_I (0), ab_R (ab_sb + 2), ab_I (1), ab_I (0), ab_I ((-1)), ab_I ((-1)), ab_I ((-1))]))) rfl ?_
  refine ev_aload_n de_Ta_fail_35 rfl rfl ?_
  refine ev_iconst de_Ta_fail_36 ?_
  refine ev_putfield de_Ta_fail_37 rfl (fp_Ta_40 _) (Nat.le_of_ble_eq_true rfl) trivial ?_
  refine ev_world (w' := (fw_0.set 1 (ab_ob 8 [ab_R (2), ab_I (0), ab_I (0), ab_R (ab_sb + 2), ab_I (1), ab_I (0), ab_I ((-1)), ab_I ((-1)), ab_I ((-1))]))) rfl ?_
  refine ev_aload_n de_Ta_fail_40 rfl rfl ?_
  refine ev_iconst de_Ta_fail_41 ?_
  refine ev_putfield de_Ta_fail_42 rfl (fp_Ta_43 _) (Nat.le_of_ble_eq_true rfl) trivial ?_
  refine ev_world (w' := (fw_0.set 1 (ab_ob 8 [ab_R (2), ab_I (0), ab_I (0), ab_R (ab_sb + 2), ab_I (1), ab_I (0), ab_I ((-1)), ab_I ((-1)), ab_I ((-1))]))) rfl ?_
  exact ev_return de_Ta_fail_45 rfl ⟨rfl, rfl⟩
set_option maxHeartbeats 4000000 in
set_option maxRecDepth 20000 in
theorem fx_37  : ab_Mt g_G g_rs mt_Ta_advance 1 0 0 [ab_R (1)] (fw_0.set 1 (ab_ob 8 [ab_R (2), ab_I (0), ab_I (0), ab_R (ab_sb + 2), ab_I (1), ab_I (0), ab_I ((-1)), ab_I ((-1)), ab_I ((-1))])) (ab_is none (fw_0.set 1 (ab_ob 8 [ab_R (2), ab_I (0), ab_I (0), ab_R (ab_sb + 2), ab_I (1), ab_I (0), ab_I ((-1)), ab_I ((-1)), ab_I ((-1))]))) := by
  refine ab_Mt.of rfl (Nat.le_of_ble_eq_true rfl) ?_
  show ab_Ev g_G g_rs mt_Ta_advance _ _ _ 0 [some (ab_R (1))] [] _ _
  refine ev_aload_n de_Ta_advance_0 rfl rfl ?_
  refine ev_getfield de_Ta_advance_1 rfl fl_Ta_25 rfl ?_
  refine ev_aload_n de_Ta_advance_4 rfl rfl ?_
  refine ev_getfield de_Ta_advance_5 rfl fl_Ta_21 rfl ?_
  refine ev_icmp_ge (tgt := 38) de_Ta_advance_8 (by decide) (by decide) (by decide) (fun _ => ?_) (fun h => absurd h (by decide))
  refine ev_aload_n de_Ta_advance_38 rfl rfl ?_
  refine ev_aload_n de_Ta_advance_39 rfl rfl ?_
  refine ev_getfield de_Ta_advance_40 rfl fl_Ta_25 rfl ?_
  refine ev_putfield de_Ta_advance_43 rfl (fp_Ta_34 _) (Nat.le_of_ble_eq_true rfl) trivial ?_
  refine ev_world (w' := (fw_0.set 1 (ab_ob 8 [ab_R (2), ab_I (0), ab_I (0), ab_R (ab_sb + 2), ab_I (1), ab_I (0), ab_I ((-1)), ab_I ((-1)), ab_I ((-1))]))) rfl ?_
  refine ev_aload_n de_Ta_advance_46 rfl rfl ?_
  refine ev_iconst de_Ta_advance_47 ?_
  refine ev_putfield de_Ta_advance_48 rfl (fp_Ta_40 _) (Nat.le_of_ble_eq_true rfl) trivial ?_
  refine ev_world (w' := (fw_0.set 1 (ab_ob 8 [ab_R (2), ab_I (0), ab_I (0), ab_R (ab_sb + 2), ab_I (1), ab_I (0), ab_I ((-1)), ab_I ((-1)), ab_I ((-1))]))) rfl ?_
  refine ev_aload_n de_Ta_advance_51 rfl rfl ?_
  refine ev_iconst de_Ta_advance_52 ?_
  refine ev_putfield de_Ta_advance_53 rfl (fp_Ta_43 _) (Nat.le_of_ble_eq_true rfl) trivial ?_
  refine ev_world (w' := (fw_0.set 1 (ab_ob 8 [ab_R (2), ab_I (0), ab_I (0), ab_R (ab_sb + 2), ab_I (1), ab_I (0), ab_I ((-1)), ab_I ((-1)), ab_I ((-1))]))) rfl ?_
  refine ev_aload_n de_Ta_advance_56 rfl rfl ?_
  refine ev_getfield de_Ta_advance_57 rfl fl_Ta_25 rfl ?_
  refine ev_aload_n de_Ta_advance_60 rfl rfl ?_
  refine ev_getfield de_Ta_advance_61 rfl fl_Ta_21 rfl ?_
  refine ev_icmp_lt (tgt := 75) de_Ta_advance_64 (by decide) (by decide) (by decide) (fun h => absurd h (by decide)) (fun _ => ?_)
  refine ev_aload_n de_Ta_advance_67 rfl rfl ?_
  refine ev_iconst de_Ta_advance_68 ?_
  refine ev_putfield de_Ta_advance_69 rfl (fp_Ta_37 _) (Nat.le_of_ble_eq_true rfl) trivial ?_
  refine ev_world (w' := (fw_0.set 1 (ab_ob 8 [ab_R (2), ab_I (0), ab_I (0), ab_R (ab_sb + 2), ab_I (1), ab_I (0), ab_I ((-1)), ab_I ((-1)), ab_I ((-1))]))) rfl ?_
  refine ev_goto (tgt := 161) de_Ta_advance_72 (by decide) ?_
  exact ev_return de_Ta_advance_161 rfl ⟨rfl, rfl⟩
set_option maxHeartbeats 4000000 in
set_option maxRecDepth 20000 in
theorem fx_40  : ab_Mt g_G g_rs mt_Ta_fail 1 0 0 [ab_R (1), ab_I (0)] (fw_0.set 1 (ab_ob 8 [ab_R (2), ab_I (0), ab_I (0), ab_R (ab_sb + 2), ab_I (1), ab_I (0), ab_I ((-1)), ab_I ((-1)), ab_I ((-1))])) (ab_is none (fw_0.set 1 (ab_ob 8 [ab_R (2), ab_I (0), ab_I (0), ab_R (ab_sb + 2), ab_I (1), ab_I (0), ab_I ((-1)), ab_I ((-1)), ab_I ((-1))]))) := by
  refine ab_Mt.of rfl (Nat.le_of_ble_eq_true rfl) ?_
  show ab_Ev g_G g_rs mt_Ta_fail _ _ _ 0 [some (ab_R (1)), some (ab_I (0))] [] _ _
  refine ev_aload_n de_Ta_fail_0 rfl rfl ?_
  refine ev_getfield de_Ta_fail_1 rfl fl_Ta_28 rfl ?_
  refine ev_if_ne (tgt := 22) de_Ta_fail_4 (by decide) (by decide) (fun _ => ?_) (fun h => absurd h (by decide))
  refine ev_aload_n de_Ta_fail_22 rfl rfl ?_
  refine ev_aload_n de_Ta_fail_23 rfl rfl ?_
  refine ev_getfield de_Ta_fail_24 rfl fl_Ta_21 rfl ?_
  refine ev_putfield de_Ta_fail_27 rfl (fp_Ta_25 _) (Nat.le_of_ble_eq_true rfl) trivial ?_
  refine ev_world (w' := (fw_0.set 1 (ab_ob 8 [ab_R (2), ab_I (0), ab_I (0), ab_R (ab_sb + 2), ab_I (1), ab_I (0), ab_I ((-1)), ab_I ((-1)), ab_I ((-1))]))) rfl ?_
  refine ev_aload_n de_Ta_fail_30 rfl rfl ?_
  refine ev_iconst de_Ta_fail_31 ?_
  refine ev_putfield de_Ta_fail_32 rfl (fp_Ta_37 _) (Nat.le_of_ble_eq_true rfl) trivial ?_
  refine ev_world (w' := (fw_0.set 1 (ab_ob 8 [ab_R (2), ab_I (0), ab_I (0), ab_R (ab_sb + 2), ab_I (1), ab_I (0), ab_I ((-1)), ab_I ((-1)), ab_I ((-1))]))) rfl ?_
  refine ev_aload_n de_Ta_fail_35 rfl rfl ?_
  refine ev_iconst de_Ta_fail_36 ?_
  refine ev_putfield de_Ta_fail_37 rfl (fp_Ta_40 _) (Nat.le_of_ble_eq_true rfl) trivial ?_
  refine ev_world (w' := (fw_0.set 1 (ab_ob 8 [ab_R (2), ab_I (0), ab_I (0), ab_R (ab_sb + 2), ab_I (1), ab_I (0), ab_I ((-1)), ab_I ((-1)), ab_I ((-1))]))) rfl ?_
  refine ev_aload_n de_Ta_fail_40 rfl rfl ?_
  refine ev_iconst de_Ta_fail_41 ?_
  refine ev_putfield de_Ta_fail_42 rfl (fp_Ta_43 _) (Nat.le_of_ble_eq_true rfl) trivial ?_
  refine ev_world (w' := (fw_0.set 1 (ab_ob 8 [ab_R (2), ab_I (0), ab_I (0), ab_R (ab_sb + 2), ab_I (1), ab_I (0), ab_I ((-1)), ab_I ((-1)), ab_I ((-1))]))) rfl ?_
  exact ev_return de_Ta_fail_45 rfl ⟨rfl, rfl⟩
theorem de_Ru_countToken_0 : decode prog_10_method_5_code 0 = .ok (.aload_n 0, 1) := by decide +kernel
theorem de_Ru_countToken_1 : decode prog_10_method_5_code 1 = .ok (.getfield 27, 3) := by decide +kernel
theorem de_Ru_countToken_4 : decode prog_10_method_5_code 4 = .ok (.bipush 60, 2) := by decide +kernel
theorem de_Ru_countToken_6 : decode prog_10_method_5_code 6 = .ok (.if_icmp .lt 8, 3) := by decide +kernel
theorem de_Ru_countToken_14 : decode prog_10_method_5_code 14 = .ok (.aload_n 0, 1) := by decide +kernel
theorem de_Ru_countToken_15 : decode prog_10_method_5_code 15 = .ok (.dup, 1) := by decide +kernel
theorem de_Ru_countToken_16 : decode prog_10_method_5_code 16 = .ok (.getfield 27, 3) := by decide +kernel
theorem de_Ru_countToken_19 : decode prog_10_method_5_code 19 = .ok (.iconst 1, 1) := by decide +kernel
theorem de_Ru_countToken_20 : decode prog_10_method_5_code 20 = .ok (.iadd, 1) := by decide +kernel
theorem de_Ru_countToken_21 : decode prog_10_method_5_code 21 = .ok (.putfield 27, 3) := by decide +kernel
theorem de_Ru_countToken_24 : decode prog_10_method_5_code 24 = .ok (.return_, 1) := by decide +kernel
set_option maxHeartbeats 4000000 in
set_option maxRecDepth 20000 in
theorem fx_41  : ab_Mt g_G g_rs mt_Ru_countToken 1 0 0 [ab_R (36), ab_R (1)] (fw_0.set 1 (ab_ob 8 [ab_R (2), ab_I (0), ab_I (0), ab_R (ab_sb + 2), ab_I (1), ab_I (0), ab_I ((-1)), ab_I ((-1)), ab_I ((-1))])) (ab_is none ((fw_0.set 1 (ab_ob 8 [ab_R (2), ab_I (0), ab_I (0), ab_R (ab_sb + 2), ab_I (1), ab_I (0), ab_I ((-1)), ab_I ((-1)), ab_I ((-1))])).set 36 (ab_ob 7 [ab_R (37), ab_I (0), ab_I (1)]))) := by
  refine ab_Mt.of rfl (Nat.le_of_ble_eq_true rfl) ?_
  show ab_Ev g_G g_rs mt_Ru_countToken _ _ _ 0 [some (ab_R (36)), some (ab_R (1))] [] _ _
  refine ev_aload_n de_Ru_countToken_0 rfl rfl ?_
  refine ev_getfield de_Ru_countToken_1 rfl fl_Ru_27 rfl ?_
  refine ev_bipush de_Ru_countToken_4 rfl ?_
  refine ev_icmp_lt (tgt := 14) de_Ru_countToken_6 (by decide) (by decide) (by decide) (fun _ => ?_) (fun h => absurd h (by decide))
  refine ev_aload_n de_Ru_countToken_14 rfl rfl ?_
  refine ev_dup de_Ru_countToken_15 rfl ?_
  refine ev_getfield de_Ru_countToken_16 rfl fl_Ru_27 rfl ?_
  refine ev_iconst de_Ru_countToken_19 ?_
  refine ev_iadd de_Ru_countToken_20 ?_
  refine ev_top (b := ab_I (1)) rfl ?_
  refine ev_putfield de_Ru_countToken_21 rfl (fp_Ru_27 _) (Nat.le_of_ble_eq_true rfl) trivial ?_
  refine ev_world (w' := ((fw_0.set 1 (ab_ob 8 [ab_R (2), ab_I (0), ab_I (0), ab_R (ab_sb + 2), ab_I (1), ab_I (0), ab_I ((-1)), ab_I ((-1)), ab_I ((-1))])).set 36 (ab_ob 7 [ab_R (37), ab_I (0), ab_I (1)]))) rfl ?_
  exact ev_return de_Ru_countToken_24 rfl ⟨rfl, rfl⟩
theorem de_Ru_checkValue_0 : decode prog_10_method_9_code 0 = .ok (.aload_n 1, 1) := by decide +kernel
theorem de_Ru_checkValue_1 : decode prog_10_method_9_code 1 = .ok (.getfield 30, 3) := by decide +kernel
theorem de_Ru_checkValue_4 : decode prog_10_method_9_code 4 = .ok (.iconst (-1), 1) := by decide +kernel
theorem de_Ru_checkValue_5 : decode prog_10_method_9_code 5 = .ok (.if_icmp .eq 16, 3) := by decide +kernel
theorem de_Ru_checkValue_21 : decode prog_10_method_9_code 21 = .ok (.iconst 0, 1) := by decide +kernel
theorem de_Ru_checkValue_22 : decode prog_10_method_9_code 22 = .ok (.istore_n 2, 1) := by decide +kernel
theorem de_Ru_checkValue_23 : decode prog_10_method_9_code 23 = .ok (.iload_n 2, 1) := by decide +kernel
theorem de_Ru_checkValue_24 : decode prog_10_method_9_code 24 = .ok (.ifCond .ne 20, 3) := by decide +kernel
theorem de_Ru_checkValue_27 : decode prog_10_method_9_code 27 = .ok (.aload_n 1, 1) := by decide +kernel
theorem de_Ru_checkValue_28 : decode prog_10_method_9_code 28 = .ok (.getfield 53, 3) := by decide +kernel
theorem de_Ru_checkValue_31 : decode prog_10_method_9_code 31 = .ok (.bipush (-2), 2) := by decide +kernel
theorem de_Ru_checkValue_33 : decode prog_10_method_9_code 33 = .ok (.if_icmp .eq 11, 3) := by decide +kernel
theorem de_Ru_checkValue_36 : decode prog_10_method_9_code 36 = .ok (.aload_n 1, 1) := by decide +kernel
theorem de_Ru_checkValue_37 : decode prog_10_method_9_code 37 = .ok (.iconst 0, 1) := by decide +kernel
theorem de_Ru_checkValue_38 : decode prog_10_method_9_code 38 = .ok (.invokevirtual 33, 3) := by decide +kernel
theorem de_Ru_checkValue_41 : decode prog_10_method_9_code 41 = .ok (.goto 20, 3) := by decide +kernel
theorem de_Ru_checkValue_61 : decode prog_10_method_9_code 61 = .ok (.aload_n 0, 1) := by decide +kernel
theorem de_Ru_checkValue_62 : decode prog_10_method_9_code 62 = .ok (.aload_n 1, 1) := by decide +kernel
theorem de_Ru_checkValue_63 : decode prog_10_method_9_code 63 = .ok (.invokevirtual 72, 3) := by decide +kernel
theorem de_Ru_checkValue_66 : decode prog_10_method_9_code 66 = .ok (.return_, 1) := by decide +kernel
set_option maxHeartbeats 4000000 in
set_option maxRecDepth 20000 in
theorem fx_39  : ab_Mt g_G g_rs mt_Ru_checkValue 2 0 0 [ab_R (36), ab_R (1)] (fw_0.set 1 (ab_ob 8 [ab_R (2), ab_I (0), ab_I (0), ab_R (ab_sb + 2), ab_I (1), ab_I (0), ab_I ((-1)), ab_I ((-1)), ab_I ((-1))])) (ab_is none ((fw_0.set 1 (ab_ob 8 [ab_R (2), ab_I (0), ab_I (0), ab_R (ab_sb + 2), ab_I (1), ab_I (0), ab_I ((-1)), ab_I ((-1)), ab_I ((-1))])).set 36 (ab_ob 7 [ab_R (37), ab_I (0), ab_I (1)]))) := by
  refine ab_Mt.of rfl (Nat.le_of_ble_eq_true rfl) ?_
  show ab_Ev g_G g_rs mt_Ru_checkValue _ _ _ 0 [some (ab_R (36)), some (ab_R (1)), none] [] _ _
  refine ev_aload_n de_Ru_checkValue_0 rfl rfl ?_
  refine ev_getfield de_Ru_checkValue_1 rfl fl_Ru_30 rfl ?_
  refine ev_iconst de_Ru_checkValue_4 ?_
  refine ev_icmp_eq (tgt := 21) de_Ru_checkValue_5 (by decide) (by decide) (by decide) (fun _ => ?_) (fun h => absurd h (by decide))
  refine ev_iconst de_Ru_checkValue_21 ?_
  refine ev_istore_n (l' := [_, _, _]) de_Ru_checkValue_22 rfl (Nat.le_of_ble_eq_true rfl) rfl ?_
  refine ev_iload_n de_Ru_checkValue_23 rfl rfl ?_
  refine ev_if_ne (tgt := 44) de_Ru_checkValue_24 (by decide) (by decide) (fun h => absurd h (by decide)) (fun _ => ?_)
  refine ev_aload_n de_Ru_checkValue_27 rfl rfl ?_
  refine ev_getfield de_Ru_checkValue_28 rfl fl_Ru_53 rfl ?_
  refine ev_bipush de_Ru_checkValue_31 rfl ?_
  refine ev_icmp_eq (tgt := 44) de_Ru_checkValue_33 (by decide) (by decide) (by decide) (fun h => absurd h (by decide)) (fun _ => ?_)
  refine ev_aload_n de_Ru_checkValue_36 rfl rfl ?_
  refine ev_iconst de_Ru_checkValue_37 ?_
  refine ev_vn (ci := 8) de_Ru_checkValue_38 fx_40 kb_Ru_33 ⟨im_Ta_fail, se_Ta_fail⟩ rfl rfl rfl (Nat.le_of_ble_eq_true rfl) (by decide) rfl ?_
  refine ev_goto (tgt := 61) de_Ru_checkValue_41 (by decide) ?_
  refine ev_aload_n de_Ru_checkValue_61 rfl rfl ?_
  refine ev_aload_n de_Ru_checkValue_62 rfl rfl ?_
  refine ev_vn (ci := 7) de_Ru_checkValue_63 fx_41 kb_Ru_72 ⟨im_Ru_countToken, se_Ru_countToken⟩ rfl rfl rfl (Nat.le_of_ble_eq_true rfl) (by decide) rfl ?_
  exact ev_return de_Ru_checkValue_66 rfl ⟨rfl, rfl⟩
theorem de_Ru_emit_0 : decode prog_10_method_4_code 0 = .ok (.aload_n 0, 1) := by decide +kernel
theorem de_Ru_emit_1 : decode prog_10_method_4_code 1 = .ok (.getfield 23, 3) := by decide +kernel
theorem de_Ru_emit_4 : decode prog_10_method_4_code 4 = .ok (.aload_n 0, 1) := by decide +kernel
theorem de_Ru_emit_5 : decode prog_10_method_4_code 5 = .ok (.getfield 9, 3) := by decide +kernel
theorem de_Ru_emit_8 : decode prog_10_method_4_code 8 = .ok (.arraylength, 1) := by decide +kernel
theorem de_Ru_emit_9 : decode prog_10_method_4_code 9 = .ok (.if_icmp .ge 23, 3) := by decide +kernel
theorem de_Ru_emit_12 : decode prog_10_method_4_code 12 = .ok (.aload_n 0, 1) := by decide +kernel
theorem de_Ru_emit_13 : decode prog_10_method_4_code 13 = .ok (.getfield 9, 3) := by decide +kernel
theorem de_Ru_emit_16 : decode prog_10_method_4_code 16 = .ok (.aload_n 0, 1) := by decide +kernel
theorem de_Ru_emit_17 : decode prog_10_method_4_code 17 = .ok (.getfield 23, 3) := by decide +kernel
theorem de_Ru_emit_20 : decode prog_10_method_4_code 20 = .ok (.iload_n 1, 1) := by decide +kernel
theorem de_Ru_emit_21 : decode prog_10_method_4_code 21 = .ok (.iastore, 1) := by decide +kernel
theorem de_Ru_emit_22 : decode prog_10_method_4_code 22 = .ok (.aload_n 0, 1) := by decide +kernel
theorem de_Ru_emit_23 : decode prog_10_method_4_code 23 = .ok (.dup, 1) := by decide +kernel
theorem de_Ru_emit_24 : decode prog_10_method_4_code 24 = .ok (.getfield 23, 3) := by decide +kernel
theorem de_Ru_emit_27 : decode prog_10_method_4_code 27 = .ok (.iconst 1, 1) := by decide +kernel
theorem de_Ru_emit_28 : decode prog_10_method_4_code 28 = .ok (.iadd, 1) := by decide +kernel
theorem de_Ru_emit_29 : decode prog_10_method_4_code 29 = .ok (.putfield 23, 3) := by decide +kernel
theorem de_Ru_emit_32 : decode prog_10_method_4_code 32 = .ok (.return_, 1) := by decide +kernel
set_option maxHeartbeats 4000000 in
set_option maxRecDepth 20000 in
theorem fx_42  : ab_Mt g_G g_rs mt_Ru_emit 1 0 0 [ab_R (36), ab_I ((-1))] ((fw_0.set 1 (ab_ob 8 [ab_R (2), ab_I (0), ab_I (0), ab_R (ab_sb + 2), ab_I (1), ab_I (0), ab_I ((-1)), ab_I ((-1)), ab_I ((-1))])).set 36 (ab_ob 7 [ab_R (37), ab_I (0), ab_I (1)])) (ab_is none (((fw_0.set 1 (ab_ob 8 [ab_R (2), ab_I (0), ab_I (0), ab_R (ab_sb + 2), ab_I (1), ab_I (0), ab_I ((-1)), ab_I ((-1)), ab_I ((-1))])).set 36 (ab_ob 7 [ab_R (37), ab_I (1), ab_I (1)])).set 37 (ab_ai 0 400 (ab_up (fun _ => 0) (0) ((-1)))))) := by
  refine ab_Mt.of rfl (Nat.le_of_ble_eq_true rfl) ?_
  show ab_Ev g_G g_rs mt_Ru_emit _ _ _ 0 [some (ab_R (36)), some (ab_I ((-1)))] [] _ _
  refine ev_aload_n de_Ru_emit_0 rfl rfl ?_
  refine ev_getfield de_Ru_emit_1 rfl fl_Ru_23 rfl ?_
  refine ev_aload_n de_Ru_emit_4 rfl rfl ?_
  refine ev_getfield de_Ru_emit_5 rfl fl_Ru_9 rfl ?_
  refine ev_alen (n := 400) (t := 0) de_Ru_emit_8 rfl (Or.inl ⟨_, _, by decide, rfl⟩) ?_
  refine ev_top (b := ab_I (400)) rfl ?_
  refine ev_icmp_ge (tgt := 32) de_Ru_emit_9 (by decide) (by decide) (by decide) (fun h => absurd h (by decide)) (fun _ => ?_)
  refine ev_aload_n de_Ru_emit_12 rfl rfl ?_
  refine ev_getfield de_Ru_emit_13 rfl fl_Ru_9 rfl ?_
  refine ev_aload_n de_Ru_emit_16 rfl rfl ?_
  refine ev_getfield de_Ru_emit_17 rfl fl_Ru_23 rfl ?_
  refine ev_iload_n de_Ru_emit_20 rfl rfl ?_
  refine ev_iastore de_Ru_emit_21 rfl (by decide) (by decide) (by decide) ?_
  refine ev_world (w' := (((fw_0.set 1 (ab_ob 8 [ab_R (2), ab_I (0), ab_I (0), ab_R (ab_sb + 2), ab_I (1), ab_I (0), ab_I ((-1)), ab_I ((-1)), ab_I ((-1))])).set 36 (ab_ob 7 [ab_R (37), ab_I (0), ab_I (1)])).set 37 (ab_ai 0 400 (ab_up (fun _ => 0) (0) ((-1)))))) rfl ?_
  refine ev_aload_n de_Ru_emit_22 rfl rfl ?_
  refine ev_dup de_Ru_emit_23 rfl ?_
  refine ev_getfield de_Ru_emit_24 rfl fl_Ru_23 rfl ?_
  refine ev_iconst de_Ru_emit_27 ?_
  refine ev_iadd de_Ru_emit_28 ?_
  refine ev_top (b := ab_I (1)) rfl ?_
  refine ev_putfield de_Ru_emit_29 rfl (fp_Ru_23 _) (Nat.le_of_ble_eq_true rfl) trivial ?_
  refine ev_world (w' := (((fw_0.set 1 (ab_ob 8 [ab_R (2), ab_I (0), ab_I (0), ab_R (ab_sb + 2), ab_I (1), ab_I (0), ab_I ((-1)), ab_I ((-1)), ab_I ((-1))])).set 36 (ab_ob 7 [ab_R (37), ab_I (1), ab_I (1)])).set 37 (ab_ai 0 400 (ab_up (fun _ => 0) (0) ((-1)))))) rfl ?_
  exact ev_return de_Ru_emit_32 rfl ⟨rfl, rfl⟩
set_option maxHeartbeats 4000000 in
set_option maxRecDepth 20000 in
theorem fx_43  : ab_Mt g_G g_rs mt_Ta_advance 1 0 0 [ab_R (1)] (((fw_0.set 1 (ab_ob 8 [ab_R (2), ab_I (0), ab_I (0), ab_R (ab_sb + 2), ab_I (1), ab_I (0), ab_I ((-1)), ab_I ((-1)), ab_I ((-1))])).set 36 (ab_ob 7 [ab_R (37), ab_I (1), ab_I (1)])).set 37 (ab_ai 0 400 (ab_up (fun _ => 0) (0) ((-1))))) (ab_is none (((fw_0.set 1 (ab_ob 8 [ab_R (2), ab_I (0), ab_I (0), ab_R (ab_sb + 2), ab_I (1), ab_I (0), ab_I ((-1)), ab_I ((-1)), ab_I ((-1))])).set 36 (ab_ob 7 [ab_R (37), ab_I (1), ab_I (1)])).set 37 (ab_ai 0 400 (ab_up (fun _ => 0) (0) ((-1)))))) := by
  refine ab_Mt.of rfl (Nat.le_of_ble_eq_true rfl) ?_
  show ab_Ev g_G g_rs mt_Ta_advance _ _ _ 0 [some (ab_R (1))] [] _ _
  refine ev_aload_n de_Ta_advance_0 rfl rfl ?_
  refine ev_getfield de_Ta_advance_1 rfl fl_Ta_25 rfl ?_
  refine ev_aload_n de_Ta_advance_4 rfl rfl ?_
  refine ev_getfield de_Ta_advance_5 rfl fl_Ta_21 rfl ?_
  refine ev_icmp_ge (tgt := 38) de_Ta_advance_8 (by decide) (by decide) (by decide) (fun _ => ?_) (fun h => absurd h (by decide))
  refine ev_aload_n de_Ta_advance_38 rfl rfl ?_
  refine ev_aload_n de_Ta_advance_39 rfl rfl ?_
  refine ev_getfield de_Ta_advance_40 rfl fl_Ta_25 rfl ?_
  refine ev_putfield de_Ta_advance_43 rfl (fp_Ta_34 _) (Nat.le_of_ble_eq_true rfl) trivial ?_
  refine ev_world (w' := (((fw_0.set 1 (ab_ob 8 [ab_R (2), ab_I (0), ab_I (0), ab_R (ab_sb + 2), ab_I (1), ab_I (0), ab_I ((-1)), ab_I ((-1)), ab_I ((-1))])).set 36 (ab_ob 7 [ab_R (37), ab_I (1), ab_I (1)])).set 37 (ab_ai 0 400 (ab_up (fun _ => 0) (0) ((-1)))))) rfl ?_
  refine ev_aload_n de_Ta_advance_46 rfl rfl ?_
  refine ev_iconst de_Ta_advance_47 ?_
  refine ev_putfield de_Ta_advance_48 rfl (fp_Ta_40 _) (Nat.le_of_ble_eq_true rfl) trivial ?_
  refine ev_world (w' := (((fw_0.set 1 (ab_ob 8 [ab_R (2), ab_I (0), ab_I (0), ab_R (ab_sb + 2), ab_I (1), ab_I (0), ab_I ((-1)), ab_I ((-1)), ab_I ((-1))])).set 36 (ab_ob 7 [ab_R (37), ab_I (1), ab_I (1)])).set 37 (ab_ai 0 400 (ab_up (fun _ => 0) (0) ((-1)))))) rfl ?_
  refine ev_aload_n de_Ta_advance_51 rfl rfl ?_
  refine ev_iconst de_Ta_advance_52 ?_
  refine ev_putfield de_Ta_advance_53 rfl (fp_Ta_43 _) (Nat.le_of_ble_eq_true rfl) trivial ?_
  refine ev_world (w' := (((fw_0.set 1 (ab_ob 8 [ab_R (2), ab_I (0), ab_I (0), ab_R (ab_sb + 2), ab_I (1), ab_I (0), ab_I ((-1)), ab_I ((-1)), ab_I ((-1))])).set 36 (ab_ob 7 [ab_R (37), ab_I (1), ab_I (1)])).set 37 (ab_ai 0 400 (ab_up (fun _ => 0) (0) ((-1)))))) rfl ?_
  refine ev_aload_n de_Ta_advance_56 rfl rfl ?_
  refine ev_getfield de_Ta_advance_57 rfl fl_Ta_25 rfl ?_
  refine ev_aload_n de_Ta_advance_60 rfl rfl ?_
  refine ev_getfield de_Ta_advance_61 rfl fl_Ta_21 rfl ?_
  refine ev_icmp_lt (tgt := 75) de_Ta_advance_64 (by decide) (by decide) (by decide) (fun h => absurd h (by decide)) (fun _ => ?_)
  refine ev_aload_n de_Ta_advance_67 rfl rfl ?_
  refine ev_iconst de_Ta_advance_68 ?_
  refine ev_putfield de_Ta_advance_69 rfl (fp_Ta_37 _) (Nat.le_of_ble_eq_true rfl) trivial ?_
  refine ev_world (w' := (((fw_0.set 1 (ab_ob 8 [ab_R (2), ab_I (0), ab_I (0), ab_R (ab_sb + 2), ab_I (1), ab_I (0), ab_I ((-1)), ab_I ((-1)), ab_I ((-1))])).set 36 (ab_ob 7 [ab_R (37), ab_I (1), ab_I (1)])).set 37 (ab_ai 0 400 (ab_up (fun _ => 0) (0) ((-1)))))) rfl ?_
  refine ev_goto (tgt := 161) de_Ta_advance_72 (by decide) ?_
  exact ev_return de_Ta_advance_161 rfl ⟨rfl, rfl⟩
theorem de_Ru_timingOf_0 : decode prog_10_method_11_code 0 = .ok (.iload_n 0, 1) := by decide +kernel
theorem de_Ru_timingOf_1 : decode prog_10_method_11_code 1 = .ok (.lookupswitch 44 #[(37, 41), (42, 35), (47, 38)], 35) := by decide +kernel
theorem de_Ru_timingOf_45 : decode prog_10_method_11_code 45 = .ok (.iconst 0, 1) := by decide +kernel
theorem de_Ru_timingOf_46 : decode prog_10_method_11_code 46 = .ok (.ireturn, 1) := by decide +kernel
set_option maxHeartbeats 4000000 in
set_option maxRecDepth 20000 in
theorem fx_44  : ab_Mt g_G g_rs mt_Ru_timingOf 1 0 0 [ab_I ((-1))] (((fw_0.set 1 (ab_ob 8 [ab_R (2), ab_I (0), ab_I (0), ab_R (ab_sb + 2), ab_I (1), ab_I (0), ab_I ((-1)), ab_I ((-1)), ab_I ((-1))])).set 36 (ab_ob 7 [ab_R (37), ab_I (1), ab_I (1)])).set 37 (ab_ai 0 400 (ab_up (fun _ => 0) (0) ((-1))))) (ab_is (some (ab_I (0))) (((fw_0.set 1 (ab_ob 8 [ab_R (2), ab_I (0), ab_I (0), ab_R (ab_sb + 2), ab_I (1), ab_I (0), ab_I ((-1)), ab_I ((-1)), ab_I ((-1))])).set 36 (ab_ob 7 [ab_R (37), ab_I (1), ab_I (1)])).set 37 (ab_ai 0 400 (ab_up (fun _ => 0) (0) ((-1)))))) := by
  refine ab_Mt.of rfl (Nat.le_of_ble_eq_true rfl) ?_
  show ab_Ev g_G g_rs mt_Ru_timingOf _ _ _ 0 [some (ab_I ((-1)))] [] _ _
  refine ev_iload_n de_Ru_timingOf_0 rfl rfl ?_
  refine ev_lookup (off := 44) (tgt := 45) de_Ru_timingOf_1 (by decide) (by decide) (by decide) (by decide) ?_
  refine ev_iconst de_Ru_timingOf_45 ?_
  exact ev_ireturn de_Ru_timingOf_46 rfl ⟨rfl, rfl⟩
theorem de_Ru_addingOf_0 : decode prog_10_method_10_code 0 = .ok (.iload_n 0, 1) := by decide +kernel
theorem de_Ru_addingOf_1 : decode prog_10_method_10_code 1 = .ok (.lookupswitch 33 #[(43, 27), (45, 30)], 27) := by decide +kernel
theorem de_Ru_addingOf_34 : decode prog_10_method_10_code 34 = .ok (.iconst 0, 1) := by decide +kernel
theorem de_Ru_addingOf_35 : decode prog_10_method_10_code 35 = .ok (.ireturn, 1) := by decide +kernel
set_option maxHeartbeats 4000000 in
set_option maxRecDepth 20000 in
theorem fx_45  : ab_Mt g_G g_rs mt_Ru_addingOf 1 0 0 [ab_I ((-1))] (((fw_0.set 1 (ab_ob 8 [ab_R (2), ab_I (0), ab_I (0), ab_R (ab_sb + 2), ab_I (1), ab_I (0), ab_I ((-1)), ab_I ((-1)), ab_I ((-1))])).set 36 (ab_ob 7 [ab_R (37), ab_I (1), ab_I (1)])).set 37 (ab_ai 0 400 (ab_up (fun _ => 0) (0) ((-1))))) (ab_is (some (ab_I (0))) (((fw_0.set 1 (ab_ob 8 [ab_R (2), ab_I (0), ab_I (0), ab_R (ab_sb + 2), ab_I (1), ab_I (0), ab_I ((-1)), ab_I ((-1)), ab_I ((-1))])).set 36 (ab_ob 7 [ab_R (37), ab_I (1), ab_I (1)])).set 37 (ab_ai 0 400 (ab_up (fun _ => 0) (0) ((-1)))))) := by
  refine ab_Mt.of rfl (Nat.le_of_ble_eq_true rfl) ?_
  show ab_Ev g_G g_rs mt_Ru_addingOf _ _ _ 0 [some (ab_I ((-1)))] [] _ _
  refine ev_iload_n de_Ru_addingOf_0 rfl rfl ?_
  refine ev_lookup (off := 33) (tgt := 34) de_Ru_addingOf_1 (by decide) (by decide) (by decide) (by decide) ?_
  refine ev_iconst de_Ru_addingOf_34 ?_
  exact ev_ireturn de_Ru_addingOf_35 rfl ⟨rfl, rfl⟩
theorem de_Ru_readSum_0 : decode prog_10_method_8_code 0 = .ok (.iconst 0, 1) := by decide +kernel
theorem de_Ru_readSum_1 : decode prog_10_method_8_code 1 = .ok (.istore_n 2, 1) := by decide +kernel
theorem de_Ru_readSum_2 : decode prog_10_method_8_code 2 = .ok (.iconst 0, 1) := by decide +kernel
theorem de_Ru_readSum_3 : decode prog_10_method_8_code 3 = .ok (.istore_n 3, 1) := by decide +kernel
theorem de_Ru_readSum_4 : decode prog_10_method_8_code 4 = .ok (.iconst 1, 1) := by decide +kernel
theorem de_Ru_readSum_5 : decode prog_10_method_8_code 5 = .ok (.istore 4, 2) := by decide +kernel
theorem de_Ru_readSum_7 : decode prog_10_method_8_code 7 = .ok (.iconst 0, 1) := by decide +kernel
theorem de_Ru_readSum_8 : decode prog_10_method_8_code 8 = .ok (.istore 5, 2) := by decide +kernel
theorem de_Ru_readSum_10 : decode prog_10_method_8_code 10 = .ok (.iload 4, 2) := by decide +kernel
theorem de_Ru_readSum_12 : decode prog_10_method_8_code 12 = .ok (.ifCond .eq 112, 3) := by decide +kernel
theorem de_Ru_readSum_15 : decode prog_10_method_8_code 15 = .ok (.iload 5, 2) := by decide +kernel
theorem de_Ru_readSum_17 : decode prog_10_method_8_code 17 = .ok (.bipush 60, 2) := by decide +kernel
theorem de_Ru_readSum_19 : decode prog_10_method_8_code 19 = .ok (.if_icmp .gt 105, 3) := by decide +kernel
theorem de_Ru_readSum_22 : decode prog_10_method_8_code 22 = .ok (.aload_n 0, 1) := by decide +kernel
theorem de_Ru_readSum_23 : decode prog_10_method_8_code 23 = .ok (.aload_n 1, 1) := by decide +kernel
theorem de_Ru_readSum_24 : decode prog_10_method_8_code 24 = .ok (.invokevirtual 75, 3) := by decide +kernel
theorem de_Ru_readSum_27 : decode prog_10_method_8_code 27 = .ok (.aload_n 0, 1) := by decide +kernel
theorem de_Ru_readSum_28 : decode prog_10_method_8_code 28 = .ok (.aload_n 1, 1) := by decide +kernel
theorem de_Ru_readSum_29 : decode prog_10_method_8_code 29 = .ok (.getfield 30, 3) := by decide +kernel
theorem de_Ru_readSum_32 : decode prog_10_method_8_code 32 = .ok (.iconst (-1), 1) := by decide +kernel
theorem de_Ru_readSum_33 : decode prog_10_method_8_code 33 = .ok (.if_icmp .ne 10, 3) := by decide +kernel
theorem de_Ru_readSum_36 : decode prog_10_method_8_code 36 = .ok (.aload_n 1, 1) := by decide +kernel
theorem de_Ru_readSum_37 : decode prog_10_method_8_code 37 = .ok (.getfield 78, 3) := by decide +kernel
theorem de_Ru_readSum_40 : decode prog_10_method_8_code 40 = .ok (.goto 9, 3) := by decide +kernel
theorem de_Ru_readSum_49 : decode prog_10_method_8_code 49 = .ok (.invokevirtual 50, 3) := by decide +kernel
theorem de_Ru_readSum_52 : decode prog_10_method_8_code 52 = .ok (.aload_n 1, 1) := by decide +kernel
theorem de_Ru_readSum_53 : decode prog_10_method_8_code 53 = .ok (.invokevirtual 37, 3) := by decide +kernel
theorem de_Ru_readSum_56 : decode prog_10_method_8_code 56 = .ok (.iload_n 3, 1) := by decide +kernel
theorem de_Ru_readSum_57 : decode prog_10_method_8_code 57 = .ok (.ifCond .eq 8, 3) := by decide +kernel
theorem de_Ru_readSum_65 : decode prog_10_method_8_code 65 = .ok (.aload_n 1, 1) := by decide +kernel
theorem de_Ru_readSum_66 : decode prog_10_method_8_code 66 = .ok (.getfield 53, 3) := by decide +kernel
theorem de_Ru_readSum_69 : decode prog_10_method_8_code 69 = .ok (.invokestatic 81, 3) := by decide +kernel
theorem de_Ru_readSum_72 : decode prog_10_method_8_code 72 = .ok (.istore_n 3, 1) := by decide +kernel
theorem de_Ru_readSum_73 : decode prog_10_method_8_code 73 = .ok (.iload_n 3, 1) := by decide +kernel
theorem de_Ru_readSum_74 : decode prog_10_method_8_code 74 = .ok (.ifCond .ne 20, 3) := by decide +kernel
theorem de_Ru_readSum_77 : decode prog_10_method_8_code 77 = .ok (.iload_n 2, 1) := by decide +kernel
theorem de_Ru_readSum_78 : decode prog_10_method_8_code 78 = .ok (.ifCond .eq 8, 3) := by decide +kernel
theorem de_Ru_readSum_86 : decode prog_10_method_8_code 86 = .ok (.aload_n 1, 1) := by decide +kernel
theorem de_Ru_readSum_87 : decode prog_10_method_8_code 87 = .ok (.getfield 53, 3) := by decide +kernel
theorem de_Ru_readSum_90 : decode prog_10_method_8_code 90 = .ok (.invokestatic 84, 3) := by decide +kernel
theorem de_Ru_readSum_93 : decode prog_10_method_8_code 93 = .ok (.istore_n 2, 1) := by decide +kernel
theorem de_Ru_readSum_94 : decode prog_10_method_8_code 94 = .ok (.iload_n 3, 1) := by decide +kernel
theorem de_Ru_readSum_95 : decode prog_10_method_8_code 95 = .ok (.ifCond .ne 7, 3) := by decide +kernel
theorem de_Ru_readSum_98 : decode prog_10_method_8_code 98 = .ok (.iload_n 2, 1) := by decide +kernel
theorem de_Ru_readSum_99 : decode prog_10_method_8_code 99 = .ok (.ifCond .eq 7, 3) := by decide +kernel
theorem de_Ru_readSum_106 : decode prog_10_method_8_code 106 = .ok (.iconst 0, 1) := by decide +kernel
theorem de_Ru_readSum_107 : decode prog_10_method_8_code 107 = .ok (.istore 4, 2) := by decide +kernel
theorem de_Ru_readSum_109 : decode prog_10_method_8_code 109 = .ok (.iload 4, 2) := by decide +kernel
theorem de_Ru_readSum_111 : decode prog_10_method_8_code 111 = .ok (.ifCond .eq 7, 3) := by decide +kernel
theorem de_Ru_readSum_118 : decode prog_10_method_8_code 118 = .ok (.iinc 5 1, 3) := by decide +kernel
theorem de_Ru_readSum_121 : decode prog_10_method_8_code 121 = .ok (.goto (-111), 3) := by decide +kernel
theorem de_Ru_readSum_124 : decode prog_10_method_8_code 124 = .ok (.return_, 1) := by decide +kernel
set_option maxHeartbeats 4000000 in
set_option maxRecDepth 20000 in
theorem fx_38  : ab_Mt g_G g_rs mt_Ru_readSum 3 0 0 [ab_R (36), ab_R (1)] (fw_0.set 1 (ab_ob 8 [ab_R (2), ab_I (0), ab_I (0), ab_R (ab_sb + 2), ab_I (1), ab_I (0), ab_I ((-1)), ab_I ((-1)), ab_I ((-1))])) (ab_is none (((fw_0.set 1 (ab_ob 8 [ab_R (2), ab_I (0), ab_I (0), ab_R (ab_sb + 2), ab_I (1), ab_I (0), ab_I ((-1)), ab_I ((-1)), ab_I ((-1))])).set 36 (ab_ob 7 [ab_R (37), ab_I (1), ab_I (1)])).set 37 (ab_ai 0 400 (ab_up (fun _ => 0) (0) ((-1)))))) := by
  refine ab_Mt.of rfl (Nat.le_of_ble_eq_true rfl) ?_
  show ab_Ev g_G g_rs mt_Ru_readSum _ _ _ 0 [some (ab_R (36)), some (ab_R (1)), none, none, none, none] [] _ _
  refine ev_iconst de_Ru_readSum_0 ?_
  refine ev_istore_n (l' := [_, _, _, _, _, _]) de_Ru_readSum_1 rfl (Nat.le_of_ble_eq_true rfl) rfl ?_
  refine ev_iconst de_Ru_readSum_2 ?_
  refine ev_istore_n (l' := [_, _, _, _, _, _]) de_Ru_readSum_3 rfl (Nat.le_of_ble_eq_true rfl) rfl ?_
  refine ev_iconst de_Ru_readSum_4 ?_
  refine ev_istore (l' := [_, _, _, _, _, _]) de_Ru_readSum_5 (Nat.le_of_ble_eq_true rfl) rfl ?_
  refine ev_iconst de_Ru_readSum_7 ?_
  refine ev_istore (l' := [_, _, _, _, _, _]) de_Ru_readSum_8 (Nat.le_of_ble_eq_true rfl) rfl ?_
  refine ev_iload de_Ru_readSum_10 rfl ?_
  refine ev_if_eq (tgt := 124) de_Ru_readSum_12 (by decide) (by decide) (fun h => absurd h (by decide)) (fun _ => ?_)
  refine ev_iload de_Ru_readSum_15 rfl ?_
  refine ev_bipush de_Ru_readSum_17 rfl ?_
  refine ev_icmp_gt (tgt := 124) de_Ru_readSum_19 (by decide) (by decide) (by decide) (fun h => absurd h (by decide)) (fun _ => ?_)
  refine ev_aload_n de_Ru_readSum_22 rfl rfl ?_
  refine ev_aload_n de_Ru_readSum_23 rfl rfl ?_
  refine ev_vn (ci := 7) de_Ru_readSum_24 fx_39 kb_Ru_75 ⟨im_Ru_checkValue, se_Ru_checkValue⟩ rfl rfl rfl (Nat.le_of_ble_eq_true rfl) (by decide) rfl ?_
  refine ev_aload_n de_Ru_readSum_27 rfl rfl ?_
  refine ev_aload_n de_Ru_readSum_28 rfl rfl ?_
  refine ev_getfield de_Ru_readSum_29 rfl fl_Ru_30 rfl ?_
  refine ev_iconst de_Ru_readSum_32 ?_
  refine ev_icmp_ne (tgt := 43) de_Ru_readSum_33 (by decide) (by decide) (by decide) (fun h => absurd h (by decide)) (fun _ => ?_)
  refine ev_aload_n de_Ru_readSum_36 rfl rfl ?_
  refine ev_getfield de_Ru_readSum_37 rfl fl_Ru_78 rfl ?_
  refine ev_goto (tgt := 49) de_Ru_readSum_40 (by decide) ?_
  refine ev_vn (ci := 7) de_Ru_readSum_49 fx_42 kb_Ru_50 ⟨im_Ru_emit, se_Ru_emit⟩ rfl rfl rfl (Nat.le_of_ble_eq_true rfl) (by decide) rfl ?_
  refine ev_aload_n de_Ru_readSum_52 rfl rfl ?_
  refine ev_vn (ci := 8) de_Ru_readSum_53 fx_43 kb_Ru_37 ⟨im_Ta_advance, se_Ta_advance⟩ rfl rfl rfl (Nat.le_of_ble_eq_true rfl) (by decide) rfl ?_
  refine ev_iload_n de_Ru_readSum_56 rfl rfl ?_
  refine ev_if_eq (tgt := 65) de_Ru_readSum_57 (by decide) (by decide) (fun _ => ?_) (fun h => absurd h (by decide))
  refine ev_aload_n de_Ru_readSum_65 rfl rfl ?_
  refine ev_getfield de_Ru_readSum_66 rfl fl_Ru_53 rfl ?_
  refine ev_sv de_Ru_readSum_69 fx_44 kb_Ru_81 sc_Ru_timingOf rfl (Nat.le_of_ble_eq_true rfl) (by decide) rfl ?_
  refine ev_istore_n (l' := [_, _, _, _, _, _]) de_Ru_readSum_72 rfl (Nat.le_of_ble_eq_true rfl) rfl ?_
  refine ev_iload_n de_Ru_readSum_73 rfl rfl ?_
  refine ev_if_ne (tgt := 94) de_Ru_readSum_74 (by decide) (by decide) (fun h => absurd h (by decide)) (fun _ => ?_)
  refine ev_iload_n de_Ru_readSum_77 rfl rfl ?_
  refine ev_if_eq (tgt := 86) de_Ru_readSum_78 (by decide) (by decide) (fun _ => ?_) (fun h => absurd h (by decide))
  refine ev_aload_n de_Ru_readSum_86 rfl rfl ?_
  refine ev_getfield de_Ru_readSum_87 rfl fl_Ru_53 rfl ?_
  refine ev_sv de_Ru_readSum_90 fx_45 kb_Ru_84 sc_Ru_addingOf rfl (Nat.le_of_ble_eq_true rfl) (by decide) rfl ?_
  refine ev_istore_n (l' := [_, _, _, _, _, _]) de_Ru_readSum_93 rfl (Nat.le_of_ble_eq_true rfl) rfl ?_
  refine ev_iload_n de_Ru_readSum_94 rfl rfl ?_
  refine ev_if_ne (tgt := 102) de_Ru_readSum_95 (by decide) (by decide) (fun h => absurd h (by decide)) (fun _ => ?_)
  refine ev_iload_n de_Ru_readSum_98 rfl rfl ?_
  refine ev_if_eq (tgt := 106) de_Ru_readSum_99 (by decide) (by decide) (fun _ => ?_) (fun h => absurd h (by decide))
  refine ev_iconst de_Ru_readSum_106 ?_
  refine ev_istore (l' := [_, _, _, _, _, _]) de_Ru_readSum_107 (Nat.le_of_ble_eq_true rfl) rfl ?_
  refine ev_iload de_Ru_readSum_109 rfl ?_
  refine ev_if_eq (tgt := 118) de_Ru_readSum_111 (by decide) (by decide) (fun _ => ?_) (fun h => absurd h (by decide))
  refine ev_iinc (l' := [_, _, _, _, _, _]) de_Ru_readSum_118 rfl rfl ?_
  refine ev_loc (l2 := [some (ab_R (36)), some (ab_R (1)), some (ab_I (0)), some (ab_I (0)), some (ab_I (0)), some (ab_I (1))]) rfl ?_
  refine ev_goto (tgt := 10) de_Ru_readSum_121 (by decide) ?_
  refine ev_iload de_Ru_readSum_10 rfl ?_
  refine ev_if_eq (tgt := 124) de_Ru_readSum_12 (by decide) (by decide) (fun _ => ?_) (fun h => absurd h (by decide))
  exact ev_return de_Ru_readSum_124 rfl ⟨rfl, rfl⟩
set_option maxHeartbeats 4000000 in
set_option maxRecDepth 20000 in
theorem fx_46  : ab_Mt g_G g_rs mt_Ru_emit 1 0 0 [ab_R (36), ab_I ((-34))] (((fw_0.set 1 (ab_ob 8 [ab_R (2), ab_I (0), ab_I (0), ab_R (ab_sb + 2), ab_I (1), ab_I (0), ab_I ((-1)), ab_I ((-1)), ab_I ((-1))])).set 36 (ab_ob 7 [ab_R (37), ab_I (1), ab_I (1)])).set 37 (ab_ai 0 400 (ab_up (fun _ => 0) (0) ((-1))))) (ab_is none (((fw_0.set 1 (ab_ob 8 [ab_R (2), ab_I (0), ab_I (0), ab_R (ab_sb + 2), ab_I (1), ab_I (0), ab_I ((-1)), ab_I ((-1)), ab_I ((-1))])).set 36 (ab_ob 7 [ab_R (37), ab_I (2), ab_I (1)])).set 37 (ab_ai 0 400 (ab_up (ab_up (fun _ => 0) (0) ((-1))) (1) ((-34)))))) := by
  refine ab_Mt.of rfl (Nat.le_of_ble_eq_true rfl) ?_
  show ab_Ev g_G g_rs mt_Ru_emit _ _ _ 0 [some (ab_R (36)), some (ab_I ((-34)))] [] _ _
  refine ev_aload_n de_Ru_emit_0 rfl rfl ?_
  refine ev_getfield de_Ru_emit_1 rfl fl_Ru_23 rfl ?_
  refine ev_aload_n de_Ru_emit_4 rfl rfl ?_
  refine ev_getfield de_Ru_emit_5 rfl fl_Ru_9 rfl ?_
  refine ev_alen (n := 400) (t := 0) de_Ru_emit_8 rfl (Or.inl ⟨_, _, by decide, rfl⟩) ?_
  refine ev_top (b := ab_I (400)) rfl ?_
  refine ev_icmp_ge (tgt := 32) de_Ru_emit_9 (by decide) (by decide) (by decide) (fun h => absurd h (by decide)) (fun _ => ?_)
  refine ev_aload_n de_Ru_emit_12 rfl rfl ?_
  refine ev_getfield de_Ru_emit_13 rfl fl_Ru_9 rfl ?_
  refine ev_aload_n de_Ru_emit_16 rfl rfl ?_
  refine ev_getfield de_Ru_emit_17 rfl fl_Ru_23 rfl ?_
  refine ev_iload_n de_Ru_emit_20 rfl rfl ?_
  refine ev_iastore de_Ru_emit_21 rfl (by decide) (by decide) (by decide) ?_
  refine ev_world (w' := (((fw_0.set 1 (ab_ob 8 [ab_R (2), ab_I (0), ab_I (0), ab_R (ab_sb + 2), ab_I (1), ab_I (0), ab_I ((-1)), ab_I ((-1)), ab_I ((-1))])).set 36 (ab_ob 7 [ab_R (37), ab_I (1), ab_I (1)])).set 37 (ab_ai 0 400 (ab_up (ab_up (fun _ => 0) (0) ((-1))) (1) ((-34)))))) rfl ?_
  refine ev_aload_n de_Ru_emit_22 rfl rfl ?_
  refine ev_dup de_Ru_emit_23 rfl ?_
  refine ev_getfield de_Ru_emit_24 rfl fl_Ru_23 rfl ?_
  refine ev_iconst de_Ru_emit_27 ?_
  refine ev_iadd de_Ru_emit_28 ?_
  refine ev_top (b := ab_I (2)) rfl ?_
  refine ev_putfield de_Ru_emit_29 rfl (fp_Ru_23 _) (Nat.le_of_ble_eq_true rfl) trivial ?_
  refine ev_world (w' := (((fw_0.set 1 (ab_ob 8 [ab_R (2), ab_I (0), ab_I (0), ab_R (ab_sb + 2), ab_I (1), ab_I (0), ab_I ((-1)), ab_I ((-1)), ab_I ((-1))])).set 36 (ab_ob 7 [ab_R (37), ab_I (2), ab_I (1)])).set 37 (ab_ai 0 400 (ab_up (ab_up (fun _ => 0) (0) ((-1))) (1) ((-34)))))) rfl ?_
  exact ev_return de_Ru_emit_32 rfl ⟨rfl, rfl⟩
theorem de_Ru_readAll_0 : decode prog_10_method_2_code 0 = .ok (.aload_n 1, 1) := by decide +kernel
theorem de_Ru_readAll_1 : decode prog_10_method_2_code 1 = .ok (.ldc 15, 2) := by decide +kernel
theorem de_Ru_readAll_3 : decode prog_10_method_2_code 3 = .ok (.invokevirtual 17, 3) := by decide +kernel
theorem de_Ru_readAll_6 : decode prog_10_method_2_code 6 = .ok (.aload_n 0, 1) := by decide +kernel
theorem de_Ru_readAll_7 : decode prog_10_method_2_code 7 = .ok (.iconst 0, 1) := by decide +kernel
theorem de_Ru_readAll_8 : decode prog_10_method_2_code 8 = .ok (.putfield 23, 3) := by decide +kernel
theorem de_Ru_readAll_11 : decode prog_10_method_2_code 11 = .ok (.aload_n 0, 1) := by decide +kernel
theorem de_Ru_readAll_12 : decode prog_10_method_2_code 12 = .ok (.iconst 0, 1) := by decide +kernel
theorem de_Ru_readAll_13 : decode prog_10_method_2_code 13 = .ok (.putfield 27, 3) := by decide +kernel
theorem de_Ru_readAll_16 : decode prog_10_method_2_code 16 = .ok (.iconst 1, 1) := by decide +kernel
theorem de_Ru_readAll_17 : decode prog_10_method_2_code 17 = .ok (.istore_n 2, 1) := by decide +kernel
theorem de_Ru_readAll_18 : decode prog_10_method_2_code 18 = .ok (.iconst 0, 1) := by decide +kernel
theorem de_Ru_readAll_19 : decode prog_10_method_2_code 19 = .ok (.istore_n 3, 1) := by decide +kernel
theorem de_Ru_readAll_20 : decode prog_10_method_2_code 20 = .ok (.iload_n 2, 1) := by decide +kernel
theorem de_Ru_readAll_21 : decode prog_10_method_2_code 21 = .ok (.ifCond .eq 108, 3) := by decide +kernel
theorem de_Ru_readAll_24 : decode prog_10_method_2_code 24 = .ok (.iload_n 3, 1) := by decide +kernel
theorem de_Ru_readAll_25 : decode prog_10_method_2_code 25 = .ok (.bipush 12, 2) := by decide +kernel
theorem de_Ru_readAll_27 : decode prog_10_method_2_code 27 = .ok (.if_icmp .gt 102, 3) := by decide +kernel
theorem de_Ru_readAll_30 : decode prog_10_method_2_code 30 = .ok (.aload_n 1, 1) := by decide +kernel
theorem de_Ru_readAll_31 : decode prog_10_method_2_code 31 = .ok (.getfield 30, 3) := by decide +kernel
theorem de_Ru_readAll_34 : decode prog_10_method_2_code 34 = .ok (.bipush 12, 2) := by decide +kernel
theorem de_Ru_readAll_36 : decode prog_10_method_2_code 36 = .ok (.if_icmp .eq 11, 3) := by decide +kernel
theorem de_Ru_readAll_39 : decode prog_10_method_2_code 39 = .ok (.aload_n 1, 1) := by decide +kernel
theorem de_Ru_readAll_40 : decode prog_10_method_2_code 40 = .ok (.iconst 0, 1) := by decide +kernel
theorem de_Ru_readAll_41 : decode prog_10_method_2_code 41 = .ok (.invokevirtual 33, 3) := by decide +kernel
theorem de_Ru_readAll_44 : decode prog_10_method_2_code 44 = .ok (.goto 14, 3) := by decide +kernel
theorem de_Ru_readAll_58 : decode prog_10_method_2_code 58 = .ok (.aload_n 1, 1) := by decide +kernel
theorem de_Ru_readAll_59 : decode prog_10_method_2_code 59 = .ok (.invokevirtual 37, 3) := by decide +kernel
theorem de_Ru_readAll_62 : decode prog_10_method_2_code 62 = .ok (.aload_n 0, 1) := by decide +kernel
theorem de_Ru_readAll_63 : decode prog_10_method_2_code 63 = .ok (.aload_n 1, 1) := by decide +kernel
theorem de_Ru_readAll_64 : decode prog_10_method_2_code 64 = .ok (.invokevirtual 40, 3) := by decide +kernel
theorem de_Ru_readAll_67 : decode prog_10_method_2_code 67 = .ok (.bipush (-34), 2) := by decide +kernel
theorem de_Ru_readAll_69 : decode prog_10_method_2_code 69 = .ok (.istore 4, 2) := by decide +kernel
theorem de_Ru_readAll_71 : decode prog_10_method_2_code 71 = .ok (.aload_n 1, 1) := by decide +kernel
theorem de_Ru_readAll_72 : decode prog_10_method_2_code 72 = .ok (.getfield 30, 3) := by decide +kernel
theorem de_Ru_readAll_75 : decode prog_10_method_2_code 75 = .ok (.bipush 13, 2) := by decide +kernel
theorem de_Ru_readAll_77 : decode prog_10_method_2_code 77 = .ok (.if_icmp .ne 17, 3) := by decide +kernel
theorem de_Ru_readAll_94 : decode prog_10_method_2_code 94 = .ok (.aload_n 0, 1) := by decide +kernel
theorem de_Ru_readAll_95 : decode prog_10_method_2_code 95 = .ok (.iload 4, 2) := by decide +kernel
theorem de_Ru_readAll_97 : decode prog_10_method_2_code 97 = .ok (.invokevirtual 50, 3) := by decide +kernel
theorem de_Ru_readAll_100 : decode prog_10_method_2_code 100 = .ok (.aload_n 1, 1) := by decide +kernel
theorem de_Ru_readAll_101 : decode prog_10_method_2_code 101 = .ok (.getfield 53, 3) := by decide +kernel
theorem de_Ru_readAll_104 : decode prog_10_method_2_code 104 = .ok (.bipush 59, 2) := by decide +kernel
theorem de_Ru_readAll_106 : decode prog_10_method_2_code 106 = .ok (.if_icmp .ne 7, 3) := by decide +kernel
theorem de_Ru_readAll_113 : decode prog_10_method_2_code 113 = .ok (.iconst 0, 1) := by decide +kernel
theorem de_Ru_readAll_114 : decode prog_10_method_2_code 114 = .ok (.istore_n 2, 1) := by decide +kernel
theorem de_Ru_readAll_115 : decode prog_10_method_2_code 115 = .ok (.iload_n 2, 1) := by decide +kernel
theorem de_Ru_readAll_116 : decode prog_10_method_2_code 116 = .ok (.ifCond .eq 7, 3) := by decide +kernel
theorem de_Ru_readAll_123 : decode prog_10_method_2_code 123 = .ok (.iinc 3 1, 3) := by decide +kernel
theorem de_Ru_readAll_126 : decode prog_10_method_2_code 126 = .ok (.goto (-106), 3) := by decide +kernel
theorem de_Ru_readAll_129 : decode prog_10_method_2_code 129 = .ok (.aload_n 1, 1) := by decide +kernel
theorem de_Ru_readAll_130 : decode prog_10_method_2_code 130 = .ok (.getfield 53, 3) := by decide +kernel
theorem de_Ru_readAll_133 : decode prog_10_method_2_code 133 = .ok (.iconst (-1), 1) := by decide +kernel
theorem de_Ru_readAll_134 : decode prog_10_method_2_code 134 = .ok (.if_icmp .eq 8, 3) := by decide +kernel
theorem de_Ru_readAll_142 : decode prog_10_method_2_code 142 = .ok (.aload_n 1, 1) := by decide +kernel
theorem de_Ru_readAll_143 : decode prog_10_method_2_code 143 = .ok (.getfield 56, 3) := by decide +kernel
theorem de_Ru_readAll_146 : decode prog_10_method_2_code 146 = .ok (.ireturn, 1) := by decide +kernel
set_option maxHeartbeats 4000000 in
set_option maxRecDepth 20000 in
theorem fx_33  : ab_Mt g_G g_rs mt_Ru_readAll 4 0 0 [ab_R (36), ab_R (1)] fw_0 (ab_is (some (ab_I (1))) (((fw_0.set 1 (ab_ob 8 [ab_R (2), ab_I (0), ab_I (0), ab_R (ab_sb + 2), ab_I (1), ab_I (0), ab_I ((-1)), ab_I ((-1)), ab_I ((-1))])).set 36 (ab_ob 7 [ab_R (37), ab_I (2), ab_I (1)])).set 37 (ab_ai 0 400 (ab_up (ab_up (fun _ => 0) (0) ((-1))) (1) ((-34)))))) := by
  refine ab_Mt.of rfl (Nat.le_of_ble_eq_true rfl) ?_
  show ab_Ev g_G g_rs mt_Ru_readAll _ _ _ 0 [some (ab_R (36)), some (ab_R (1)), none, none, none] [] _ _
  refine ev_aload_n de_Ru_readAll_0 rfl rfl ?_
  refine ev_ldcS (k := 2) de_Ru_readAll_1 (List.mem_of_getElem? (i := 2) rfl) (by decide) ?_
  refine ev_vn (ci := 8) de_Ru_readAll_3 fx_34 kb_Ru_17 ⟨im_Ta_begin, se_Ta_begin⟩ rfl rfl rfl (Nat.le_of_ble_eq_true rfl) (by decide) rfl ?_
  refine ev_aload_n de_Ru_readAll_6 rfl rfl ?_
  refine ev_iconst de_Ru_readAll_7 ?_
  refine ev_putfield de_Ru_readAll_8 rfl (fp_Ru_23 _) (Nat.le_of_ble_eq_true rfl) trivial ?_
  refine ev_world (w' := (fw_0.set 1 (ab_ob 8 [ab_R (2), ab_I (0), ab_I (0), ab_R (ab_sb + 2), ab_I (0), ab_I (0), ab_I ((-1)), ab_I ((-1)), ab_I ((-1))]))) rfl ?_
  refine ev_aload_n de_Ru_readAll_11 rfl rfl ?_
  refine ev_iconst de_Ru_readAll_12 ?_
  refine ev_putfield de_Ru_readAll_13 rfl (fp_Ru_27 _) (Nat.le_of_ble_eq_true rfl) trivial ?_
  refine ev_world (w' := (fw_0.set 1 (ab_ob 8 [ab_R (2), ab_I (0), ab_I (0), ab_R (ab_sb + 2), ab_I (0), ab_I (0), ab_I ((-1)), ab_I ((-1)), ab_I ((-1))]))) rfl ?_
  refine ev_iconst de_Ru_readAll_16 ?_
  refine ev_istore_n (l' := [_, _, _, _, _]) de_Ru_readAll_17 rfl (Nat.le_of_ble_eq_true rfl) rfl ?_
  refine ev_iconst de_Ru_readAll_18 ?_
  refine ev_istore_n (l' := [_, _, _, _, _]) de_Ru_readAll_19 rfl (Nat.le_of_ble_eq_true rfl) rfl ?_
  refine ev_iload_n de_Ru_readAll_20 rfl rfl ?_
  refine ev_if_eq (tgt := 129) de_Ru_readAll_21 (by decide) (by decide) (fun h => absurd h (by decide)) (fun _ => ?_)
  refine ev_iload_n de_Ru_readAll_24 rfl rfl ?_
  refine ev_bipush de_Ru_readAll_25 rfl ?_
  refine ev_icmp_gt (tgt := 129) de_Ru_readAll_27 (by decide) (by decide) (by decide) (fun h => absurd h (by decide)) (fun _ => ?_)
  refine ev_aload_n de_Ru_readAll_30 rfl rfl ?_
  refine ev_getfield de_Ru_readAll_31 rfl fl_Ru_30 rfl ?_
  refine ev_bipush de_Ru_readAll_34 rfl ?_
  refine ev_icmp_eq (tgt := 47) de_Ru_readAll_36 (by decide) (by decide) (by decide) (fun h => absurd h (by decide)) (fun _ => ?_)
  refine ev_aload_n de_Ru_readAll_39 rfl rfl ?_
  refine ev_iconst de_Ru_readAll_40 ?_
  refine ev_vn (ci := 8) de_Ru_readAll_41 fx_36 kb_Ru_33 ⟨im_Ta_fail, se_Ta_fail⟩ rfl rfl rfl (Nat.le_of_ble_eq_true rfl) (by decide) rfl ?_
  refine ev_goto (tgt := 58) de_Ru_readAll_44 (by decide) ?_
  refine ev_aload_n de_Ru_readAll_58 rfl rfl ?_
  refine ev_vn (ci := 8) de_Ru_readAll_59 fx_37 kb_Ru_37 ⟨im_Ta_advance, se_Ta_advance⟩ rfl rfl rfl (Nat.le_of_ble_eq_true rfl) (by decide) rfl ?_
  refine ev_aload_n de_Ru_readAll_62 rfl rfl ?_
  refine ev_aload_n de_Ru_readAll_63 rfl rfl ?_
  refine ev_vn (ci := 7) de_Ru_readAll_64 fx_38 kb_Ru_40 ⟨im_Ru_readSum, se_Ru_readSum⟩ rfl rfl rfl (Nat.le_of_ble_eq_true rfl) (by decide) rfl ?_
  refine ev_bipush de_Ru_readAll_67 rfl ?_
  refine ev_istore (l' := [_, _, _, _, _]) de_Ru_readAll_69 (Nat.le_of_ble_eq_true rfl) rfl ?_
  refine ev_aload_n de_Ru_readAll_71 rfl rfl ?_
  refine ev_getfield de_Ru_readAll_72 rfl fl_Ru_30 rfl ?_
  refine ev_bipush de_Ru_readAll_75 rfl ?_
  refine ev_icmp_ne (tgt := 94) de_Ru_readAll_77 (by decide) (by decide) (by decide) (fun _ => ?_) (fun h => absurd h (by decide))
  refine ev_aload_n de_Ru_readAll_94 rfl rfl ?_
  refine ev_iload de_Ru_readAll_95 rfl ?_
  refine ev_vn (ci := 7) de_Ru_readAll_97 fx_46 kb_Ru_50 ⟨im_Ru_emit, se_Ru_emit⟩ rfl rfl rfl (Nat.le_of_ble_eq_true rfl) (by decide) rfl ?_
  refine ev_aload_n de_Ru_readAll_100 rfl rfl ?_
  refine ev_getfield de_Ru_readAll_101 rfl fl_Ru_53 rfl ?_
  refine ev_bipush de_Ru_readAll_104 rfl ?_
  refine ev_icmp_ne (tgt := 113) de_Ru_readAll_106 (by decide) (by decide) (by decide) (fun _ => ?_) (fun h => absurd h (by decide))
  refine ev_iconst de_Ru_readAll_113 ?_
  refine ev_istore_n (l' := [_, _, _, _, _]) de_Ru_readAll_114 rfl (Nat.le_of_ble_eq_true rfl) rfl ?_
  refine ev_iload_n de_Ru_readAll_115 rfl rfl ?_
  refine ev_if_eq (tgt := 123) de_Ru_readAll_116 (by decide) (by decide) (fun _ => ?_) (fun h => absurd h (by decide))
  refine ev_iinc (l' := [_, _, _, _, _]) de_Ru_readAll_123 rfl rfl ?_
  refine ev_loc (l2 := [some (ab_R (36)), some (ab_R (1)), some (ab_I (0)), some (ab_I (1)), some (ab_I ((-34)))]) rfl ?_
  refine ev_goto (tgt := 20) de_Ru_readAll_126 (by decide) ?_
  refine ev_iload_n de_Ru_readAll_20 rfl rfl ?_
  refine ev_if_eq (tgt := 129) de_Ru_readAll_21 (by decide) (by decide) (fun _ => ?_) (fun h => absurd h (by decide))
  refine ev_aload_n de_Ru_readAll_129 rfl rfl ?_
  refine ev_getfield de_Ru_readAll_130 rfl fl_Ru_53 rfl ?_
  refine ev_iconst de_Ru_readAll_133 ?_
  refine ev_icmp_eq (tgt := 142) de_Ru_readAll_134 (by decide) (by decide) (by decide) (fun _ => ?_) (fun h => absurd h (by decide))
  refine ev_aload_n de_Ru_readAll_142 rfl rfl ?_
  refine ev_getfield de_Ru_readAll_143 rfl fl_Ru_56 rfl ?_
  exact ev_ireturn de_Ru_readAll_146 rfl ⟨rfl, rfl⟩
theorem de_Tu_rule_0 : decode prog_1_method_5_code 0 = .ok (.aload_n 0, 1) := by decide +kernel
theorem de_Tu_rule_1 : decode prog_1_method_5_code 1 = .ok (.getfield 105, 3) := by decide +kernel
theorem de_Tu_rule_4 : decode prog_1_method_5_code 4 = .ok (.bipush 6, 2) := by decide +kernel
theorem de_Tu_rule_6 : decode prog_1_method_5_code 6 = .ok (.if_icmp .lt 5, 3) := by decide +kernel
theorem de_Tu_rule_11 : decode prog_1_method_5_code 11 = .ok (.aload_n 0, 1) := by decide +kernel
theorem de_Tu_rule_12 : decode prog_1_method_5_code 12 = .ok (.getfield 50, 3) := by decide +kernel
theorem de_Tu_rule_15 : decode prog_1_method_5_code 15 = .ok (.aload_n 0, 1) := by decide +kernel
theorem de_Tu_rule_16 : decode prog_1_method_5_code 16 = .ok (.getfield 10, 3) := by decide +kernel
theorem de_Tu_rule_19 : decode prog_1_method_5_code 19 = .ok (.invokevirtual 108, 3) := by decide +kernel
theorem de_Tu_rule_22 : decode prog_1_method_5_code 22 = .ok (.istore_n 1, 1) := by decide +kernel
theorem de_Tu_rule_23 : decode prog_1_method_5_code 23 = .ok (.aload_n 0, 1) := by decide +kernel
theorem de_Tu_rule_24 : decode prog_1_method_5_code 24 = .ok (.getfield 10, 3) := by decide +kernel
theorem de_Tu_rule_27 : decode prog_1_method_5_code 27 = .ok (.iconst 0, 1) := by decide +kernel
theorem de_Tu_rule_28 : decode prog_1_method_5_code 28 = .ok (.putfield 82, 3) := by decide +kernel
theorem de_Tu_rule_31 : decode prog_1_method_5_code 31 = .ok (.iload_n 1, 1) := by decide +kernel
theorem de_Tu_rule_32 : decode prog_1_method_5_code 32 = .ok (.ifCond .eq 8, 3) := by decide +kernel
theorem de_Tu_rule_35 : decode prog_1_method_5_code 35 = .ok (.bipush (-2), 2) := by decide +kernel
theorem de_Tu_rule_37 : decode prog_1_method_5_code 37 = .ok (.iload_n 1, 1) := by decide +kernel
theorem de_Tu_rule_38 : decode prog_1_method_5_code 38 = .ok (.isub, 1) := by decide +kernel
theorem de_Tu_rule_39 : decode prog_1_method_5_code 39 = .ok (.ireturn, 1) := by decide +kernel
set_option maxHeartbeats 4000000 in
set_option maxRecDepth 20000 in
theorem xx_rule_0  : ab_Mt g_G g_rs mt_Tu_rule 5 0 0 [ab_R (0)] fw_0 (ab_is (some (ab_I ((-3)))) (((fw_0.set 1 (ab_ob 8 [ab_R (2), ab_I (0), ab_I (0), ab_R (ab_sb + 2), ab_I (1), ab_I (0), ab_I ((-1)), ab_I ((-1)), ab_I ((-1))])).set 36 (ab_ob 7 [ab_R (37), ab_I (2), ab_I (1)])).set 37 (ab_ai 0 400 (ab_up (ab_up (fun _ => 0) (0) ((-1))) (1) ((-34)))))) := by
  refine ab_Mt.of rfl (Nat.le_of_ble_eq_true rfl) ?_
  show ab_Ev g_G g_rs mt_Tu_rule _ _ _ 0 [some (ab_R (0)), none] [] _ _
  refine ev_aload_n de_Tu_rule_0 rfl rfl ?_
  refine ev_getfield de_Tu_rule_1 rfl fl_Tu_105 rfl ?_
  refine ev_bipush de_Tu_rule_4 rfl ?_
  refine ev_icmp_lt (tgt := 11) de_Tu_rule_6 (by decide) (by decide) (by decide) (fun _ => ?_) (fun h => absurd h (by decide))
  refine ev_aload_n de_Tu_rule_11 rfl rfl ?_
  refine ev_getfield de_Tu_rule_12 rfl fl_Tu_50 rfl ?_
  refine ev_aload_n de_Tu_rule_15 rfl rfl ?_
  refine ev_getfield de_Tu_rule_16 rfl fl_Tu_10 rfl ?_
  refine ev_vv (ci := 7) de_Tu_rule_19 fx_33 kb_Tu_108 ⟨im_Ru_readAll, se_Ru_readAll⟩ rfl rfl rfl (Nat.le_of_ble_eq_true rfl) (by decide) rfl ?_
  refine ev_istore_n (l' := [_, _]) de_Tu_rule_22 rfl (Nat.le_of_ble_eq_true rfl) rfl ?_
  refine ev_aload_n de_Tu_rule_23 rfl rfl ?_
  refine ev_getfield de_Tu_rule_24 rfl fl_Tu_10 rfl ?_
  refine ev_iconst de_Tu_rule_27 ?_
  refine ev_putfield de_Tu_rule_28 rfl (fp_Tu_82 _) (Nat.le_of_ble_eq_true rfl) trivial ?_
  refine ev_world (w' := (((fw_0.set 1 (ab_ob 8 [ab_R (2), ab_I (0), ab_I (0), ab_R (ab_sb + 2), ab_I (1), ab_I (0), ab_I ((-1)), ab_I ((-1)), ab_I ((-1))])).set 36 (ab_ob 7 [ab_R (37), ab_I (2), ab_I (1)])).set 37 (ab_ai 0 400 (ab_up (ab_up (fun _ => 0) (0) ((-1))) (1) ((-34)))))) rfl ?_
  refine ev_iload_n de_Tu_rule_31 rfl rfl ?_
  refine ev_if_eq (tgt := 40) de_Tu_rule_32 (by decide) (by decide) (fun h => absurd h (by decide)) (fun _ => ?_)
  refine ev_bipush de_Tu_rule_35 rfl ?_
  refine ev_iload_n de_Tu_rule_37 rfl rfl ?_
  refine ev_isub de_Tu_rule_38 ?_
  refine ev_top (b := ab_I ((-3))) rfl ?_
  exact ev_ireturn de_Tu_rule_39 rfl ⟨rfl, rfl⟩
theorem de_Mo_see_0 : decode prog_14_method_9_code 0 = .ok (.aload_n 0, 1) := by decide +kernel
theorem de_Mo_see_1 : decode prog_14_method_9_code 1 = .ok (.getfield 87, 3) := by decide +kernel
theorem de_Mo_see_4 : decode prog_14_method_9_code 4 = .ok (.aload_n 0, 1) := by decide +kernel
theorem de_Mo_see_5 : decode prog_14_method_9_code 5 = .ok (.getfield 76, 3) := by decide +kernel
theorem de_Mo_see_8 : decode prog_14_method_9_code 8 = .ok (.if_icmp .ge 30, 3) := by decide +kernel
theorem de_Mo_see_38 : decode prog_14_method_9_code 38 = .ok (.aload_n 0, 1) := by decide +kernel
theorem de_Mo_see_39 : decode prog_14_method_9_code 39 = .ok (.getfield 87, 3) := by decide +kernel
theorem de_Mo_see_42 : decode prog_14_method_9_code 42 = .ok (.aload_n 0, 1) := by decide +kernel
theorem de_Mo_see_43 : decode prog_14_method_9_code 43 = .ok (.getfield 76, 3) := by decide +kernel
theorem de_Mo_see_46 : decode prog_14_method_9_code 46 = .ok (.if_icmp .ge 19, 3) := by decide +kernel
theorem de_Mo_see_65 : decode prog_14_method_9_code 65 = .ok (.iconst (-1), 1) := by decide +kernel
theorem de_Mo_see_66 : decode prog_14_method_9_code 66 = .ok (.ireturn, 1) := by decide +kernel
set_option maxHeartbeats 4000000 in
set_option maxRecDepth 20000 in
theorem fx_50  : ab_Mt g_G g_rs mt_Mo_see 1 0 0 [ab_R (107)] (((((fw_0.set 1 (ab_ob 8 [ab_R (2), ab_I (0), ab_I (0), ab_R (ab_sb + 2), ab_I (1), ab_I (0), ab_I ((-1)), ab_I ((-1)), ab_I ((-1))])).set 36 (ab_ob 7 [ab_R (37), ab_I (2), ab_I (1)])).set 37 (ab_ai 0 400 (ab_up (ab_up (fun _ => 0) (0) ((-1))) (1) ((-34))))).set 110 (ab_ai 0 7 (ab_up (fun _ => 0) (0) (0)))).set 112 (ab_ai 0 6 (ab_up (fun _ => 0) (0) (0)))) (ab_is (some (ab_I ((-1)))) (((((fw_0.set 1 (ab_ob 8 [ab_R (2), ab_I (0), ab_I (0), ab_R (ab_sb + 2), ab_I (1), ab_I (0), ab_I ((-1)), ab_I ((-1)), ab_I ((-1))])).set 36 (ab_ob 7 [ab_R (37), ab_I (2), ab_I (1)])).set 37 (ab_ai 0 400 (ab_up (ab_up (fun _ => 0) (0) ((-1))) (1) ((-34))))).set 110 (ab_ai 0 7 (ab_up (fun _ => 0) (0) (0)))).set 112 (ab_ai 0 6 (ab_up (fun _ => 0) (0) (0))))) := by
  refine ab_Mt.of rfl (Nat.le_of_ble_eq_true rfl) ?_
  show ab_Ev g_G g_rs mt_Mo_see _ _ _ 0 [some (ab_R (107))] [] _ _
  refine ev_aload_n de_Mo_see_0 rfl rfl ?_
  refine ev_getfield de_Mo_see_1 rfl fl_Mo_87 rfl ?_
  refine ev_aload_n de_Mo_see_4 rfl rfl ?_
  refine ev_getfield de_Mo_see_5 rfl fl_Mo_76 rfl ?_
  refine ev_icmp_ge (tgt := 38) de_Mo_see_8 (by decide) (by decide) (by decide) (fun _ => ?_) (fun h => absurd h (by decide))
  refine ev_aload_n de_Mo_see_38 rfl rfl ?_
  refine ev_getfield de_Mo_see_39 rfl fl_Mo_87 rfl ?_
  refine ev_aload_n de_Mo_see_42 rfl rfl ?_
  refine ev_getfield de_Mo_see_43 rfl fl_Mo_76 rfl ?_
  refine ev_icmp_ge (tgt := 65) de_Mo_see_46 (by decide) (by decide) (by decide) (fun _ => ?_) (fun h => absurd h (by decide))
  refine ev_iconst de_Mo_see_65 ?_
  exact ev_ireturn de_Mo_see_66 rfl ⟨rfl, rfl⟩
theorem de_Mo_isLetter_0 : decode prog_14_method_11_code 0 = .ok (.iload_n 1, 1) := by decide +kernel
theorem de_Mo_isLetter_1 : decode prog_14_method_11_code 1 = .ok (.aload_n 0, 1) := by decide +kernel
theorem de_Mo_isLetter_2 : decode prog_14_method_11_code 2 = .ok (.getfield 76, 3) := by decide +kernel
theorem de_Mo_isLetter_5 : decode prog_14_method_11_code 5 = .ok (.if_icmp .ge 29, 3) := by decide +kernel
theorem de_Mo_isLetter_34 : decode prog_14_method_11_code 34 = .ok (.iconst 0, 1) := by decide +kernel
theorem de_Mo_isLetter_35 : decode prog_14_method_11_code 35 = .ok (.ireturn, 1) := by decide +kernel
set_option maxHeartbeats 4000000 in
set_option maxRecDepth 20000 in
theorem fx_52  : ab_Mt g_G g_rs mt_Mo_isLetter 1 0 0 [ab_R (107), ab_I (0)] (((((fw_0.set 1 (ab_ob 8 [ab_R (2), ab_I (0), ab_I (0), ab_R (ab_sb + 2), ab_I (1), ab_I (0), ab_I ((-1)), ab_I ((-1)), ab_I ((-1))])).set 36 (ab_ob 7 [ab_R (37), ab_I (2), ab_I (1)])).set 37 (ab_ai 0 400 (ab_up (ab_up (fun _ => 0) (0) ((-1))) (1) ((-34))))).set 110 (ab_ai 0 7 (ab_up (fun _ => 0) (0) (0)))).set 112 (ab_ai 0 6 (ab_up (fun _ => 0) (0) (0)))) (ab_is (some (ab_I (0))) (((((fw_0.set 1 (ab_ob 8 [ab_R (2), ab_I (0), ab_I (0), ab_R (ab_sb + 2), ab_I (1), ab_I (0), ab_I ((-1)), ab_I ((-1)), ab_I ((-1))])).set 36 (ab_ob 7 [ab_R (37), ab_I (2), ab_I (1)])).set 37 (ab_ai 0 400 (ab_up (ab_up (fun _ => 0) (0) ((-1))) (1) ((-34))))).set 110 (ab_ai 0 7 (ab_up (fun _ => 0) (0) (0)))).set 112 (ab_ai 0 6 (ab_up (fun _ => 0) (0) (0))))) := by
  refine ab_Mt.of rfl (Nat.le_of_ble_eq_true rfl) ?_
  show ab_Ev g_G g_rs mt_Mo_isLetter _ _ _ 0 [some (ab_R (107)), some (ab_I (0))] [] _ _
  refine ev_iload_n de_Mo_isLetter_0 rfl rfl ?_
  refine ev_aload_n de_Mo_isLetter_1 rfl rfl ?_
  refine ev_getfield de_Mo_isLetter_2 rfl fl_Mo_76 rfl ?_
  refine ev_icmp_ge (tgt := 34) de_Mo_isLetter_5 (by decide) (by decide) (by decide) (fun _ => ?_) (fun h => absurd h (by decide))
  refine ev_iconst de_Mo_isLetter_34 ?_
  exact ev_zreturn de_Mo_isLetter_35 rfl (by decide) ⟨rfl, rfl⟩
theorem de_Mo_isWord_0 : decode prog_14_method_12_code 0 = .ok (.aload_n 0, 1) := by decide +kernel
theorem de_Mo_isWord_1 : decode prog_14_method_12_code 1 = .ok (.invokevirtual 90, 3) := by decide +kernel
theorem de_Mo_isWord_4 : decode prog_14_method_12_code 4 = .ok (.pop, 1) := by decide +kernel
theorem de_Mo_isWord_5 : decode prog_14_method_12_code 5 = .ok (.lconst 0, 1) := by decide +kernel
theorem de_Mo_isWord_6 : decode prog_14_method_12_code 6 = .ok (.lstore_n 3, 1) := by decide +kernel
theorem de_Mo_isWord_7 : decode prog_14_method_12_code 7 = .ok (.iconst 0, 1) := by decide +kernel
theorem de_Mo_isWord_8 : decode prog_14_method_12_code 8 = .ok (.istore 5, 2) := by decide +kernel
theorem de_Mo_isWord_10 : decode prog_14_method_12_code 10 = .ok (.aload_n 0, 1) := by decide +kernel
theorem de_Mo_isWord_11 : decode prog_14_method_12_code 11 = .ok (.aload_n 0, 1) := by decide +kernel
theorem de_Mo_isWord_12 : decode prog_14_method_12_code 12 = .ok (.getfield 87, 3) := by decide +kernel
theorem de_Mo_isWord_15 : decode prog_14_method_12_code 15 = .ok (.iload 5, 2) := by decide +kernel
theorem de_Mo_isWord_17 : decode prog_14_method_12_code 17 = .ok (.iadd, 1) := by decide +kernel
theorem de_Mo_isWord_18 : decode prog_14_method_12_code 18 = .ok (.invokevirtual 94, 3) := by decide +kernel
theorem de_Mo_isWord_21 : decode prog_14_method_12_code 21 = .ok (.ifCond .eq 35, 3) := by decide +kernel
theorem de_Mo_isWord_56 : decode prog_14_method_12_code 56 = .ok (.iload 5, 2) := by decide +kernel
theorem de_Mo_isWord_58 : decode prog_14_method_12_code 58 = .ok (.ifCond .le 20, 3) := by decide +kernel
theorem de_Mo_isWord_78 : decode prog_14_method_12_code 78 = .ok (.iconst 0, 1) := by decide +kernel
theorem de_Mo_isWord_79 : decode prog_14_method_12_code 79 = .ok (.ireturn, 1) := by decide +kernel
set_option maxHeartbeats 4000000 in
set_option maxRecDepth 20000 in
theorem fx_51  : ab_Mt g_G g_rs mt_Mo_isWord 2 0 0 [ab_R (107), ab_J (Int64.ofInt (1953854062))] (((((fw_0.set 1 (ab_ob 8 [ab_R (2), ab_I (0), ab_I (0), ab_R (ab_sb + 2), ab_I (1), ab_I (0), ab_I ((-1)), ab_I ((-1)), ab_I ((-1))])).set 36 (ab_ob 7 [ab_R (37), ab_I (2), ab_I (1)])).set 37 (ab_ai 0 400 (ab_up (ab_up (fun _ => 0) (0) ((-1))) (1) ((-34))))).set 110 (ab_ai 0 7 (ab_up (fun _ => 0) (0) (0)))).set 112 (ab_ai 0 6 (ab_up (fun _ => 0) (0) (0)))) (ab_is (some (ab_I (0))) (((((fw_0.set 1 (ab_ob 8 [ab_R (2), ab_I (0), ab_I (0), ab_R (ab_sb + 2), ab_I (1), ab_I (0), ab_I ((-1)), ab_I ((-1)), ab_I ((-1))])).set 36 (ab_ob 7 [ab_R (37), ab_I (2), ab_I (1)])).set 37 (ab_ai 0 400 (ab_up (ab_up (fun _ => 0) (0) ((-1))) (1) ((-34))))).set 110 (ab_ai 0 7 (ab_up (fun _ => 0) (0) (0)))).set 112 (ab_ai 0 6 (ab_up (fun _ => 0) (0) (0))))) := by
  refine ab_Mt.of rfl (Nat.le_of_ble_eq_true rfl) ?_
  show ab_Ev g_G g_rs mt_Mo_isWord _ _ _ 0 [some (ab_R (107)), some (ab_J (Int64.ofInt (1953854062))), none, none, none, none] [] _ _
  refine ev_aload_n de_Mo_isWord_0 rfl rfl ?_
  refine ev_vv (ci := 11) de_Mo_isWord_1 fx_50 kb_Mo_90 ⟨im_Mo_see, se_Mo_see⟩ rfl rfl rfl (Nat.le_of_ble_eq_true rfl) (by decide) rfl ?_
  refine ev_pop de_Mo_isWord_4 rfl ?_
  refine ev_lconsti (n := 0) de_Mo_isWord_5 (by decide) ?_
  refine ev_lstore_n (l' := [_, _, _, _, _, _]) de_Mo_isWord_6 rfl (Nat.le_of_ble_eq_true rfl) rfl ?_
  refine ev_iconst de_Mo_isWord_7 ?_
  refine ev_istore (l' := [_, _, _, _, _, _]) de_Mo_isWord_8 (Nat.le_of_ble_eq_true rfl) rfl ?_
  refine ev_aload_n de_Mo_isWord_10 rfl rfl ?_
  refine ev_aload_n de_Mo_isWord_11 rfl rfl ?_
  refine ev_getfield de_Mo_isWord_12 rfl fl_Mo_87 rfl ?_
  refine ev_iload de_Mo_isWord_15 rfl ?_
  refine ev_iadd de_Mo_isWord_17 ?_
  refine ev_top (b := ab_I (0)) rfl ?_
  refine ev_vv (ci := 11) de_Mo_isWord_18 fx_52 kb_Mo_94 ⟨im_Mo_isLetter, se_Mo_isLetter⟩ rfl rfl rfl (Nat.le_of_ble_eq_true rfl) (by decide) rfl ?_
  refine ev_if_eq (tgt := 56) de_Mo_isWord_21 (by decide) (by decide) (fun _ => ?_) (fun h => absurd h (by decide))
  refine ev_iload de_Mo_isWord_56 rfl ?_
  refine ev_if_le (tgt := 78) de_Mo_isWord_58 (by decide) (by decide) (fun _ => ?_) (fun h => absurd h (by decide))
  refine ev_iconst de_Mo_isWord_78 ?_
  exact ev_zreturn de_Mo_isWord_79 rfl (by decide) ⟨rfl, rfl⟩
theorem de_Mo_fails_0 : decode prog_14_method_8_code 0 = .ok (.aload_n 0, 1) := by decide +kernel
theorem de_Mo_fails_1 : decode prog_14_method_8_code 1 = .ok (.getfield 84, 3) := by decide +kernel
theorem de_Mo_fails_4 : decode prog_14_method_8_code 4 = .ok (.ifCond .ne 15, 3) := by decide +kernel
theorem de_Mo_fails_7 : decode prog_14_method_8_code 7 = .ok (.aload_n 0, 1) := by decide +kernel
theorem de_Mo_fails_8 : decode prog_14_method_8_code 8 = .ok (.iconst 1, 1) := by decide +kernel
theorem de_Mo_fails_9 : decode prog_14_method_8_code 9 = .ok (.bipush 8, 2) := by decide +kernel
theorem de_Mo_fails_11 : decode prog_14_method_8_code 11 = .ok (.iload_n 2, 1) := by decide +kernel
theorem de_Mo_fails_12 : decode prog_14_method_8_code 12 = .ok (.imul, 1) := by decide +kernel
theorem de_Mo_fails_13 : decode prog_14_method_8_code 13 = .ok (.iadd, 1) := by decide +kernel
theorem de_Mo_fails_14 : decode prog_14_method_8_code 14 = .ok (.iload_n 1, 1) := by decide +kernel
theorem de_Mo_fails_15 : decode prog_14_method_8_code 15 = .ok (.iadd, 1) := by decide +kernel
theorem de_Mo_fails_16 : decode prog_14_method_8_code 16 = .ok (.putfield 84, 3) := by decide +kernel
theorem de_Mo_fails_19 : decode prog_14_method_8_code 19 = .ok (.iconst 0, 1) := by decide +kernel
theorem de_Mo_fails_20 : decode prog_14_method_8_code 20 = .ok (.ireturn, 1) := by decide +kernel
set_option maxHeartbeats 4000000 in
set_option maxRecDepth 20000 in
theorem fx_53  : ab_Mt g_G g_rs mt_Mo_fails 1 0 0 [ab_R (107), ab_I (0), ab_I (0)] (((((fw_0.set 1 (ab_ob 8 [ab_R (2), ab_I (0), ab_I (0), ab_R (ab_sb + 2), ab_I (1), ab_I (0), ab_I ((-1)), ab_I ((-1)), ab_I ((-1))])).set 36 (ab_ob 7 [ab_R (37), ab_I (2), ab_I (1)])).set 37 (ab_ai 0 400 (ab_up (ab_up (fun _ => 0) (0) ((-1))) (1) ((-34))))).set 110 (ab_ai 0 7 (ab_up (fun _ => 0) (0) (0)))).set 112 (ab_ai 0 6 (ab_up (fun _ => 0) (0) (0)))) (ab_is (some (ab_I (0))) ((((((fw_0.set 1 (ab_ob 8 [ab_R (2), ab_I (0), ab_I (0), ab_R (ab_sb + 2), ab_I (1), ab_I (0), ab_I ((-1)), ab_I ((-1)), ab_I ((-1))])).set 36 (ab_ob 7 [ab_R (37), ab_I (2), ab_I (1)])).set 37 (ab_ai 0 400 (ab_up (ab_up (fun _ => 0) (0) ((-1))) (1) ((-34))))).set 107 (ab_ob 11 [ab_R (108), ab_I (0), ab_I (0), ab_R (109), ab_R (110), ab_R (111), ab_R (112), ab_R (113), ab_I (0), ab_I (1), ab_I (0), ab_I (0), ab_I (0), ab_I (0), ab_I (0), ab_R (114), ab_I (0), ab_R (115), ab_I (0), ab_R (116), ab_R (117), ab_I (0), ab_R (118), ab_I (0), ab_R (119), ab_R (120), ab_R (121), ab_R (122), ab_R (123), ab_R (124), ab_R (125), ab_I (0), ab_I (0), ab_J (0), ab_R (126), ab_R (127), ab_R (128)])).set 110 (ab_ai 0 7 (ab_up (fun _ => 0) (0) (0)))).set 112 (ab_ai 0 6 (ab_up (fun _ => 0) (0) (0))))) := by
  refine ab_Mt.of rfl (Nat.le_of_ble_eq_true rfl) ?_
  show ab_Ev g_G g_rs mt_Mo_fails _ _ _ 0 [some (ab_R (107)), some (ab_I (0)), some (ab_I (0))] [] _ _
  refine ev_aload_n de_Mo_fails_0 rfl rfl ?_
  refine ev_getfield de_Mo_fails_1 rfl fl_Mo_84 rfl ?_
  refine ev_if_ne (tgt := 19) de_Mo_fails_4 (by decide) (by decide) (fun h => absurd h (by decide)) (fun _ => ?_)
  refine ev_aload_n de_Mo_fails_7 rfl rfl ?_
  refine ev_iconst de_Mo_fails_8 ?_
  refine ev_bipush de_Mo_fails_9 rfl ?_
  refine ev_iload_n de_Mo_fails_11 rfl rfl ?_
  refine ev_imul de_Mo_fails_12 ?_
  refine ev_top (b := ab_I (0)) rfl ?_
  refine ev_iadd de_Mo_fails_13 ?_
  refine ev_top (b := ab_I (1)) rfl ?_
  refine ev_iload_n de_Mo_fails_14 rfl rfl ?_
  refine ev_iadd de_Mo_fails_15 ?_
  refine ev_top (b := ab_I (1)) rfl ?_
  refine ev_putfield de_Mo_fails_16 rfl (fp_Mo_84 _) (Nat.le_of_ble_eq_true rfl) trivial ?_
  refine ev_world (w' := ((((((fw_0.set 1 (ab_ob 8 [ab_R (2), ab_I (0), ab_I (0), ab_R (ab_sb + 2), ab_I (1), ab_I (0), ab_I ((-1)), ab_I ((-1)), ab_I ((-1))])).set 36 (ab_ob 7 [ab_R (37), ab_I (2), ab_I (1)])).set 37 (ab_ai 0 400 (ab_up (ab_up (fun _ => 0) (0) ((-1))) (1) ((-34))))).set 107 (ab_ob 11 [ab_R (108), ab_I (0), ab_I (0), ab_R (109), ab_R (110), ab_R (111), ab_R (112), ab_R (113), ab_I (0), ab_I (1), ab_I (0), ab_I (0), ab_I (0), ab_I (0), ab_I (0), ab_R (114), ab_I (0), ab_R (115), ab_I (0), ab_R (116), ab_R (117), ab_I (0), ab_R (118), ab_I (0), ab_R (119), ab_R (120), ab_R (121), ab_R (122), ab_R (123), ab_R (124), ab_R (125), ab_I (0), ab_I (0), ab_J (0), ab_R (126), ab_R (127), ab_R (128)])).set 110 (ab_ai 0 7 (ab_up (fun _ => 0) (0) (0)))).set 112 (ab_ai 0 6 (ab_up (fun _ => 0) (0) (0))))) rfl ?_
  refine ev_iconst de_Mo_fails_19 ?_
  exact ev_zreturn de_Mo_fails_20 rfl (by decide) ⟨rfl, rfl⟩
theorem de_Mo_clauseHere_0 : decode prog_14_method_40_code 0 = .ok (.aload_n 0, 1) := by decide +kernel
theorem de_Mo_clauseHere_1 : decode prog_14_method_40_code 1 = .ok (.invokevirtual 90, 3) := by decide +kernel
theorem de_Mo_clauseHere_4 : decode prog_14_method_40_code 4 = .ok (.pop, 1) := by decide +kernel
theorem de_Mo_clauseHere_5 : decode prog_14_method_40_code 5 = .ok (.aload_n 0, 1) := by decide +kernel
theorem de_Mo_clauseHere_6 : decode prog_14_method_40_code 6 = .ok (.getfield 87, 3) := by decide +kernel
theorem de_Mo_clauseHere_9 : decode prog_14_method_40_code 9 = .ok (.istore_n 1, 1) := by decide +kernel
theorem de_Mo_clauseHere_10 : decode prog_14_method_40_code 10 = .ok (.aload_n 0, 1) := by decide +kernel
theorem de_Mo_clauseHere_11 : decode prog_14_method_40_code 11 = .ok (.getfield 143, 3) := by decide +kernel
theorem de_Mo_clauseHere_14 : decode prog_14_method_40_code 14 = .ok (.bipush 6, 2) := by decide +kernel
theorem de_Mo_clauseHere_16 : decode prog_14_method_40_code 16 = .ok (.if_icmp .ne 7, 3) := by decide +kernel
theorem de_Mo_clauseHere_23 : decode prog_14_method_40_code 23 = .ok (.iconst 0, 1) := by decide +kernel
theorem de_Mo_clauseHere_24 : decode prog_14_method_40_code 24 = .ok (.istore_n 2, 1) := by decide +kernel
theorem de_Mo_clauseHere_25 : decode prog_14_method_40_code 25 = .ok (.iload_n 2, 1) := by decide +kernel
theorem de_Mo_clauseHere_26 : decode prog_14_method_40_code 26 = .ok (.ifCond .eq 13, 3) := by decide +kernel
theorem de_Mo_clauseHere_39 : decode prog_14_method_40_code 39 = .ok (.aload_n 0, 1) := by decide +kernel
theorem de_Mo_clauseHere_40 : decode prog_14_method_40_code 40 = .ok (.ldc2_w 252, 3) := by decide +kernel
theorem de_Mo_clauseHere_43 : decode prog_14_method_40_code 43 = .ok (.invokevirtual 98, 3) := by decide +kernel
theorem de_Mo_clauseHere_46 : decode prog_14_method_40_code 46 = .ok (.ifCond .ne 10, 3) := by decide +kernel
theorem de_Mo_clauseHere_49 : decode prog_14_method_40_code 49 = .ok (.aload_n 0, 1) := by decide +kernel
theorem de_Mo_clauseHere_50 : decode prog_14_method_40_code 50 = .ok (.iconst 0, 1) := by decide +kernel
theorem de_Mo_clauseHere_51 : decode prog_14_method_40_code 51 = .ok (.iload_n 1, 1) := by decide +kernel
theorem de_Mo_clauseHere_52 : decode prog_14_method_40_code 52 = .ok (.invokevirtual 108, 3) := by decide +kernel
theorem de_Mo_clauseHere_55 : decode prog_14_method_40_code 55 = .ok (.ireturn, 1) := by decide +kernel
set_option maxHeartbeats 4000000 in
set_option maxRecDepth 20000 in
theorem fx_49  : ab_Mt g_G g_rs mt_Mo_clauseHere 3 0 0 [ab_R (107)] (((((fw_0.set 1 (ab_ob 8 [ab_R (2), ab_I (0), ab_I (0), ab_R (ab_sb + 2), ab_I (1), ab_I (0), ab_I ((-1)), ab_I ((-1)), ab_I ((-1))])).set 36 (ab_ob 7 [ab_R (37), ab_I (2), ab_I (1)])).set 37 (ab_ai 0 400 (ab_up (ab_up (fun _ => 0) (0) ((-1))) (1) ((-34))))).set 110 (ab_ai 0 7 (ab_up (fun _ => 0) (0) (0)))).set 112 (ab_ai 0 6 (ab_up (fun _ => 0) (0) (0)))) (ab_is (some (ab_I (0))) ((((((fw_0.set 1 (ab_ob 8 [ab_R (2), ab_I (0), ab_I (0), ab_R (ab_sb + 2), ab_I (1), ab_I (0), ab_I ((-1)), ab_I ((-1)), ab_I ((-1))])).set 36 (ab_ob 7 [ab_R (37), ab_I (2), ab_I (1)])).set 37 (ab_ai 0 400 (ab_up (ab_up (fun _ => 0) (0) ((-1))) (1) ((-34))))).set 107 (ab_ob 11 [ab_R (108), ab_I (0), ab_I (0), ab_R (109), ab_R (110), ab_R (111), ab_R (112), ab_R (113), ab_I (0), ab_I (1), ab_I (0), ab_I (0), ab_I (0), ab_I (0), ab_I (0), ab_R (114), ab_I (0), ab_R (115), ab_I (0), ab_R (116), ab_R (117), ab_I (0), ab_R (118), ab_I (0), ab_R (119), ab_R (120), ab_R (121), ab_R (122), ab_R (123), ab_R (124), ab_R (125), ab_I (0), ab_I (0), ab_J (0), ab_R (126), ab_R (127), ab_R (128)])).set 110 (ab_ai 0 7 (ab_up (fun _ => 0) (0) (0)))).set 112 (ab_ai 0 6 (ab_up (fun _ => 0) (0) (0))))) := by
  refine ab_Mt.of rfl (Nat.le_of_ble_eq_true rfl) ?_
  show ab_Ev g_G g_rs mt_Mo_clauseHere _ _ _ 0 [some (ab_R (107)), none, none] [] _ _
  refine ev_aload_n de_Mo_clauseHere_0 rfl rfl ?_
  refine ev_vv (ci := 11) de_Mo_clauseHere_1 fx_50 kb_Mo_90 ⟨im_Mo_see, se_Mo_see⟩ rfl rfl rfl (Nat.le_of_ble_eq_true rfl) (by decide) rfl ?_
  refine ev_pop de_Mo_clauseHere_4 rfl ?_
  refine ev_aload_n de_Mo_clauseHere_5 rfl rfl ?_
  refine ev_getfield de_Mo_clauseHere_6 rfl fl_Mo_87 rfl ?_
  refine ev_istore_n (l' := [_, _, _]) de_Mo_clauseHere_9 rfl (Nat.le_of_ble_eq_true rfl) rfl ?_
  refine ev_aload_n de_Mo_clauseHere_10 rfl rfl ?_
  refine ev_getfield de_Mo_clauseHere_11 rfl fl_Mo_143 rfl ?_
  refine ev_bipush de_Mo_clauseHere_14 rfl ?_
  refine ev_icmp_ne (tgt := 23) de_Mo_clauseHere_16 (by decide) (by decide) (by decide) (fun _ => ?_) (fun h => absurd h (by decide))
  refine ev_iconst de_Mo_clauseHere_23 ?_
  refine ev_istore_n (l' := [_, _, _]) de_Mo_clauseHere_24 rfl (Nat.le_of_ble_eq_true rfl) rfl ?_
  refine ev_iload_n de_Mo_clauseHere_25 rfl rfl ?_
  refine ev_if_eq (tgt := 39) de_Mo_clauseHere_26 (by decide) (by decide) (fun _ => ?_) (fun h => absurd h (by decide))
  refine ev_aload_n de_Mo_clauseHere_39 rfl rfl ?_
  refine ev_ldc2i (n := 1953854062) de_Mo_clauseHere_40 cn_Mo_252 (by decide) ?_
  refine ev_vv (ci := 11) de_Mo_clauseHere_43 fx_51 kb_Mo_98 ⟨im_Mo_isWord, se_Mo_isWord⟩ rfl rfl rfl (Nat.le_of_ble_eq_true rfl) (by decide) rfl ?_
  refine ev_if_ne (tgt := 56) de_Mo_clauseHere_46 (by decide) (by decide) (fun h => absurd h (by decide)) (fun _ => ?_)
  refine ev_aload_n de_Mo_clauseHere_49 rfl rfl ?_
  refine ev_iconst de_Mo_clauseHere_50 ?_
  refine ev_iload_n de_Mo_clauseHere_51 rfl rfl ?_
  refine ev_vv (ci := 11) de_Mo_clauseHere_52 fx_53 kb_Mo_108 ⟨im_Mo_fails, se_Mo_fails⟩ rfl rfl rfl (Nat.le_of_ble_eq_true rfl) (by decide) rfl ?_
  exact ev_zreturn de_Mo_clauseHere_55 rfl (by decide) ⟨rfl, rfl⟩
theorem de_Mo_readsAll_0 : decode prog_14_method_41_code 0 = .ok (.aload_n 0, 1) := by decide +kernel
theorem de_Mo_readsAll_1 : decode prog_14_method_41_code 1 = .ok (.getfield 17, 3) := by decide +kernel
theorem de_Mo_readsAll_4 : decode prog_14_method_41_code 4 = .ok (.aload_n 0, 1) := by decide +kernel
theorem de_Mo_readsAll_5 : decode prog_14_method_41_code 5 = .ok (.getfield 143, 3) := by decide +kernel
theorem de_Mo_readsAll_8 : decode prog_14_method_41_code 8 = .ok (.iconst 0, 1) := by decide +kernel
theorem de_Mo_readsAll_9 : decode prog_14_method_41_code 9 = .ok (.iastore, 1) := by decide +kernel
theorem de_Mo_readsAll_10 : decode prog_14_method_41_code 10 = .ok (.aload_n 0, 1) := by decide +kernel
theorem de_Mo_readsAll_11 : decode prog_14_method_41_code 11 = .ok (.iconst 0, 1) := by decide +kernel
theorem de_Mo_readsAll_12 : decode prog_14_method_41_code 12 = .ok (.putfield 254, 3) := by decide +kernel
theorem de_Mo_readsAll_15 : decode prog_14_method_41_code 15 = .ok (.aload_n 0, 1) := by decide +kernel
theorem de_Mo_readsAll_16 : decode prog_14_method_41_code 16 = .ok (.iconst 0, 1) := by decide +kernel
theorem de_Mo_readsAll_17 : decode prog_14_method_41_code 17 = .ok (.putfield 87, 3) := by decide +kernel
theorem de_Mo_readsAll_20 : decode prog_14_method_41_code 20 = .ok (.aload_n 0, 1) := by decide +kernel
theorem de_Mo_readsAll_21 : decode prog_14_method_41_code 21 = .ok (.iconst 0, 1) := by decide +kernel
theorem de_Mo_readsAll_22 : decode prog_14_method_41_code 22 = .ok (.putfield 84, 3) := by decide +kernel
theorem de_Mo_readsAll_25 : decode prog_14_method_41_code 25 = .ok (.aload_n 0, 1) := by decide +kernel
theorem de_Mo_readsAll_26 : decode prog_14_method_41_code 26 = .ok (.iconst 0, 1) := by decide +kernel
theorem de_Mo_readsAll_27 : decode prog_14_method_41_code 27 = .ok (.putfield 146, 3) := by decide +kernel
theorem de_Mo_readsAll_30 : decode prog_14_method_41_code 30 = .ok (.aload_n 0, 1) := by decide +kernel
theorem de_Mo_readsAll_31 : decode prog_14_method_41_code 31 = .ok (.invokevirtual 263, 3) := by decide +kernel
theorem de_Mo_readsAll_34 : decode prog_14_method_41_code 34 = .ok (.istore_n 1, 1) := by decide +kernel
theorem de_Mo_readsAll_35 : decode prog_14_method_41_code 35 = .ok (.iload_n 1, 1) := by decide +kernel
theorem de_Mo_readsAll_36 : decode prog_14_method_41_code 36 = .ok (.ifCond .eq 30, 3) := by decide +kernel
theorem de_Mo_readsAll_66 : decode prog_14_method_41_code 66 = .ok (.iload_n 1, 1) := by decide +kernel
theorem de_Mo_readsAll_67 : decode prog_14_method_41_code 67 = .ok (.ifCond .eq 21, 3) := by decide +kernel
theorem de_Mo_readsAll_88 : decode prog_14_method_41_code 88 = .ok (.aload_n 0, 1) := by decide +kernel
theorem de_Mo_readsAll_89 : decode prog_14_method_41_code 89 = .ok (.iconst 0, 1) := by decide +kernel
theorem de_Mo_readsAll_90 : decode prog_14_method_41_code 90 = .ok (.putfield 76, 3) := by decide +kernel
theorem de_Mo_readsAll_93 : decode prog_14_method_41_code 93 = .ok (.aload_n 0, 1) := by decide +kernel
theorem de_Mo_readsAll_94 : decode prog_14_method_41_code 94 = .ok (.getfield 84, 3) := by decide +kernel
theorem de_Mo_readsAll_97 : decode prog_14_method_41_code 97 = .ok (.ifCond .ne 7, 3) := by decide +kernel
theorem de_Mo_readsAll_104 : decode prog_14_method_41_code 104 = .ok (.iconst 0, 1) := by decide +kernel
theorem de_Mo_readsAll_105 : decode prog_14_method_41_code 105 = .ok (.ireturn, 1) := by decide +kernel
set_option maxHeartbeats 4000000 in
set_option maxRecDepth 20000 in
theorem fx_48  : ab_Mt g_G g_rs mt_Mo_readsAll 4 0 0 [ab_R (107)] ((((fw_0.set 1 (ab_ob 8 [ab_R (2), ab_I (0), ab_I (0), ab_R (ab_sb + 2), ab_I (1), ab_I (0), ab_I ((-1)), ab_I ((-1)), ab_I ((-1))])).set 36 (ab_ob 7 [ab_R (37), ab_I (2), ab_I (1)])).set 37 (ab_ai 0 400 (ab_up (ab_up (fun _ => 0) (0) ((-1))) (1) ((-34))))).set 112 (ab_ai 0 6 (ab_up (fun _ => 0) (0) (0)))) (ab_is (some (ab_I (0))) ((((((fw_0.set 1 (ab_ob 8 [ab_R (2), ab_I (0), ab_I (0), ab_R (ab_sb + 2), ab_I (1), ab_I (0), ab_I ((-1)), ab_I ((-1)), ab_I ((-1))])).set 36 (ab_ob 7 [ab_R (37), ab_I (2), ab_I (1)])).set 37 (ab_ai 0 400 (ab_up (ab_up (fun _ => 0) (0) ((-1))) (1) ((-34))))).set 107 (ab_ob 11 [ab_R (108), ab_I (0), ab_I (0), ab_R (109), ab_R (110), ab_R (111), ab_R (112), ab_R (113), ab_I (0), ab_I (1), ab_I (0), ab_I (0), ab_I (0), ab_I (0), ab_I (0), ab_R (114), ab_I (0), ab_R (115), ab_I (0), ab_R (116), ab_R (117), ab_I (0), ab_R (118), ab_I (0), ab_R (119), ab_R (120), ab_R (121), ab_R (122), ab_R (123), ab_R (124), ab_R (125), ab_I (0), ab_I (0), ab_J (0), ab_R (126), ab_R (127), ab_R (128)])).set 110 (ab_ai 0 7 (ab_up (fun _ => 0) (0) (0)))).set 112 (ab_ai 0 6 (ab_up (fun _ => 0) (0) (0))))) := by
  refine ab_Mt.of rfl (Nat.le_of_ble_eq_true rfl) ?_
  show ab_Ev g_G g_rs mt_Mo_readsAll _ _ _ 0 [some (ab_R (107)), none] [] _ _
  refine ev_aload_n de_Mo_readsAll_0 rfl rfl ?_
  refine ev_getfield de_Mo_readsAll_1 rfl fl_Mo_17 rfl ?_
  refine ev_aload_n de_Mo_readsAll_4 rfl rfl ?_
  refine ev_getfield de_Mo_readsAll_5 rfl fl_Mo_143 rfl ?_
  refine ev_iconst de_Mo_readsAll_8 ?_
  refine ev_iastore de_Mo_readsAll_9 rfl (by decide) (by decide) (by decide) ?_
  refine ev_world (w' := (((((fw_0.set 1 (ab_ob 8 [ab_R (2), ab_I (0), ab_I (0), ab_R (ab_sb + 2), ab_I (1), ab_I (0), ab_I ((-1)), ab_I ((-1)), ab_I ((-1))])).set 36 (ab_ob 7 [ab_R (37), ab_I (2), ab_I (1)])).set 37 (ab_ai 0 400 (ab_up (ab_up (fun _ => 0) (0) ((-1))) (1) ((-34))))).set 110 (ab_ai 0 7 (ab_up (fun _ => 0) (0) (0)))).set 112 (ab_ai 0 6 (ab_up (fun _ => 0) (0) (0))))) rfl ?_
  refine ev_aload_n de_Mo_readsAll_10 rfl rfl ?_
  refine ev_iconst de_Mo_readsAll_11 ?_
  refine ev_putfield de_Mo_readsAll_12 rfl (fp_Mo_254 _) (Nat.le_of_ble_eq_true rfl) trivial ?_
  refine ev_world (w' := (((((fw_0.set 1 (ab_ob 8 [ab_R (2), ab_I (0), ab_I (0), ab_R (ab_sb + 2), ab_I (1), ab_I (0), ab_I ((-1)), ab_I ((-1)), ab_I ((-1))])).set 36 (ab_ob 7 [ab_R (37), ab_I (2), ab_I (1)])).set 37 (ab_ai 0 400 (ab_up (ab_up (fun _ => 0) (0) ((-1))) (1) ((-34))))).set 110 (ab_ai 0 7 (ab_up (fun _ => 0) (0) (0)))).set 112 (ab_ai 0 6 (ab_up (fun _ => 0) (0) (0))))) rfl ?_
  refine ev_aload_n de_Mo_readsAll_15 rfl rfl ?_
  refine ev_iconst de_Mo_readsAll_16 ?_
  refine ev_putfield de_Mo_readsAll_17 rfl (fp_Mo_87 _) (Nat.le_of_ble_eq_true rfl) trivial ?_
  refine ev_world (w' := (((((fw_0.set 1 (ab_ob 8 [ab_R (2), ab_I (0), ab_I (0), ab_R (ab_sb + 2), ab_I (1), ab_I (0), ab_I ((-1)), ab_I ((-1)), ab_I ((-1))])).set 36 (ab_ob 7 [ab_R (37), ab_I (2), ab_I (1)])).set 37 (ab_ai 0 400 (ab_up (ab_up (fun _ => 0) (0) ((-1))) (1) ((-34))))).set 110 (ab_ai 0 7 (ab_up (fun _ => 0) (0) (0)))).set 112 (ab_ai 0 6 (ab_up (fun _ => 0) (0) (0))))) rfl ?_
  refine ev_aload_n de_Mo_readsAll_20 rfl rfl ?_
  refine ev_iconst de_Mo_readsAll_21 ?_
  refine ev_putfield de_Mo_readsAll_22 rfl (fp_Mo_84 _) (Nat.le_of_ble_eq_true rfl) trivial ?_
  refine ev_world (w' := (((((fw_0.set 1 (ab_ob 8 [ab_R (2), ab_I (0), ab_I (0), ab_R (ab_sb + 2), ab_I (1), ab_I (0), ab_I ((-1)), ab_I ((-1)), ab_I ((-1))])).set 36 (ab_ob 7 [ab_R (37), ab_I (2), ab_I (1)])).set 37 (ab_ai 0 400 (ab_up (ab_up (fun _ => 0) (0) ((-1))) (1) ((-34))))).set 110 (ab_ai 0 7 (ab_up (fun _ => 0) (0) (0)))).set 112 (ab_ai 0 6 (ab_up (fun _ => 0) (0) (0))))) rfl ?_
  refine ev_aload_n de_Mo_readsAll_25 rfl rfl ?_
  refine ev_iconst de_Mo_readsAll_26 ?_
  refine ev_putfield de_Mo_readsAll_27 rfl (fp_Mo_146 _) (Nat.le_of_ble_eq_true rfl) trivial ?_
  refine ev_world (w' := (((((fw_0.set 1 (ab_ob 8 [ab_R (2), ab_I (0), ab_I (0), ab_R (ab_sb + 2), ab_I (1), ab_I (0), ab_I ((-1)), ab_I ((-1)), ab_I ((-1))])).set 36 (ab_ob 7 [ab_R (37), ab_I (2), ab_I (1)])).set 37 (ab_ai 0 400 (ab_up (ab_up (fun _ => 0) (0) ((-1))) (1) ((-34))))).set 110 (ab_ai 0 7 (ab_up (fun _ => 0) (0) (0)))).set 112 (ab_ai 0 6 (ab_up (fun _ => 0) (0) (0))))) rfl ?_
  refine ev_aload_n de_Mo_readsAll_30 rfl rfl ?_
  refine ev_vv (ci := 11) de_Mo_readsAll_31 fx_49 kb_Mo_263 ⟨im_Mo_clauseHere, se_Mo_clauseHere⟩ rfl rfl rfl (Nat.le_of_ble_eq_true rfl) (by decide) rfl ?_
  refine ev_istore_n (l' := [_, _]) de_Mo_readsAll_34 rfl (Nat.le_of_ble_eq_true rfl) rfl ?_
  refine ev_iload_n de_Mo_readsAll_35 rfl rfl ?_
  refine ev_if_eq (tgt := 66) de_Mo_readsAll_36 (by decide) (by decide) (fun _ => ?_) (fun h => absurd h (by decide))
  refine ev_iload_n de_Mo_readsAll_66 rfl rfl ?_
  refine ev_if_eq (tgt := 88) de_Mo_readsAll_67 (by decide) (by decide) (fun _ => ?_) (fun h => absurd h (by decide))
  refine ev_aload_n de_Mo_readsAll_88 rfl rfl ?_
  refine ev_iconst de_Mo_readsAll_89 ?_
  refine ev_putfield de_Mo_readsAll_90 rfl (fp_Mo_76 _) (Nat.le_of_ble_eq_true rfl) trivial ?_
  refine ev_world (w' := ((((((fw_0.set 1 (ab_ob 8 [ab_R (2), ab_I (0), ab_I (0), ab_R (ab_sb + 2), ab_I (1), ab_I (0), ab_I ((-1)), ab_I ((-1)), ab_I ((-1))])).set 36 (ab_ob 7 [ab_R (37), ab_I (2), ab_I (1)])).set 37 (ab_ai 0 400 (ab_up (ab_up (fun _ => 0) (0) ((-1))) (1) ((-34))))).set 107 (ab_ob 11 [ab_R (108), ab_I (0), ab_I (0), ab_R (109), ab_R (110), ab_R (111), ab_R (112), ab_R (113), ab_I (0), ab_I (1), ab_I (0), ab_I (0), ab_I (0), ab_I (0), ab_I (0), ab_R (114), ab_I (0), ab_R (115), ab_I (0), ab_R (116), ab_R (117), ab_I (0), ab_R (118), ab_I (0), ab_R (119), ab_R (120), ab_R (121), ab_R (122), ab_R (123), ab_R (124), ab_R (125), ab_I (0), ab_I (0), ab_J (0), ab_R (126), ab_R (127), ab_R (128)])).set 110 (ab_ai 0 7 (ab_up (fun _ => 0) (0) (0)))).set 112 (ab_ai 0 6 (ab_up (fun _ => 0) (0) (0))))) rfl ?_
  refine ev_aload_n de_Mo_readsAll_93 rfl rfl ?_
  refine ev_getfield de_Mo_readsAll_94 rfl fl_Mo_84 rfl ?_
  refine ev_if_ne (tgt := 104) de_Mo_readsAll_97 (by decide) (by decide) (fun _ => ?_) (fun h => absurd h (by decide))
  refine ev_iconst de_Mo_readsAll_104 ?_
  exact ev_zreturn de_Mo_readsAll_105 rfl (by decide) ⟨rfl, rfl⟩
theorem de_Mo_rule_0 : decode prog_14_method_42_code 0 = .ok (.aload_n 0, 1) := by decide +kernel
theorem de_Mo_rule_1 : decode prog_14_method_42_code 1 = .ok (.getfield 266, 3) := by decide +kernel
theorem de_Mo_rule_4 : decode prog_14_method_42_code 4 = .ok (.bipush 6, 2) := by decide +kernel
theorem de_Mo_rule_6 : decode prog_14_method_42_code 6 = .ok (.if_icmp .ne 5, 3) := by decide +kernel
theorem de_Mo_rule_11 : decode prog_14_method_42_code 11 = .ok (.aload_n 0, 1) := by decide +kernel
theorem de_Mo_rule_12 : decode prog_14_method_42_code 12 = .ok (.aload_n 0, 1) := by decide +kernel
theorem de_Mo_rule_13 : decode prog_14_method_42_code 13 = .ok (.getfield 266, 3) := by decide +kernel
theorem de_Mo_rule_16 : decode prog_14_method_42_code 16 = .ok (.putfield 143, 3) := by decide +kernel
theorem de_Mo_rule_19 : decode prog_14_method_42_code 19 = .ok (.aload_n 0, 1) := by decide +kernel
theorem de_Mo_rule_20 : decode prog_14_method_42_code 20 = .ok (.getfield 23, 3) := by decide +kernel
theorem de_Mo_rule_23 : decode prog_14_method_42_code 23 = .ok (.aload_n 0, 1) := by decide +kernel
theorem de_Mo_rule_24 : decode prog_14_method_42_code 24 = .ok (.getfield 143, 3) := by decide +kernel
theorem de_Mo_rule_27 : decode prog_14_method_42_code 27 = .ok (.iconst 0, 1) := by decide +kernel
theorem de_Mo_rule_28 : decode prog_14_method_42_code 28 = .ok (.iastore, 1) := by decide +kernel
theorem de_Mo_rule_29 : decode prog_14_method_42_code 29 = .ok (.aload_n 0, 1) := by decide +kernel
theorem de_Mo_rule_30 : decode prog_14_method_42_code 30 = .ok (.invokevirtual 269, 3) := by decide +kernel
theorem de_Mo_rule_33 : decode prog_14_method_42_code 33 = .ok (.ifCond .ne 11, 3) := by decide +kernel
theorem de_Mo_rule_36 : decode prog_14_method_42_code 36 = .ok (.bipush (-2), 2) := by decide +kernel
theorem de_Mo_rule_38 : decode prog_14_method_42_code 38 = .ok (.aload_n 0, 1) := by decide +kernel
theorem de_Mo_rule_39 : decode prog_14_method_42_code 39 = .ok (.getfield 84, 3) := by decide +kernel
theorem de_Mo_rule_42 : decode prog_14_method_42_code 42 = .ok (.isub, 1) := by decide +kernel
theorem de_Mo_rule_43 : decode prog_14_method_42_code 43 = .ok (.ireturn, 1) := by decide +kernel
set_option maxHeartbeats 4000000 in
set_option maxRecDepth 20000 in
theorem yy_rule_0  : ab_Mt g_G g_rs mt_Mo_rule 5 0 0 [ab_R (107)] (((fw_0.set 1 (ab_ob 8 [ab_R (2), ab_I (0), ab_I (0), ab_R (ab_sb + 2), ab_I (1), ab_I (0), ab_I ((-1)), ab_I ((-1)), ab_I ((-1))])).set 36 (ab_ob 7 [ab_R (37), ab_I (2), ab_I (1)])).set 37 (ab_ai 0 400 (ab_up (ab_up (fun _ => 0) (0) ((-1))) (1) ((-34))))) (ab_is (some (ab_I ((-3)))) ((((((fw_0.set 1 (ab_ob 8 [ab_R (2), ab_I (0), ab_I (0), ab_R (ab_sb + 2), ab_I (1), ab_I (0), ab_I ((-1)), ab_I ((-1)), ab_I ((-1))])).set 36 (ab_ob 7 [ab_R (37), ab_I (2), ab_I (1)])).set 37 (ab_ai 0 400 (ab_up (ab_up (fun _ => 0) (0) ((-1))) (1) ((-34))))).set 107 (ab_ob 11 [ab_R (108), ab_I (0), ab_I (0), ab_R (109), ab_R (110), ab_R (111), ab_R (112), ab_R (113), ab_I (0), ab_I (1), ab_I (0), ab_I (0), ab_I (0), ab_I (0), ab_I (0), ab_R (114), ab_I (0), ab_R (115), ab_I (0), ab_R (116), ab_R (117), ab_I (0), ab_R (118), ab_I (0), ab_R (119), ab_R (120), ab_R (121), ab_R (122), ab_R (123), ab_R (124), ab_R (125), ab_I (0), ab_I (0), ab_J (0), ab_R (126), ab_R (127), ab_R (128)])).set 110 (ab_ai 0 7 (ab_up (fun _ => 0) (0) (0)))).set 112 (ab_ai 0 6 (ab_up (fun _ => 0) (0) (0))))) := by
  refine ab_Mt.of rfl (Nat.le_of_ble_eq_true rfl) ?_
  show ab_Ev g_G g_rs mt_Mo_rule _ _ _ 0 [some (ab_R (107))] [] _ _
  refine ev_aload_n de_Mo_rule_0 rfl rfl ?_
  refine ev_getfield de_Mo_rule_1 rfl fl_Mo_266 rfl ?_
  refine ev_bipush de_Mo_rule_4 rfl ?_
  refine ev_icmp_ne (tgt := 11) de_Mo_rule_6 (by decide) (by decide) (by decide) (fun _ => ?_) (fun h => absurd h (by decide))
  refine ev_aload_n de_Mo_rule_11 rfl rfl ?_
  refine ev_aload_n de_Mo_rule_12 rfl rfl ?_
  refine ev_getfield de_Mo_rule_13 rfl fl_Mo_266 rfl ?_
  refine ev_putfield de_Mo_rule_16 rfl (fp_Mo_143 _) (Nat.le_of_ble_eq_true rfl) trivial ?_
  refine ev_world (w' := (((fw_0.set 1 (ab_ob 8 [ab_R (2), ab_I (0), ab_I (0), ab_R (ab_sb + 2), ab_I (1), ab_I (0), ab_I ((-1)), ab_I ((-1)), ab_I ((-1))])).set 36 (ab_ob 7 [ab_R (37), ab_I (2), ab_I (1)])).set 37 (ab_ai 0 400 (ab_up (ab_up (fun _ => 0) (0) ((-1))) (1) ((-34)))))) rfl ?_
  refine ev_aload_n de_Mo_rule_19 rfl rfl ?_
  refine ev_getfield de_Mo_rule_20 rfl fl_Mo_23 rfl ?_
  refine ev_aload_n de_Mo_rule_23 rfl rfl ?_
  refine ev_getfield de_Mo_rule_24 rfl fl_Mo_143 rfl ?_
  refine ev_iconst de_Mo_rule_27 ?_
  refine ev_iastore de_Mo_rule_28 rfl (by decide) (by decide) (by decide) ?_
  refine ev_world (w' := ((((fw_0.set 1 (ab_ob 8 [ab_R (2), ab_I (0), ab_I (0), ab_R (ab_sb + 2), ab_I (1), ab_I (0), ab_I ((-1)), ab_I ((-1)), ab_I ((-1))])).set 36 (ab_ob 7 [ab_R (37), ab_I (2), ab_I (1)])).set 37 (ab_ai 0 400 (ab_up (ab_up (fun _ => 0) (0) ((-1))) (1) ((-34))))).set 112 (ab_ai 0 6 (ab_up (fun _ => 0) (0) (0))))) rfl ?_
  refine ev_aload_n de_Mo_rule_29 rfl rfl ?_
  refine ev_vv (ci := 11) de_Mo_rule_30 fx_48 kb_Mo_269 ⟨im_Mo_readsAll, se_Mo_readsAll⟩ rfl rfl rfl (Nat.le_of_ble_eq_true rfl) (by decide) rfl ?_
  refine ev_if_ne (tgt := 44) de_Mo_rule_33 (by decide) (by decide) (fun h => absurd h (by decide)) (fun _ => ?_)
  refine ev_bipush de_Mo_rule_36 rfl ?_
  refine ev_aload_n de_Mo_rule_38 rfl rfl ?_
  refine ev_getfield de_Mo_rule_39 rfl fl_Mo_84 rfl ?_
  refine ev_isub de_Mo_rule_42 ?_
  refine ev_top (b := ab_I ((-3))) rfl ?_
  exact ev_ireturn de_Mo_rule_43 rfl ⟨rfl, rfl⟩
theorem de_Tu_hasHouse_0 : decode prog_1_method_37_code 0 = .ok (.iload_n 1, 1) := by decide +kernel
theorem de_Tu_hasHouse_1 : decode prog_1_method_37_code 1 = .ok (.ifCond .lt 18, 3) := by decide +kernel
theorem de_Tu_hasHouse_4 : decode prog_1_method_37_code 4 = .ok (.iload_n 1, 1) := by decide +kernel
theorem de_Tu_hasHouse_5 : decode prog_1_method_37_code 5 = .ok (.aload_n 0, 1) := by decide +kernel
theorem de_Tu_hasHouse_6 : decode prog_1_method_37_code 6 = .ok (.getfield 19, 3) := by decide +kernel
theorem de_Tu_hasHouse_9 : decode prog_1_method_37_code 9 = .ok (.getfield 102, 3) := by decide +kernel
theorem de_Tu_hasHouse_12 : decode prog_1_method_37_code 12 = .ok (.if_icmp .ge 7, 3) := by decide +kernel
theorem de_Tu_hasHouse_19 : decode prog_1_method_37_code 19 = .ok (.iconst 0, 1) := by decide +kernel
theorem de_Tu_hasHouse_20 : decode prog_1_method_37_code 20 = .ok (.ireturn, 1) := by decide +kernel
set_option maxHeartbeats 4000000 in
set_option maxRecDepth 20000 in
theorem fx_55 (v0 : Int) (hv0 : ab_in v0) : ab_Mt g_G g_rs mt_Tu_hasHouse 1 0 0 [ab_R (0), ab_I (v0)] fw_0 (ab_is (some (ab_I (0))) fw_0) := by
  refine ab_Mt.of rfl (Nat.le_of_ble_eq_true rfl) ?_
  show ab_Ev g_G g_rs mt_Tu_hasHouse _ _ _ 0 [some (ab_R (0)), some (ab_I (v0))] [] _ _
  refine ev_iload_n de_Tu_hasHouse_0 rfl rfl ?_
  refine ev_if_lt (tgt := 19) de_Tu_hasHouse_1 (by decide) (by omega) (fun h1 => ?_) (fun h1 => ?_)
  · skip
    refine ev_iconst de_Tu_hasHouse_19 ?_
    exact ev_zreturn de_Tu_hasHouse_20 rfl (by decide) ⟨rfl, rfl⟩
  · skip
    refine ev_iload_n de_Tu_hasHouse_4 rfl rfl ?_
    refine ev_aload_n de_Tu_hasHouse_5 rfl rfl ?_
    refine ev_getfield de_Tu_hasHouse_6 rfl fl_Tu_19 rfl ?_
    refine ev_getfield de_Tu_hasHouse_9 rfl fl_Tu_102 rfl ?_
    refine ev_icmp_ge (tgt := 19) de_Tu_hasHouse_12 (by decide) (by omega) (by decide) (fun h12 => ?_) (fun h => absurd h (by omega))
    refine ev_iconst de_Tu_hasHouse_19 ?_
    exact ev_zreturn de_Tu_hasHouse_20 rfl (by decide) ⟨rfl, rfl⟩
theorem de_Tu_house_0 : decode prog_1_method_6_code 0 = .ok (.aload_n 0, 1) := by decide +kernel
theorem de_Tu_house_1 : decode prog_1_method_6_code 1 = .ok (.iload_n 1, 1) := by decide +kernel
theorem de_Tu_house_2 : decode prog_1_method_6_code 2 = .ok (.invokevirtual 118, 3) := by decide +kernel
theorem de_Tu_house_5 : decode prog_1_method_6_code 5 = .ok (.ifCond .ne 7, 3) := by decide +kernel
theorem de_Tu_house_8 : decode prog_1_method_6_code 8 = .ok (.sipush (-1000), 3) := by decide +kernel
theorem de_Tu_house_11 : decode prog_1_method_6_code 11 = .ok (.ireturn, 1) := by decide +kernel
set_option maxHeartbeats 4000000 in
set_option maxRecDepth 20000 in
theorem xx_house_0 (v0 : Int) (hv0 : ab_in v0) (v1 : Int) (hv1 : ab_in v1) : ab_Mt g_G g_rs mt_Tu_house 2 0 0 [ab_R (0), ab_I (v0), ab_I (v1)] fw_0 (ab_is (some (ab_I ((-1000)))) fw_0) := by
  refine ab_Mt.of rfl (Nat.le_of_ble_eq_true rfl) ?_
  show ab_Ev g_G g_rs mt_Tu_house _ _ _ 0 [some (ab_R (0)), some (ab_I (v0)), some (ab_I (v1))] [] _ _
  refine ev_aload_n de_Tu_house_0 rfl rfl ?_
  refine ev_iload_n de_Tu_house_1 rfl rfl ?_
  refine ev_vv (ci := 10) de_Tu_house_2 (fx_55 v0 hv0) kb_Tu_118 ⟨im_Tu_hasHouse, se_Tu_hasHouse⟩ rfl rfl rfl (Nat.le_of_ble_eq_true rfl) (by decide) rfl ?_
  refine ev_if_ne (tgt := 12) de_Tu_house_5 (by decide) (by decide) (fun h => absurd h (by decide)) (fun _ => ?_)
  refine ev_sipush de_Tu_house_8 rfl ?_
  exact ev_ireturn de_Tu_house_11 rfl ⟨rfl, rfl⟩
theorem de_Mo_isHouse_0 : decode prog_14_method_50_code 0 = .ok (.iload_n 1, 1) := by decide +kernel
theorem de_Mo_isHouse_1 : decode prog_14_method_50_code 1 = .ok (.ifCond .lt 17, 3) := by decide +kernel
theorem de_Mo_isHouse_4 : decode prog_14_method_50_code 4 = .ok (.iload_n 1, 1) := by decide +kernel
theorem de_Mo_isHouse_5 : decode prog_14_method_50_code 5 = .ok (.aload_n 0, 1) := by decide +kernel
theorem de_Mo_isHouse_6 : decode prog_14_method_50_code 6 = .ok (.getfield 39, 3) := by decide +kernel
theorem de_Mo_isHouse_9 : decode prog_14_method_50_code 9 = .ok (.iconst 1, 1) := by decide +kernel
theorem de_Mo_isHouse_10 : decode prog_14_method_50_code 10 = .ok (.iaload, 1) := by decide +kernel
theorem de_Mo_isHouse_11 : decode prog_14_method_50_code 11 = .ok (.if_icmp .ge 7, 3) := by decide +kernel
theorem de_Mo_isHouse_18 : decode prog_14_method_50_code 18 = .ok (.iconst 0, 1) := by decide +kernel
theorem de_Mo_isHouse_19 : decode prog_14_method_50_code 19 = .ok (.ireturn, 1) := by decide +kernel
set_option maxHeartbeats 4000000 in
set_option maxRecDepth 20000 in
theorem fx_57 (v0 : Int) (hv0 : ab_in v0) : ab_Mt g_G g_rs mt_Mo_isHouse 1 0 0 [ab_R (107), ab_I (v0)] fw_0 (ab_is (some (ab_I (0))) fw_0) := by
  refine ab_Mt.of rfl (Nat.le_of_ble_eq_true rfl) ?_
  show ab_Ev g_G g_rs mt_Mo_isHouse _ _ _ 0 [some (ab_R (107)), some (ab_I (v0))] [] _ _
  refine ev_iload_n de_Mo_isHouse_0 rfl rfl ?_
  refine ev_if_lt (tgt := 18) de_Mo_isHouse_1 (by decide) (by omega) (fun h1 => ?_) (fun h1 => ?_)
  · skip
    refine ev_iconst de_Mo_isHouse_18 ?_
    exact ev_zreturn de_Mo_isHouse_19 rfl (by decide) ⟨rfl, rfl⟩
  · skip
    refine ev_iload_n de_Mo_isHouse_4 rfl rfl ?_
    refine ev_aload_n de_Mo_isHouse_5 rfl rfl ?_
    refine ev_getfield de_Mo_isHouse_6 rfl fl_Mo_39 rfl ?_
    refine ev_iconst de_Mo_isHouse_9 ?_
    refine ev_iaload de_Mo_isHouse_10 rfl (by decide) (by decide) (by decide) ?_
    refine ev_top (b := ab_I (0)) rfl ?_
    refine ev_icmp_ge (tgt := 18) de_Mo_isHouse_11 (by decide) (by omega) (by decide) (fun h11 => ?_) (fun h => absurd h (by omega))
    refine ev_iconst de_Mo_isHouse_18 ?_
    exact ev_zreturn de_Mo_isHouse_19 rfl (by decide) ⟨rfl, rfl⟩
theorem de_Mo_house_0 : decode prog_14_method_62_code 0 = .ok (.aload_n 0, 1) := by decide +kernel
theorem de_Mo_house_1 : decode prog_14_method_62_code 1 = .ok (.iload_n 1, 1) := by decide +kernel
theorem de_Mo_house_2 : decode prog_14_method_62_code 2 = .ok (.invokevirtual 316, 3) := by decide +kernel
theorem de_Mo_house_5 : decode prog_14_method_62_code 5 = .ok (.ifCond .ne 7, 3) := by decide +kernel
theorem de_Mo_house_8 : decode prog_14_method_62_code 8 = .ok (.sipush (-1000), 3) := by decide +kernel
theorem de_Mo_house_11 : decode prog_14_method_62_code 11 = .ok (.ireturn, 1) := by decide +kernel
set_option maxHeartbeats 4000000 in
set_option maxRecDepth 20000 in
theorem yy_house_0 (v0 : Int) (hv0 : ab_in v0) (v1 : Int) (hv1 : ab_in v1) : ab_Mt g_G g_rs mt_Mo_house 2 0 0 [ab_R (107), ab_I (v0), ab_I (v1)] fw_0 (ab_is (some (ab_I ((-1000)))) fw_0) := by
  refine ab_Mt.of rfl (Nat.le_of_ble_eq_true rfl) ?_
  show ab_Ev g_G g_rs mt_Mo_house _ _ _ 0 [some (ab_R (107)), some (ab_I (v0)), some (ab_I (v1))] [] _ _
  refine ev_aload_n de_Mo_house_0 rfl rfl ?_
  refine ev_iload_n de_Mo_house_1 rfl rfl ?_
  refine ev_vv (ci := 11) de_Mo_house_2 (fx_57 v0 hv0) kb_Mo_316 ⟨im_Mo_isHouse, se_Mo_isHouse⟩ rfl rfl rfl (Nat.le_of_ble_eq_true rfl) (by decide) rfl ?_
  refine ev_if_ne (tgt := 12) de_Mo_house_5 (by decide) (by decide) (fun h => absurd h (by decide)) (fun _ => ?_)
  refine ev_sipush de_Mo_house_8 rfl ?_
  exact ev_ireturn de_Mo_house_11 rfl ⟨rfl, rfl⟩
theorem de_Tu_direction_0 : decode prog_1_method_7_code 0 = .ok (.aload_n 0, 1) := by decide +kernel
theorem de_Tu_direction_1 : decode prog_1_method_7_code 1 = .ok (.getfield 19, 3) := by decide +kernel
theorem de_Tu_direction_4 : decode prog_1_method_7_code 4 = .ok (.getfield 152, 3) := by decide +kernel
theorem de_Tu_direction_7 : decode prog_1_method_7_code 7 = .ok (.ifCond .eq 10, 3) := by decide +kernel
theorem de_Tu_direction_17 : decode prog_1_method_7_code 17 = .ok (.bipush (-2), 2) := by decide +kernel
theorem de_Tu_direction_19 : decode prog_1_method_7_code 19 = .ok (.ireturn, 1) := by decide +kernel
set_option maxHeartbeats 4000000 in
set_option maxRecDepth 20000 in
theorem xx_direction_0 (v0 : Int) (hv0 : ab_in v0) (v1 : Int) (hv1 : ab_in v1) : ab_Mt g_G g_rs mt_Tu_direction 1 0 0 [ab_R (0), ab_I (v0), ab_I (v1)] fw_0 (ab_is (some (ab_I ((-2)))) fw_0) := by
  refine ab_Mt.of rfl (Nat.le_of_ble_eq_true rfl) ?_
  show ab_Ev g_G g_rs mt_Tu_direction _ _ _ 0 [some (ab_R (0)), some (ab_I (v0)), some (ab_I (v1))] [] _ _
  refine ev_aload_n de_Tu_direction_0 rfl rfl ?_
  refine ev_getfield de_Tu_direction_1 rfl fl_Tu_19 rfl ?_
  refine ev_getfield de_Tu_direction_4 rfl fl_Tu_152 rfl ?_
  refine ev_if_eq (tgt := 17) de_Tu_direction_7 (by decide) (by decide) (fun _ => ?_) (fun h => absurd h (by decide))
  refine ev_bipush de_Tu_direction_17 rfl ?_
  exact ev_ireturn de_Tu_direction_19 rfl ⟨rfl, rfl⟩
theorem de_Mo_isRing_0 : decode prog_14_method_49_code 0 = .ok (.aload_n 0, 1) := by decide +kernel
theorem de_Mo_isRing_1 : decode prog_14_method_49_code 1 = .ok (.getfield 39, 3) := by decide +kernel
theorem de_Mo_isRing_4 : decode prog_14_method_49_code 4 = .ok (.iconst 0, 1) := by decide +kernel
theorem de_Mo_isRing_5 : decode prog_14_method_49_code 5 = .ok (.iaload, 1) := by decide +kernel
theorem de_Mo_isRing_6 : decode prog_14_method_49_code 6 = .ok (.ifCond .le 7, 3) := by decide +kernel
theorem de_Mo_isRing_13 : decode prog_14_method_49_code 13 = .ok (.iconst 0, 1) := by decide +kernel
theorem de_Mo_isRing_14 : decode prog_14_method_49_code 14 = .ok (.ireturn, 1) := by decide +kernel
set_option maxHeartbeats 4000000 in
set_option maxRecDepth 20000 in
theorem fx_60  : ab_Mt g_G g_rs mt_Mo_isRing 1 0 0 [ab_R (107)] fw_0 (ab_is (some (ab_I (0))) fw_0) := by
  refine ab_Mt.of rfl (Nat.le_of_ble_eq_true rfl) ?_
  show ab_Ev g_G g_rs mt_Mo_isRing _ _ _ 0 [some (ab_R (107))] [] _ _
  refine ev_aload_n de_Mo_isRing_0 rfl rfl ?_
  refine ev_getfield de_Mo_isRing_1 rfl fl_Mo_39 rfl ?_
  refine ev_iconst de_Mo_isRing_4 ?_
  refine ev_iaload de_Mo_isRing_5 rfl (by decide) (by decide) (by decide) ?_
  refine ev_top (b := ab_I (0)) rfl ?_
  refine ev_if_le (tgt := 13) de_Mo_isRing_6 (by decide) (by decide) (fun _ => ?_) (fun h => absurd h (by decide))
  refine ev_iconst de_Mo_isRing_13 ?_
  exact ev_zreturn de_Mo_isRing_14 rfl (by decide) ⟨rfl, rfl⟩
theorem de_Mo_direction_0 : decode prog_14_method_63_code 0 = .ok (.aload_n 0, 1) := by decide +kernel
theorem de_Mo_direction_1 : decode prog_14_method_63_code 1 = .ok (.invokevirtual 323, 3) := by decide +kernel
theorem de_Mo_direction_4 : decode prog_14_method_63_code 4 = .ok (.ifCond .eq 27, 3) := by decide +kernel
theorem de_Mo_direction_31 : decode prog_14_method_63_code 31 = .ok (.bipush (-2), 2) := by decide +kernel
theorem de_Mo_direction_33 : decode prog_14_method_63_code 33 = .ok (.ireturn, 1) := by decide +kernel
set_option maxHeartbeats 4000000 in
set_option maxRecDepth 20000 in
theorem yy_direction_0 (v0 : Int) (hv0 : ab_in v0) (v1 : Int) (hv1 : ab_in v1) : ab_Mt g_G g_rs mt_Mo_direction 2 0 0 [ab_R (107), ab_I (v0), ab_I (v1)] fw_0 (ab_is (some (ab_I ((-2)))) fw_0) := by
  refine ab_Mt.of rfl (Nat.le_of_ble_eq_true rfl) ?_
  show ab_Ev g_G g_rs mt_Mo_direction _ _ _ 0 [some (ab_R (107)), some (ab_I (v0)), some (ab_I (v1)), none] [] _ _
  refine ev_aload_n de_Mo_direction_0 rfl rfl ?_
  refine ev_vv (ci := 11) de_Mo_direction_1 fx_60 kb_Mo_323 ⟨im_Mo_isRing, se_Mo_isRing⟩ rfl rfl rfl (Nat.le_of_ble_eq_true rfl) (by decide) rfl ?_
  refine ev_if_eq (tgt := 31) de_Mo_direction_4 (by decide) (by decide) (fun _ => ?_) (fun h => absurd h (by decide))
  refine ev_bipush de_Mo_direction_31 rfl ?_
  exact ev_ireturn de_Mo_direction_33 rfl ⟨rfl, rfl⟩
theorem de_Tu_rateOf_0 : decode prog_1_method_8_code 0 = .ok (.aload_n 0, 1) := by decide +kernel
theorem de_Tu_rateOf_1 : decode prog_1_method_8_code 1 = .ok (.getfield 19, 3) := by decide +kernel
theorem de_Tu_rateOf_4 : decode prog_1_method_8_code 4 = .ok (.getfield 152, 3) := by decide +kernel
theorem de_Tu_rateOf_7 : decode prog_1_method_8_code 7 = .ok (.ifCond .eq 22, 3) := by decide +kernel
theorem de_Tu_rateOf_29 : decode prog_1_method_8_code 29 = .ok (.sipush (-1000), 3) := by decide +kernel
theorem de_Tu_rateOf_32 : decode prog_1_method_8_code 32 = .ok (.ireturn, 1) := by decide +kernel
set_option maxHeartbeats 4000000 in
set_option maxRecDepth 20000 in
theorem xx_rateOf_0 (v0 : Int) (hv0 : ab_in v0) : ab_Mt g_G g_rs mt_Tu_rateOf 1 0 0 [ab_R (0), ab_I (v0)] fw_0 (ab_is (some (ab_I ((-1000)))) fw_0) := by
  refine ab_Mt.of rfl (Nat.le_of_ble_eq_true rfl) ?_
  show ab_Ev g_G g_rs mt_Tu_rateOf _ _ _ 0 [some (ab_R (0)), some (ab_I (v0))] [] _ _
  refine ev_aload_n de_Tu_rateOf_0 rfl rfl ?_
  refine ev_getfield de_Tu_rateOf_1 rfl fl_Tu_19 rfl ?_
  refine ev_getfield de_Tu_rateOf_4 rfl fl_Tu_152 rfl ?_
  refine ev_if_eq (tgt := 29) de_Tu_rateOf_7 (by decide) (by decide) (fun _ => ?_) (fun h => absurd h (by decide))
  refine ev_sipush de_Tu_rateOf_29 rfl ?_
  exact ev_ireturn de_Tu_rateOf_32 rfl ⟨rfl, rfl⟩
theorem de_Mo_rateOf_0 : decode prog_14_method_64_code 0 = .ok (.aload_n 0, 1) := by decide +kernel
theorem de_Mo_rateOf_1 : decode prog_14_method_64_code 1 = .ok (.invokevirtual 323, 3) := by decide +kernel
theorem de_Mo_rateOf_4 : decode prog_14_method_64_code 4 = .ok (.ifCond .eq 27, 3) := by decide +kernel
theorem de_Mo_rateOf_31 : decode prog_14_method_64_code 31 = .ok (.sipush (-1000), 3) := by decide +kernel
theorem de_Mo_rateOf_34 : decode prog_14_method_64_code 34 = .ok (.ireturn, 1) := by decide +kernel
set_option maxHeartbeats 4000000 in
set_option maxRecDepth 20000 in
theorem yy_rateOf_0 (v0 : Int) (hv0 : ab_in v0) : ab_Mt g_G g_rs mt_Mo_rateOf 2 0 0 [ab_R (107), ab_I (v0)] fw_0 (ab_is (some (ab_I ((-1000)))) fw_0) := by
  refine ab_Mt.of rfl (Nat.le_of_ble_eq_true rfl) ?_
  show ab_Ev g_G g_rs mt_Mo_rateOf _ _ _ 0 [some (ab_R (107)), some (ab_I (v0))] [] _ _
  refine ev_aload_n de_Mo_rateOf_0 rfl rfl ?_
  refine ev_vv (ci := 11) de_Mo_rateOf_1 fx_60 kb_Mo_323 ⟨im_Mo_isRing, se_Mo_isRing⟩ rfl rfl rfl (Nat.le_of_ble_eq_true rfl) (by decide) rfl ?_
  refine ev_if_eq (tgt := 31) de_Mo_rateOf_4 (by decide) (by decide) (fun _ => ?_) (fun h => absurd h (by decide))
  refine ev_sipush de_Mo_rateOf_31 rfl ?_
  exact ev_ireturn de_Mo_rateOf_34 rfl ⟨rfl, rfl⟩
theorem de_Tu_worn_0 : decode prog_1_method_9_code 0 = .ok (.aload_n 0, 1) := by decide +kernel
theorem de_Tu_worn_1 : decode prog_1_method_9_code 1 = .ok (.getfield 19, 3) := by decide +kernel
theorem de_Tu_worn_4 : decode prog_1_method_9_code 4 = .ok (.getfield 152, 3) := by decide +kernel
theorem de_Tu_worn_7 : decode prog_1_method_9_code 7 = .ok (.ifCond .eq 22, 3) := by decide +kernel
theorem de_Tu_worn_29 : decode prog_1_method_9_code 29 = .ok (.iconst (-1), 1) := by decide +kernel
theorem de_Tu_worn_30 : decode prog_1_method_9_code 30 = .ok (.ireturn, 1) := by decide +kernel
set_option maxHeartbeats 4000000 in
set_option maxRecDepth 20000 in
theorem xx_worn_0 (v0 : Int) (hv0 : ab_in v0) : ab_Mt g_G g_rs mt_Tu_worn 1 0 0 [ab_R (0), ab_I (v0)] fw_0 (ab_is (some (ab_I ((-1)))) fw_0) := by
  refine ab_Mt.of rfl (Nat.le_of_ble_eq_true rfl) ?_
  show ab_Ev g_G g_rs mt_Tu_worn _ _ _ 0 [some (ab_R (0)), some (ab_I (v0))] [] _ _
  refine ev_aload_n de_Tu_worn_0 rfl rfl ?_
  refine ev_getfield de_Tu_worn_1 rfl fl_Tu_19 rfl ?_
  refine ev_getfield de_Tu_worn_4 rfl fl_Tu_152 rfl ?_
  refine ev_if_eq (tgt := 29) de_Tu_worn_7 (by decide) (by decide) (fun _ => ?_) (fun h => absurd h (by decide))
  refine ev_iconst de_Tu_worn_29 ?_
  exact ev_ireturn de_Tu_worn_30 rfl ⟨rfl, rfl⟩
theorem de_Mo_worn_0 : decode prog_14_method_65_code 0 = .ok (.aload_n 0, 1) := by decide +kernel
theorem de_Mo_worn_1 : decode prog_14_method_65_code 1 = .ok (.invokevirtual 323, 3) := by decide +kernel
theorem de_Mo_worn_4 : decode prog_14_method_65_code 4 = .ok (.ifCond .eq 27, 3) := by decide +kernel
theorem de_Mo_worn_31 : decode prog_14_method_65_code 31 = .ok (.iconst (-1), 1) := by decide +kernel
theorem de_Mo_worn_32 : decode prog_14_method_65_code 32 = .ok (.ireturn, 1) := by decide +kernel
set_option maxHeartbeats 4000000 in
set_option maxRecDepth 20000 in
theorem yy_worn_0 (v0 : Int) (hv0 : ab_in v0) : ab_Mt g_G g_rs mt_Mo_worn 2 0 0 [ab_R (107), ab_I (v0)] fw_0 (ab_is (some (ab_I ((-1)))) fw_0) := by
  refine ab_Mt.of rfl (Nat.le_of_ble_eq_true rfl) ?_
  show ab_Ev g_G g_rs mt_Mo_worn _ _ _ 0 [some (ab_R (107)), some (ab_I (v0))] [] _ _
  refine ev_aload_n de_Mo_worn_0 rfl rfl ?_
  refine ev_vv (ci := 11) de_Mo_worn_1 fx_60 kb_Mo_323 ⟨im_Mo_isRing, se_Mo_isRing⟩ rfl rfl rfl (Nat.le_of_ble_eq_true rfl) (by decide) rfl ?_
  refine ev_if_eq (tgt := 31) de_Mo_worn_4 (by decide) (by decide) (fun _ => ?_) (fun h => absurd h (by decide))
  refine ev_iconst de_Mo_worn_31 ?_
  exact ev_ireturn de_Mo_worn_32 rfl ⟨rfl, rfl⟩
theorem de_Tu_hour_0 : decode prog_1_method_11_code 0 = .ok (.aload_n 0, 1) := by decide +kernel
theorem de_Tu_hour_1 : decode prog_1_method_11_code 1 = .ok (.getfield 19, 3) := by decide +kernel
theorem de_Tu_hour_4 : decode prog_1_method_11_code 4 = .ok (.getfield 152, 3) := by decide +kernel
theorem de_Tu_hour_7 : decode prog_1_method_11_code 7 = .ok (.ifCond .eq 17, 3) := by decide +kernel
theorem de_Tu_hour_24 : decode prog_1_method_11_code 24 = .ok (.iconst (-1), 1) := by decide +kernel
theorem de_Tu_hour_25 : decode prog_1_method_11_code 25 = .ok (.ireturn, 1) := by decide +kernel
set_option maxHeartbeats 4000000 in
set_option maxRecDepth 20000 in
theorem xx_hour_0  : ab_Mt g_G g_rs mt_Tu_hour 1 0 0 [ab_R (0)] fw_0 (ab_is (some (ab_I ((-1)))) fw_0) := by
  refine ab_Mt.of rfl (Nat.le_of_ble_eq_true rfl) ?_
  show ab_Ev g_G g_rs mt_Tu_hour _ _ _ 0 [some (ab_R (0)), none, none] [] _ _
  refine ev_aload_n de_Tu_hour_0 rfl rfl ?_
  refine ev_getfield de_Tu_hour_1 rfl fl_Tu_19 rfl ?_
  refine ev_getfield de_Tu_hour_4 rfl fl_Tu_152 rfl ?_
  refine ev_if_eq (tgt := 24) de_Tu_hour_7 (by decide) (by decide) (fun _ => ?_) (fun h => absurd h (by decide))
  refine ev_iconst de_Tu_hour_24 ?_
  exact ev_ireturn de_Tu_hour_25 rfl ⟨rfl, rfl⟩
theorem de_Mo_hour_0 : decode prog_14_method_73_code 0 = .ok (.aload_n 0, 1) := by decide +kernel
theorem de_Mo_hour_1 : decode prog_14_method_73_code 1 = .ok (.invokevirtual 323, 3) := by decide +kernel
theorem de_Mo_hour_4 : decode prog_14_method_73_code 4 = .ok (.ifCond .eq 11, 3) := by decide +kernel
theorem de_Mo_hour_15 : decode prog_14_method_73_code 15 = .ok (.iconst (-1), 1) := by decide +kernel
theorem de_Mo_hour_16 : decode prog_14_method_73_code 16 = .ok (.ireturn, 1) := by decide +kernel
set_option maxHeartbeats 4000000 in
set_option maxRecDepth 20000 in
theorem yy_hour_0  : ab_Mt g_G g_rs mt_Mo_hour 2 0 0 [ab_R (107)] fw_0 (ab_is (some (ab_I ((-1)))) fw_0) := by
  refine ab_Mt.of rfl (Nat.le_of_ble_eq_true rfl) ?_
  show ab_Ev g_G g_rs mt_Mo_hour _ _ _ 0 [some (ab_R (107))] [] _ _
  refine ev_aload_n de_Mo_hour_0 rfl rfl ?_
  refine ev_vv (ci := 11) de_Mo_hour_1 fx_60 kb_Mo_323 ⟨im_Mo_isRing, se_Mo_isRing⟩ rfl rfl rfl (Nat.le_of_ble_eq_true rfl) (by decide) rfl ?_
  refine ev_if_eq (tgt := 15) de_Mo_hour_4 (by decide) (by decide) (fun _ => ?_) (fun h => absurd h (by decide))
  refine ev_iconst de_Mo_hour_15 ?_
  exact ev_ireturn de_Mo_hour_16 rfl ⟨rfl, rfl⟩
theorem de_Tu_rate_0 : decode prog_1_method_12_code 0 = .ok (.aload_n 0, 1) := by decide +kernel
theorem de_Tu_rate_1 : decode prog_1_method_12_code 1 = .ok (.getfield 19, 3) := by decide +kernel
theorem de_Tu_rate_4 : decode prog_1_method_12_code 4 = .ok (.getfield 152, 3) := by decide +kernel
theorem de_Tu_rate_7 : decode prog_1_method_12_code 7 = .ok (.ifCond .eq 21, 3) := by decide +kernel
theorem de_Tu_rate_28 : decode prog_1_method_12_code 28 = .ok (.sipush (-1000), 3) := by decide +kernel
theorem de_Tu_rate_31 : decode prog_1_method_12_code 31 = .ok (.ireturn, 1) := by decide +kernel
set_option maxHeartbeats 4000000 in
set_option maxRecDepth 20000 in
theorem xx_rate_0 (v0 : Int) (hv0 : ab_in v0) (v1 : Int) (hv1 : ab_in v1) : ab_Mt g_G g_rs mt_Tu_rate 1 0 0 [ab_R (0), ab_I (v0), ab_I (v1)] fw_0 (ab_is (some (ab_I ((-1000)))) fw_0) := by
  refine ab_Mt.of rfl (Nat.le_of_ble_eq_true rfl) ?_
  show ab_Ev g_G g_rs mt_Tu_rate _ _ _ 0 [some (ab_R (0)), some (ab_I (v0)), some (ab_I (v1)), none] [] _ _
  refine ev_aload_n de_Tu_rate_0 rfl rfl ?_
  refine ev_getfield de_Tu_rate_1 rfl fl_Tu_19 rfl ?_
  refine ev_getfield de_Tu_rate_4 rfl fl_Tu_152 rfl ?_
  refine ev_if_eq (tgt := 28) de_Tu_rate_7 (by decide) (by decide) (fun _ => ?_) (fun h => absurd h (by decide))
  refine ev_sipush de_Tu_rate_28 rfl ?_
  exact ev_ireturn de_Tu_rate_31 rfl ⟨rfl, rfl⟩
theorem de_Mo_rate_0 : decode prog_14_method_74_code 0 = .ok (.aload_n 0, 1) := by decide +kernel
theorem de_Mo_rate_1 : decode prog_14_method_74_code 1 = .ok (.invokevirtual 323, 3) := by decide +kernel
theorem de_Mo_rate_4 : decode prog_14_method_74_code 4 = .ok (.ifCond .eq 29, 3) := by decide +kernel
theorem de_Mo_rate_33 : decode prog_14_method_74_code 33 = .ok (.sipush (-1000), 3) := by decide +kernel
theorem de_Mo_rate_36 : decode prog_14_method_74_code 36 = .ok (.ireturn, 1) := by decide +kernel
set_option maxHeartbeats 4000000 in
set_option maxRecDepth 20000 in
theorem yy_rate_0 (v0 : Int) (hv0 : ab_in v0) (v1 : Int) (hv1 : ab_in v1) : ab_Mt g_G g_rs mt_Mo_rate 2 0 0 [ab_R (107), ab_I (v0), ab_I (v1)] fw_0 (ab_is (some (ab_I ((-1000)))) fw_0) := by
  refine ab_Mt.of rfl (Nat.le_of_ble_eq_true rfl) ?_
  show ab_Ev g_G g_rs mt_Mo_rate _ _ _ 0 [some (ab_R (107)), some (ab_I (v0)), some (ab_I (v1)), none] [] _ _
  refine ev_aload_n de_Mo_rate_0 rfl rfl ?_
  refine ev_vv (ci := 11) de_Mo_rate_1 fx_60 kb_Mo_323 ⟨im_Mo_isRing, se_Mo_isRing⟩ rfl rfl rfl (Nat.le_of_ble_eq_true rfl) (by decide) rfl ?_
  refine ev_if_eq (tgt := 33) de_Mo_rate_4 (by decide) (by decide) (fun _ => ?_) (fun h => absurd h (by decide))
  refine ev_sipush de_Mo_rate_33 rfl ?_
  exact ev_ireturn de_Mo_rate_36 rfl ⟨rfl, rfl⟩
theorem de_Tu_swap_0 : decode prog_1_method_13_code 0 = .ok (.aload_n 0, 1) := by decide +kernel
theorem de_Tu_swap_1 : decode prog_1_method_13_code 1 = .ok (.iload_n 1, 1) := by decide +kernel
theorem de_Tu_swap_2 : decode prog_1_method_13_code 2 = .ok (.invokevirtual 118, 3) := by decide +kernel
theorem de_Tu_swap_5 : decode prog_1_method_13_code 5 = .ok (.ifCond .eq 16, 3) := by decide +kernel
theorem de_Tu_swap_21 : decode prog_1_method_13_code 21 = .ok (.iconst 0, 1) := by decide +kernel
theorem de_Tu_swap_22 : decode prog_1_method_13_code 22 = .ok (.ireturn, 1) := by decide +kernel
set_option maxHeartbeats 4000000 in
set_option maxRecDepth 20000 in
theorem xx_swap_0 (v0 : Int) (hv0 : ab_in v0) (v1 : Int) (hv1 : ab_in v1) : ab_Mt g_G g_rs mt_Tu_swap 2 0 0 [ab_R (0), ab_I (v0), ab_I (v1)] fw_0 (ab_is (some (ab_I (0))) fw_0) := by
  refine ab_Mt.of rfl (Nat.le_of_ble_eq_true rfl) ?_
  show ab_Ev g_G g_rs mt_Tu_swap _ _ _ 0 [some (ab_R (0)), some (ab_I (v0)), some (ab_I (v1))] [] _ _
  refine ev_aload_n de_Tu_swap_0 rfl rfl ?_
  refine ev_iload_n de_Tu_swap_1 rfl rfl ?_
  refine ev_vv (ci := 10) de_Tu_swap_2 (fx_55 v0 hv0) kb_Tu_118 ⟨im_Tu_hasHouse, se_Tu_hasHouse⟩ rfl rfl rfl (Nat.le_of_ble_eq_true rfl) (by decide) rfl ?_
  refine ev_if_eq (tgt := 21) de_Tu_swap_5 (by decide) (by decide) (fun _ => ?_) (fun h => absurd h (by decide))
  refine ev_iconst de_Tu_swap_21 ?_
  exact ev_zreturn de_Tu_swap_22 rfl (by decide) ⟨rfl, rfl⟩
theorem de_Mo_swap_0 : decode prog_14_method_75_code 0 = .ok (.aload_n 0, 1) := by decide +kernel
theorem de_Mo_swap_1 : decode prog_14_method_75_code 1 = .ok (.iload_n 1, 1) := by decide +kernel
theorem de_Mo_swap_2 : decode prog_14_method_75_code 2 = .ok (.invokevirtual 316, 3) := by decide +kernel
theorem de_Mo_swap_5 : decode prog_14_method_75_code 5 = .ok (.ifCond .eq 16, 3) := by decide +kernel
theorem de_Mo_swap_21 : decode prog_14_method_75_code 21 = .ok (.iconst 0, 1) := by decide +kernel
theorem de_Mo_swap_22 : decode prog_14_method_75_code 22 = .ok (.ireturn, 1) := by decide +kernel
set_option maxHeartbeats 4000000 in
set_option maxRecDepth 20000 in
theorem yy_swap_0 (v0 : Int) (hv0 : ab_in v0) (v1 : Int) (hv1 : ab_in v1) : ab_Mt g_G g_rs mt_Mo_swap 2 0 0 [ab_R (107), ab_I (v0), ab_I (v1)] fw_0 (ab_is (some (ab_I (0))) fw_0) := by
  refine ab_Mt.of rfl (Nat.le_of_ble_eq_true rfl) ?_
  show ab_Ev g_G g_rs mt_Mo_swap _ _ _ 0 [some (ab_R (107)), some (ab_I (v0)), some (ab_I (v1)), none] [] _ _
  refine ev_aload_n de_Mo_swap_0 rfl rfl ?_
  refine ev_iload_n de_Mo_swap_1 rfl rfl ?_
  refine ev_vv (ci := 11) de_Mo_swap_2 (fx_57 v0 hv0) kb_Mo_316 ⟨im_Mo_isHouse, se_Mo_isHouse⟩ rfl rfl rfl (Nat.le_of_ble_eq_true rfl) (by decide) rfl ?_
  refine ev_if_eq (tgt := 21) de_Mo_swap_5 (by decide) (by decide) (fun _ => ?_) (fun h => absurd h (by decide))
  refine ev_iconst de_Mo_swap_21 ?_
  exact ev_zreturn de_Mo_swap_22 rfl (by decide) ⟨rfl, rfl⟩
theorem de_Tu_stop_0 : decode prog_1_method_14_code 0 = .ok (.aload_n 0, 1) := by decide +kernel
theorem de_Tu_stop_1 : decode prog_1_method_14_code 1 = .ok (.getfield 19, 3) := by decide +kernel
theorem de_Tu_stop_4 : decode prog_1_method_14_code 4 = .ok (.getfield 152, 3) := by decide +kernel
theorem de_Tu_stop_7 : decode prog_1_method_14_code 7 = .ok (.ifCond .eq 13, 3) := by decide +kernel
theorem de_Tu_stop_20 : decode prog_1_method_14_code 20 = .ok (.iconst 0, 1) := by decide +kernel
theorem de_Tu_stop_21 : decode prog_1_method_14_code 21 = .ok (.ireturn, 1) := by decide +kernel
set_option maxHeartbeats 4000000 in
set_option maxRecDepth 20000 in
theorem xx_stop_0  : ab_Mt g_G g_rs mt_Tu_stop 1 0 0 [ab_R (0)] fw_0 (ab_is (some (ab_I (0))) fw_0) := by
  refine ab_Mt.of rfl (Nat.le_of_ble_eq_true rfl) ?_
  show ab_Ev g_G g_rs mt_Tu_stop _ _ _ 0 [some (ab_R (0))] [] _ _
  refine ev_aload_n de_Tu_stop_0 rfl rfl ?_
  refine ev_getfield de_Tu_stop_1 rfl fl_Tu_19 rfl ?_
  refine ev_getfield de_Tu_stop_4 rfl fl_Tu_152 rfl ?_
  refine ev_if_eq (tgt := 20) de_Tu_stop_7 (by decide) (by decide) (fun _ => ?_) (fun h => absurd h (by decide))
  refine ev_iconst de_Tu_stop_20 ?_
  exact ev_zreturn de_Tu_stop_21 rfl (by decide) ⟨rfl, rfl⟩
theorem de_Mo_stop_0 : decode prog_14_method_76_code 0 = .ok (.aload_n 0, 1) := by decide +kernel
theorem de_Mo_stop_1 : decode prog_14_method_76_code 1 = .ok (.invokevirtual 323, 3) := by decide +kernel
theorem de_Mo_stop_4 : decode prog_14_method_76_code 4 = .ok (.ifCond .eq 14, 3) := by decide +kernel
theorem de_Mo_stop_18 : decode prog_14_method_76_code 18 = .ok (.iconst 0, 1) := by decide +kernel
theorem de_Mo_stop_19 : decode prog_14_method_76_code 19 = .ok (.ireturn, 1) := by decide +kernel
set_option maxHeartbeats 4000000 in
set_option maxRecDepth 20000 in
theorem yy_stop_0  : ab_Mt g_G g_rs mt_Mo_stop 2 0 0 [ab_R (107)] fw_0 (ab_is (some (ab_I (0))) fw_0) := by
  refine ab_Mt.of rfl (Nat.le_of_ble_eq_true rfl) ?_
  show ab_Ev g_G g_rs mt_Mo_stop _ _ _ 0 [some (ab_R (107))] [] _ _
  refine ev_aload_n de_Mo_stop_0 rfl rfl ?_
  refine ev_vv (ci := 11) de_Mo_stop_1 fx_60 kb_Mo_323 ⟨im_Mo_isRing, se_Mo_isRing⟩ rfl rfl rfl (Nat.le_of_ble_eq_true rfl) (by decide) rfl ?_
  refine ev_if_eq (tgt := 18) de_Mo_stop_4 (by decide) (by decide) (fun _ => ?_) (fun h => absurd h (by decide))
  refine ev_iconst de_Mo_stop_18 ?_
  exact ev_zreturn de_Mo_stop_19 rfl (by decide) ⟨rfl, rfl⟩
theorem de_Ac_undoLast_0 : decode prog_2_method_4_code 0 = .ok (.aload_n 0, 1) := by decide +kernel
theorem de_Ac_undoLast_1 : decode prog_2_method_4_code 1 = .ok (.getfield 19, 3) := by decide +kernel
theorem de_Ac_undoLast_4 : decode prog_2_method_4_code 4 = .ok (.ifCond .ne 5, 3) := by decide +kernel
theorem de_Ac_undoLast_7 : decode prog_2_method_4_code 7 = .ok (.iconst 0, 1) := by decide +kernel
theorem de_Ac_undoLast_8 : decode prog_2_method_4_code 8 = .ok (.ireturn, 1) := by decide +kernel
set_option maxHeartbeats 4000000 in
set_option maxRecDepth 20000 in
theorem fx_74  : ab_Mt g_G g_rs mt_Ac_undoLast 1 0 0 [ab_R (32), ab_R (3)] fw_0 (ab_is (some (ab_I (0))) fw_0) := by
  refine ab_Mt.of rfl (Nat.le_of_ble_eq_true rfl) ?_
  show ab_Ev g_G g_rs mt_Ac_undoLast _ _ _ 0 [some (ab_R (32)), some (ab_R (3)), none, none] [] _ _
  refine ev_aload_n de_Ac_undoLast_0 rfl rfl ?_
  refine ev_getfield de_Ac_undoLast_1 rfl fl_Ac_19 rfl ?_
  refine ev_if_ne (tgt := 9) de_Ac_undoLast_4 (by decide) (by decide) (fun h => absurd h (by decide)) (fun _ => ?_)
  refine ev_iconst de_Ac_undoLast_7 ?_
  exact ev_zreturn de_Ac_undoLast_8 rfl (by decide) ⟨rfl, rfl⟩
theorem de_Tu_undo_0 : decode prog_1_method_15_code 0 = .ok (.aload_n 0, 1) := by decide +kernel
theorem de_Tu_undo_1 : decode prog_1_method_15_code 1 = .ok (.getfield 43, 3) := by decide +kernel
theorem de_Tu_undo_4 : decode prog_1_method_15_code 4 = .ok (.aload_n 0, 1) := by decide +kernel
theorem de_Tu_undo_5 : decode prog_1_method_15_code 5 = .ok (.getfield 19, 3) := by decide +kernel
theorem de_Tu_undo_8 : decode prog_1_method_15_code 8 = .ok (.invokevirtual 226, 3) := by decide +kernel
theorem de_Tu_undo_11 : decode prog_1_method_15_code 11 = .ok (.ifCond .eq 13, 3) := by decide +kernel
theorem de_Tu_undo_24 : decode prog_1_method_15_code 24 = .ok (.iconst (-1), 1) := by decide +kernel
theorem de_Tu_undo_25 : decode prog_1_method_15_code 25 = .ok (.ireturn, 1) := by decide +kernel
set_option maxHeartbeats 4000000 in
set_option maxRecDepth 20000 in
theorem xx_undo_0  : ab_Mt g_G g_rs mt_Tu_undo 2 0 0 [ab_R (0)] fw_0 (ab_is (some (ab_I ((-1)))) fw_0) := by
  refine ab_Mt.of rfl (Nat.le_of_ble_eq_true rfl) ?_
  show ab_Ev g_G g_rs mt_Tu_undo _ _ _ 0 [some (ab_R (0))] [] _ _
  refine ev_aload_n de_Tu_undo_0 rfl rfl ?_
  refine ev_getfield de_Tu_undo_1 rfl fl_Tu_43 rfl ?_
  refine ev_aload_n de_Tu_undo_4 rfl rfl ?_
  refine ev_getfield de_Tu_undo_5 rfl fl_Tu_19 rfl ?_
  refine ev_vv (ci := 0) de_Tu_undo_8 fx_74 kb_Tu_226 ⟨im_Ac_undoLast, se_Ac_undoLast⟩ rfl rfl rfl (Nat.le_of_ble_eq_true rfl) (by decide) rfl ?_
  refine ev_if_eq (tgt := 24) de_Tu_undo_11 (by decide) (by decide) (fun _ => ?_) (fun h => absurd h (by decide))
  refine ev_iconst de_Tu_undo_24 ?_
  exact ev_ireturn de_Tu_undo_25 rfl ⟨rfl, rfl⟩
theorem de_Mo_undo_0 : decode prog_14_method_71_code 0 = .ok (.aload_n 0, 1) := by decide +kernel
theorem de_Mo_undo_1 : decode prog_14_method_71_code 1 = .ok (.getfield 272, 3) := by decide +kernel
theorem de_Mo_undo_4 : decode prog_14_method_71_code 4 = .ok (.ifCond .ne 5, 3) := by decide +kernel
theorem de_Mo_undo_7 : decode prog_14_method_71_code 7 = .ok (.iconst (-1), 1) := by decide +kernel
theorem de_Mo_undo_8 : decode prog_14_method_71_code 8 = .ok (.ireturn, 1) := by decide +kernel
set_option maxHeartbeats 4000000 in
set_option maxRecDepth 20000 in
theorem yy_undo_0  : ab_Mt g_G g_rs mt_Mo_undo 1 0 0 [ab_R (107)] fw_0 (ab_is (some (ab_I ((-1)))) fw_0) := by
  refine ab_Mt.of rfl (Nat.le_of_ble_eq_true rfl) ?_
  show ab_Ev g_G g_rs mt_Mo_undo _ _ _ 0 [some (ab_R (107)), none] [] _ _
  refine ev_aload_n de_Mo_undo_0 rfl rfl ?_
  refine ev_getfield de_Mo_undo_1 rfl fl_Mo_272 rfl ?_
  refine ev_if_ne (tgt := 9) de_Mo_undo_4 (by decide) (by decide) (fun h => absurd h (by decide)) (fun _ => ?_)
  refine ev_iconst de_Mo_undo_7 ?_
  exact ev_ireturn de_Mo_undo_8 rfl ⟨rfl, rfl⟩
theorem de_Tu_run_0 : decode prog_1_method_16_code 0 = .ok (.aload_n 0, 1) := by decide +kernel
theorem de_Tu_run_1 : decode prog_1_method_16_code 1 = .ok (.getfield 19, 3) := by decide +kernel
theorem de_Tu_run_4 : decode prog_1_method_16_code 4 = .ok (.getfield 152, 3) := by decide +kernel
theorem de_Tu_run_7 : decode prog_1_method_16_code 7 = .ok (.ifCond .eq 36, 3) := by decide +kernel
theorem de_Tu_run_43 : decode prog_1_method_16_code 43 = .ok (.iconst (-1), 1) := by decide +kernel
theorem de_Tu_run_44 : decode prog_1_method_16_code 44 = .ok (.ireturn, 1) := by decide +kernel
set_option maxHeartbeats 4000000 in
set_option maxRecDepth 20000 in
theorem xx_run_0 (v0 : Int) (hv0 : ab_in v0) (v1 : Int) (hv1 : ab_in v1) : ab_Mt g_G g_rs mt_Tu_run 1 0 0 [ab_R (0), ab_I (v0), ab_I (v1)] fw_0 (ab_is (some (ab_I ((-1)))) fw_0) := by
  refine ab_Mt.of rfl (Nat.le_of_ble_eq_true rfl) ?_
  show ab_Ev g_G g_rs mt_Tu_run _ _ _ 0 [some (ab_R (0)), some (ab_I (v0)), some (ab_I (v1)), none] [] _ _
  refine ev_aload_n de_Tu_run_0 rfl rfl ?_
  refine ev_getfield de_Tu_run_1 rfl fl_Tu_19 rfl ?_
  refine ev_getfield de_Tu_run_4 rfl fl_Tu_152 rfl ?_
  refine ev_if_eq (tgt := 43) de_Tu_run_7 (by decide) (by decide) (fun _ => ?_) (fun h => absurd h (by decide))
  refine ev_iconst de_Tu_run_43 ?_
  exact ev_ireturn de_Tu_run_44 rfl ⟨rfl, rfl⟩
theorem de_Mo_run_0 : decode prog_14_method_80_code 0 = .ok (.aload_n 0, 1) := by decide +kernel
theorem de_Mo_run_1 : decode prog_14_method_80_code 1 = .ok (.invokevirtual 323, 3) := by decide +kernel
theorem de_Mo_run_4 : decode prog_14_method_80_code 4 = .ok (.ifCond .eq 31, 3) := by decide +kernel
theorem de_Mo_run_35 : decode prog_14_method_80_code 35 = .ok (.iconst (-1), 1) := by decide +kernel
theorem de_Mo_run_36 : decode prog_14_method_80_code 36 = .ok (.ireturn, 1) := by decide +kernel
set_option maxHeartbeats 4000000 in
set_option maxRecDepth 20000 in
theorem yy_run_0 (v0 : Int) (hv0 : ab_in v0) (v1 : Int) (hv1 : ab_in v1) : ab_Mt g_G g_rs mt_Mo_run 2 0 0 [ab_R (107), ab_I (v0), ab_I (v1)] fw_0 (ab_is (some (ab_I ((-1)))) fw_0) := by
  refine ab_Mt.of rfl (Nat.le_of_ble_eq_true rfl) ?_
  show ab_Ev g_G g_rs mt_Mo_run _ _ _ 0 [some (ab_R (107)), some (ab_I (v0)), some (ab_I (v1)), none] [] _ _
  refine ev_aload_n de_Mo_run_0 rfl rfl ?_
  refine ev_vv (ci := 11) de_Mo_run_1 fx_60 kb_Mo_323 ⟨im_Mo_isRing, se_Mo_isRing⟩ rfl rfl rfl (Nat.le_of_ble_eq_true rfl) (by decide) rfl ?_
  refine ev_if_eq (tgt := 35) de_Mo_run_4 (by decide) (by decide) (fun _ => ?_) (fun h => absurd h (by decide))
  refine ev_iconst de_Mo_run_35 ?_
  exact ev_ireturn de_Mo_run_36 rfl ⟨rfl, rfl⟩
theorem de_Tu_faces_0 : decode prog_1_method_20_code 0 = .ok (.aload_n 0, 1) := by decide +kernel
theorem de_Tu_faces_1 : decode prog_1_method_20_code 1 = .ok (.iload_n 1, 1) := by decide +kernel
theorem de_Tu_faces_2 : decode prog_1_method_20_code 2 = .ok (.invokevirtual 118, 3) := by decide +kernel
theorem de_Tu_faces_5 : decode prog_1_method_20_code 5 = .ok (.ifCond .eq 14, 3) := by decide +kernel
theorem de_Tu_faces_19 : decode prog_1_method_20_code 19 = .ok (.iconst (-1), 1) := by decide +kernel
theorem de_Tu_faces_20 : decode prog_1_method_20_code 20 = .ok (.ireturn, 1) := by decide +kernel
set_option maxHeartbeats 4000000 in
set_option maxRecDepth 20000 in
theorem xx_faces_0 (v0 : Int) (hv0 : ab_in v0) (v1 : Int) (hv1 : ab_in v1) : ab_Mt g_G g_rs mt_Tu_faces 2 0 0 [ab_R (0), ab_I (v0), ab_I (v1)] fw_0 (ab_is (some (ab_I ((-1)))) fw_0) := by
  refine ab_Mt.of rfl (Nat.le_of_ble_eq_true rfl) ?_
  show ab_Ev g_G g_rs mt_Tu_faces _ _ _ 0 [some (ab_R (0)), some (ab_I (v0)), some (ab_I (v1))] [] _ _
  refine ev_aload_n de_Tu_faces_0 rfl rfl ?_
  refine ev_iload_n de_Tu_faces_1 rfl rfl ?_
  refine ev_vv (ci := 10) de_Tu_faces_2 (fx_55 v0 hv0) kb_Tu_118 ⟨im_Tu_hasHouse, se_Tu_hasHouse⟩ rfl rfl rfl (Nat.le_of_ble_eq_true rfl) (by decide) rfl ?_
  refine ev_if_eq (tgt := 19) de_Tu_faces_5 (by decide) (by decide) (fun _ => ?_) (fun h => absurd h (by decide))
  refine ev_iconst de_Tu_faces_19 ?_
  exact ev_ireturn de_Tu_faces_20 rfl ⟨rfl, rfl⟩
theorem de_Mo_faces_0 : decode prog_14_method_83_code 0 = .ok (.aload_n 0, 1) := by decide +kernel
theorem de_Mo_faces_1 : decode prog_14_method_83_code 1 = .ok (.iload_n 1, 1) := by decide +kernel
theorem de_Mo_faces_2 : decode prog_14_method_83_code 2 = .ok (.invokevirtual 316, 3) := by decide +kernel
theorem de_Mo_faces_5 : decode prog_14_method_83_code 5 = .ok (.ifCond .eq 15, 3) := by decide +kernel
theorem de_Mo_faces_20 : decode prog_14_method_83_code 20 = .ok (.iconst (-1), 1) := by decide +kernel
theorem de_Mo_faces_21 : decode prog_14_method_83_code 21 = .ok (.ireturn, 1) := by decide +kernel
set_option maxHeartbeats 4000000 in
set_option maxRecDepth 20000 in
theorem yy_faces_0 (v0 : Int) (hv0 : ab_in v0) (v1 : Int) (hv1 : ab_in v1) : ab_Mt g_G g_rs mt_Mo_faces 2 0 0 [ab_R (107), ab_I (v0), ab_I (v1)] fw_0 (ab_is (some (ab_I ((-1)))) fw_0) := by
  refine ab_Mt.of rfl (Nat.le_of_ble_eq_true rfl) ?_
  show ab_Ev g_G g_rs mt_Mo_faces _ _ _ 0 [some (ab_R (107)), some (ab_I (v0)), some (ab_I (v1)), none] [] _ _
  refine ev_aload_n de_Mo_faces_0 rfl rfl ?_
  refine ev_iload_n de_Mo_faces_1 rfl rfl ?_
  refine ev_vv (ci := 11) de_Mo_faces_2 (fx_57 v0 hv0) kb_Mo_316 ⟨im_Mo_isHouse, se_Mo_isHouse⟩ rfl rfl rfl (Nat.le_of_ble_eq_true rfl) (by decide) rfl ?_
  refine ev_if_eq (tgt := 20) de_Mo_faces_5 (by decide) (by decide) (fun _ => ?_) (fun h => absurd h (by decide))
  refine ev_iconst de_Mo_faces_20 ?_
  exact ev_ireturn de_Mo_faces_21 rfl ⟨rfl, rfl⟩
theorem de_Tu_sees_0 : decode prog_1_method_21_code 0 = .ok (.aload_n 0, 1) := by decide +kernel
theorem de_Tu_sees_1 : decode prog_1_method_21_code 1 = .ok (.iload_n 1, 1) := by decide +kernel
theorem de_Tu_sees_2 : decode prog_1_method_21_code 2 = .ok (.invokevirtual 118, 3) := by decide +kernel
theorem de_Tu_sees_5 : decode prog_1_method_21_code 5 = .ok (.ifCond .eq 14, 3) := by decide +kernel
theorem de_Tu_sees_19 : decode prog_1_method_21_code 19 = .ok (.iconst (-1), 1) := by decide +kernel
theorem de_Tu_sees_20 : decode prog_1_method_21_code 20 = .ok (.ireturn, 1) := by decide +kernel
set_option maxHeartbeats 4000000 in
set_option maxRecDepth 20000 in
theorem xx_sees_0 (v0 : Int) (hv0 : ab_in v0) (v1 : Int) (hv1 : ab_in v1) : ab_Mt g_G g_rs mt_Tu_sees 2 0 0 [ab_R (0), ab_I (v0), ab_I (v1)] fw_0 (ab_is (some (ab_I ((-1)))) fw_0) := by
  refine ab_Mt.of rfl (Nat.le_of_ble_eq_true rfl) ?_
  show ab_Ev g_G g_rs mt_Tu_sees _ _ _ 0 [some (ab_R (0)), some (ab_I (v0)), some (ab_I (v1))] [] _ _
  refine ev_aload_n de_Tu_sees_0 rfl rfl ?_
  refine ev_iload_n de_Tu_sees_1 rfl rfl ?_
  refine ev_vv (ci := 10) de_Tu_sees_2 (fx_55 v0 hv0) kb_Tu_118 ⟨im_Tu_hasHouse, se_Tu_hasHouse⟩ rfl rfl rfl (Nat.le_of_ble_eq_true rfl) (by decide) rfl ?_
  refine ev_if_eq (tgt := 19) de_Tu_sees_5 (by decide) (by decide) (fun _ => ?_) (fun h => absurd h (by decide))
  refine ev_iconst de_Tu_sees_19 ?_
  exact ev_ireturn de_Tu_sees_20 rfl ⟨rfl, rfl⟩
theorem de_Mo_sees_0 : decode prog_14_method_84_code 0 = .ok (.aload_n 0, 1) := by decide +kernel
theorem de_Mo_sees_1 : decode prog_14_method_84_code 1 = .ok (.iload_n 1, 1) := by decide +kernel
theorem de_Mo_sees_2 : decode prog_14_method_84_code 2 = .ok (.invokevirtual 316, 3) := by decide +kernel
theorem de_Mo_sees_5 : decode prog_14_method_84_code 5 = .ok (.ifCond .eq 15, 3) := by decide +kernel
theorem de_Mo_sees_20 : decode prog_14_method_84_code 20 = .ok (.iconst (-1), 1) := by decide +kernel
theorem de_Mo_sees_21 : decode prog_14_method_84_code 21 = .ok (.ireturn, 1) := by decide +kernel
set_option maxHeartbeats 4000000 in
set_option maxRecDepth 20000 in
theorem yy_sees_0 (v0 : Int) (hv0 : ab_in v0) (v1 : Int) (hv1 : ab_in v1) : ab_Mt g_G g_rs mt_Mo_sees 2 0 0 [ab_R (107), ab_I (v0), ab_I (v1)] fw_0 (ab_is (some (ab_I ((-1)))) fw_0) := by
  refine ab_Mt.of rfl (Nat.le_of_ble_eq_true rfl) ?_
  show ab_Ev g_G g_rs mt_Mo_sees _ _ _ 0 [some (ab_R (107)), some (ab_I (v0)), some (ab_I (v1)), none] [] _ _
  refine ev_aload_n de_Mo_sees_0 rfl rfl ?_
  refine ev_iload_n de_Mo_sees_1 rfl rfl ?_
  refine ev_vv (ci := 11) de_Mo_sees_2 (fx_57 v0 hv0) kb_Mo_316 ⟨im_Mo_isHouse, se_Mo_isHouse⟩ rfl rfl rfl (Nat.le_of_ble_eq_true rfl) (by decide) rfl ?_
  refine ev_if_eq (tgt := 20) de_Mo_sees_5 (by decide) (by decide) (fun _ => ?_) (fun h => absurd h (by decide))
  refine ev_iconst de_Mo_sees_20 ?_
  exact ev_ireturn de_Mo_sees_21 rfl ⟨rfl, rfl⟩
theorem de_Tu_day_0 : decode prog_1_method_22_code 0 = .ok (.aload_n 0, 1) := by decide +kernel
theorem de_Tu_day_1 : decode prog_1_method_22_code 1 = .ok (.iload_n 1, 1) := by decide +kernel
theorem de_Tu_day_2 : decode prog_1_method_22_code 2 = .ok (.invokevirtual 118, 3) := by decide +kernel
theorem de_Tu_day_5 : decode prog_1_method_22_code 5 = .ok (.ifCond .eq 23, 3) := by decide +kernel
theorem de_Tu_day_28 : decode prog_1_method_22_code 28 = .ok (.ldc 208, 2) := by decide +kernel
theorem de_Tu_day_30 : decode prog_1_method_22_code 30 = .ok (.ireturn, 1) := by decide +kernel
set_option maxHeartbeats 4000000 in
set_option maxRecDepth 20000 in
theorem xx_day_0 (v0 : Int) (hv0 : ab_in v0) : ab_Mt g_G g_rs mt_Tu_day 2 0 0 [ab_R (0), ab_I (v0)] fw_0 (ab_is (some (ab_I ((-100000)))) fw_0) := by
  refine ab_Mt.of rfl (Nat.le_of_ble_eq_true rfl) ?_
  show ab_Ev g_G g_rs mt_Tu_day _ _ _ 0 [some (ab_R (0)), some (ab_I (v0))] [] _ _
  refine ev_aload_n de_Tu_day_0 rfl rfl ?_
  refine ev_iload_n de_Tu_day_1 rfl rfl ?_
  refine ev_vv (ci := 10) de_Tu_day_2 (fx_55 v0 hv0) kb_Tu_118 ⟨im_Tu_hasHouse, se_Tu_hasHouse⟩ rfl rfl rfl (Nat.le_of_ble_eq_true rfl) (by decide) rfl ?_
  refine ev_if_eq (tgt := 28) de_Tu_day_5 (by decide) (by decide) (fun _ => ?_) (fun h => absurd h (by decide))
  refine ev_ldc (n := -100000) de_Tu_day_28 cn_Tu_208 rfl ?_
  exact ev_ireturn de_Tu_day_30 rfl ⟨rfl, rfl⟩
theorem de_Mo_day_0 : decode prog_14_method_86_code 0 = .ok (.aload_n 0, 1) := by decide +kernel
theorem de_Mo_day_1 : decode prog_14_method_86_code 1 = .ok (.iload_n 1, 1) := by decide +kernel
theorem de_Mo_day_2 : decode prog_14_method_86_code 2 = .ok (.invokevirtual 316, 3) := by decide +kernel
theorem de_Mo_day_5 : decode prog_14_method_86_code 5 = .ok (.ifCond .eq 20, 3) := by decide +kernel
theorem de_Mo_day_25 : decode prog_14_method_86_code 25 = .ok (.ldc_w 399, 3) := by decide +kernel
theorem de_Mo_day_28 : decode prog_14_method_86_code 28 = .ok (.ireturn, 1) := by decide +kernel
set_option maxHeartbeats 4000000 in
set_option maxRecDepth 20000 in
theorem yy_day_0 (v0 : Int) (hv0 : ab_in v0) : ab_Mt g_G g_rs mt_Mo_day 2 0 0 [ab_R (107), ab_I (v0)] fw_0 (ab_is (some (ab_I ((-100000)))) fw_0) := by
  refine ab_Mt.of rfl (Nat.le_of_ble_eq_true rfl) ?_
  show ab_Ev g_G g_rs mt_Mo_day _ _ _ 0 [some (ab_R (107)), some (ab_I (v0))] [] _ _
  refine ev_aload_n de_Mo_day_0 rfl rfl ?_
  refine ev_iload_n de_Mo_day_1 rfl rfl ?_
  refine ev_vv (ci := 11) de_Mo_day_2 (fx_57 v0 hv0) kb_Mo_316 ⟨im_Mo_isHouse, se_Mo_isHouse⟩ rfl rfl rfl (Nat.le_of_ble_eq_true rfl) (by decide) rfl ?_
  refine ev_if_eq (tgt := 25) de_Mo_day_5 (by decide) (by decide) (fun _ => ?_) (fun h => absurd h (by decide))
  refine ev_ldcw (n := -100000) de_Mo_day_25 cn_Mo_399 rfl ?_
  exact ev_ireturn de_Mo_day_28 rfl ⟨rfl, rfl⟩
theorem de_Tu_plan_0 : decode prog_1_method_27_code 0 = .ok (.aload_n 0, 1) := by decide +kernel
theorem de_Tu_plan_1 : decode prog_1_method_27_code 1 = .ok (.getfield 19, 3) := by decide +kernel
theorem de_Tu_plan_4 : decode prog_1_method_27_code 4 = .ok (.getfield 102, 3) := by decide +kernel
theorem de_Tu_plan_7 : decode prog_1_method_27_code 7 = .ok (.ifCond .eq 22, 3) := by decide +kernel
theorem de_Tu_plan_29 : decode prog_1_method_27_code 29 = .ok (.ldc 208, 2) := by decide +kernel
theorem de_Tu_plan_31 : decode prog_1_method_27_code 31 = .ok (.ireturn, 1) := by decide +kernel
set_option maxHeartbeats 4000000 in
set_option maxRecDepth 20000 in
theorem xx_plan_0 (v0 : Int) (hv0 : ab_in v0) (v1 : Int) (hv1 : ab_in v1) (v2 : Int) (hv2 : ab_in v2) : ab_Mt g_G g_rs mt_Tu_plan 1 0 0 [ab_R (0), ab_I (v0), ab_I (v1), ab_I (v2)] fw_0 (ab_is (some (ab_I ((-100000)))) fw_0) := by
  refine ab_Mt.of rfl (Nat.le_of_ble_eq_true rfl) ?_
  show ab_Ev g_G g_rs mt_Tu_plan _ _ _ 0 [some (ab_R (0)), some (ab_I (v0)), some (ab_I (v1)), some (ab_I (v2))] [] _ _
  refine ev_aload_n de_Tu_plan_0 rfl rfl ?_
  refine ev_getfield de_Tu_plan_1 rfl fl_Tu_19 rfl ?_
  refine ev_getfield de_Tu_plan_4 rfl fl_Tu_102 rfl ?_
  refine ev_if_eq (tgt := 29) de_Tu_plan_7 (by decide) (by decide) (fun _ => ?_) (fun h => absurd h (by decide))
  refine ev_ldc (n := -100000) de_Tu_plan_29 cn_Tu_208 rfl ?_
  exact ev_ireturn de_Tu_plan_31 rfl ⟨rfl, rfl⟩
theorem de_Mo_plan_0 : decode prog_14_method_90_code 0 = .ok (.aload_n 0, 1) := by decide +kernel
theorem de_Mo_plan_1 : decode prog_14_method_90_code 1 = .ok (.getfield 39, 3) := by decide +kernel
theorem de_Mo_plan_4 : decode prog_14_method_90_code 4 = .ok (.iconst 1, 1) := by decide +kernel
theorem de_Mo_plan_5 : decode prog_14_method_90_code 5 = .ok (.iaload, 1) := by decide +kernel
theorem de_Mo_plan_6 : decode prog_14_method_90_code 6 = .ok (.ifCond .eq 27, 3) := by decide +kernel
theorem de_Mo_plan_33 : decode prog_14_method_90_code 33 = .ok (.ldc_w 399, 3) := by decide +kernel
theorem de_Mo_plan_36 : decode prog_14_method_90_code 36 = .ok (.ireturn, 1) := by decide +kernel
set_option maxHeartbeats 4000000 in
set_option maxRecDepth 20000 in
theorem yy_plan_0 (v0 : Int) (hv0 : ab_in v0) (v1 : Int) (hv1 : ab_in v1) (v2 : Int) (hv2 : ab_in v2) : ab_Mt g_G g_rs mt_Mo_plan 1 0 0 [ab_R (107), ab_I (v0), ab_I (v1), ab_I (v2)] fw_0 (ab_is (some (ab_I ((-100000)))) fw_0) := by
  refine ab_Mt.of rfl (Nat.le_of_ble_eq_true rfl) ?_
  show ab_Ev g_G g_rs mt_Mo_plan _ _ _ 0 [some (ab_R (107)), some (ab_I (v0)), some (ab_I (v1)), some (ab_I (v2)), none, none, none, none] [] _ _
  refine ev_aload_n de_Mo_plan_0 rfl rfl ?_
  refine ev_getfield de_Mo_plan_1 rfl fl_Mo_39 rfl ?_
  refine ev_iconst de_Mo_plan_4 ?_
  refine ev_iaload de_Mo_plan_5 rfl (by decide) (by decide) (by decide) ?_
  refine ev_top (b := ab_I (0)) rfl ?_
  refine ev_if_eq (tgt := 33) de_Mo_plan_6 (by decide) (by decide) (fun _ => ?_) (fun h => absurd h (by decide))
  refine ev_ldcw (n := -100000) de_Mo_plan_33 cn_Mo_399 rfl ?_
  exact ev_ireturn de_Mo_plan_36 rfl ⟨rfl, rfl⟩
theorem de_Tu_errand_0 : decode prog_1_method_23_code 0 = .ok (.aload_n 0, 1) := by decide +kernel
theorem de_Tu_errand_1 : decode prog_1_method_23_code 1 = .ok (.iload_n 1, 1) := by decide +kernel
theorem de_Tu_errand_2 : decode prog_1_method_23_code 2 = .ok (.invokevirtual 118, 3) := by decide +kernel
theorem de_Tu_errand_5 : decode prog_1_method_23_code 5 = .ok (.ifCond .eq 42, 3) := by decide +kernel
theorem de_Tu_errand_47 : decode prog_1_method_23_code 47 = .ok (.iconst (-1), 1) := by decide +kernel
theorem de_Tu_errand_48 : decode prog_1_method_23_code 48 = .ok (.ireturn, 1) := by decide +kernel
set_option maxHeartbeats 4000000 in
set_option maxRecDepth 20000 in
theorem xx_errand_0 (v0 : Int) (hv0 : ab_in v0) (v1 : Int) (hv1 : ab_in v1) (v2 : Int) (hv2 : ab_in v2) (v3 : Int) (hv3 : ab_in v3) : ab_Mt g_G g_rs mt_Tu_errand 2 0 0 [ab_R (0), ab_I (v0), ab_I (v1), ab_I (v2), ab_I (v3)] fw_0 (ab_is (some (ab_I ((-1)))) fw_0) := by
  refine ab_Mt.of rfl (Nat.le_of_ble_eq_true rfl) ?_
  show ab_Ev g_G g_rs mt_Tu_errand _ _ _ 0 [some (ab_R (0)), some (ab_I (v0)), some (ab_I (v1)), some (ab_I (v2)), some (ab_I (v3)), none, none, none, none, none] [] _ _
  refine ev_aload_n de_Tu_errand_0 rfl rfl ?_
  refine ev_iload_n de_Tu_errand_1 rfl rfl ?_
  refine ev_vv (ci := 10) de_Tu_errand_2 (fx_55 v0 hv0) kb_Tu_118 ⟨im_Tu_hasHouse, se_Tu_hasHouse⟩ rfl rfl rfl (Nat.le_of_ble_eq_true rfl) (by decide) rfl ?_
  refine ev_if_eq (tgt := 47) de_Tu_errand_5 (by decide) (by decide) (fun _ => ?_) (fun h => absurd h (by decide))
  refine ev_iconst de_Tu_errand_47 ?_
  exact ev_ireturn de_Tu_errand_48 rfl ⟨rfl, rfl⟩
theorem de_Mo_errand_0 : decode prog_14_method_93_code 0 = .ok (.aload_n 0, 1) := by decide +kernel
theorem de_Mo_errand_1 : decode prog_14_method_93_code 1 = .ok (.iload_n 1, 1) := by decide +kernel
theorem de_Mo_errand_2 : decode prog_14_method_93_code 2 = .ok (.invokevirtual 316, 3) := by decide +kernel
theorem de_Mo_errand_5 : decode prog_14_method_93_code 5 = .ok (.ifCond .eq 51, 3) := by decide +kernel
theorem de_Mo_errand_56 : decode prog_14_method_93_code 56 = .ok (.iconst (-1), 1) := by decide +kernel
theorem de_Mo_errand_57 : decode prog_14_method_93_code 57 = .ok (.ireturn, 1) := by decide +kernel
set_option maxHeartbeats 4000000 in
set_option maxRecDepth 20000 in
theorem yy_errand_0 (v0 : Int) (hv0 : ab_in v0) (v1 : Int) (hv1 : ab_in v1) (v2 : Int) (hv2 : ab_in v2) (v3 : Int) (hv3 : ab_in v3) : ab_Mt g_G g_rs mt_Mo_errand 2 0 0 [ab_R (107), ab_I (v0), ab_I (v1), ab_I (v2), ab_I (v3)] fw_0 (ab_is (some (ab_I ((-1)))) fw_0) := by
  refine ab_Mt.of rfl (Nat.le_of_ble_eq_true rfl) ?_
  show ab_Ev g_G g_rs mt_Mo_errand _ _ _ 0 [some (ab_R (107)), some (ab_I (v0)), some (ab_I (v1)), some (ab_I (v2)), some (ab_I (v3)), none, none] [] _ _
  refine ev_aload_n de_Mo_errand_0 rfl rfl ?_
  refine ev_iload_n de_Mo_errand_1 rfl rfl ?_
  refine ev_vv (ci := 11) de_Mo_errand_2 (fx_57 v0 hv0) kb_Mo_316 ⟨im_Mo_isHouse, se_Mo_isHouse⟩ rfl rfl rfl (Nat.le_of_ble_eq_true rfl) (by decide) rfl ?_
  refine ev_if_eq (tgt := 56) de_Mo_errand_5 (by decide) (by decide) (fun _ => ?_) (fun h => absurd h (by decide))
  refine ev_iconst de_Mo_errand_56 ?_
  exact ev_ireturn de_Mo_errand_57 rfl ⟨rfl, rfl⟩
theorem de_Tu_stay_0 : decode prog_1_method_25_code 0 = .ok (.aload_n 0, 1) := by decide +kernel
theorem de_Tu_stay_1 : decode prog_1_method_25_code 1 = .ok (.getfield 19, 3) := by decide +kernel
theorem de_Tu_stay_4 : decode prog_1_method_25_code 4 = .ok (.getfield 152, 3) := by decide +kernel
theorem de_Tu_stay_7 : decode prog_1_method_25_code 7 = .ok (.ifCond .eq 12, 3) := by decide +kernel
theorem de_Tu_stay_19 : decode prog_1_method_25_code 19 = .ok (.iconst (-1), 1) := by decide +kernel
theorem de_Tu_stay_20 : decode prog_1_method_25_code 20 = .ok (.ireturn, 1) := by decide +kernel
set_option maxHeartbeats 4000000 in
set_option maxRecDepth 20000 in
theorem xx_stay_0 (v0 : Int) (hv0 : ab_in v0) : ab_Mt g_G g_rs mt_Tu_stay 1 0 0 [ab_R (0), ab_I (v0)] fw_0 (ab_is (some (ab_I ((-1)))) fw_0) := by
  refine ab_Mt.of rfl (Nat.le_of_ble_eq_true rfl) ?_
  show ab_Ev g_G g_rs mt_Tu_stay _ _ _ 0 [some (ab_R (0)), some (ab_I (v0)), none, none] [] _ _
  refine ev_aload_n de_Tu_stay_0 rfl rfl ?_
  refine ev_getfield de_Tu_stay_1 rfl fl_Tu_19 rfl ?_
  refine ev_getfield de_Tu_stay_4 rfl fl_Tu_152 rfl ?_
  refine ev_if_eq (tgt := 19) de_Tu_stay_7 (by decide) (by decide) (fun _ => ?_) (fun h => absurd h (by decide))
  refine ev_iconst de_Tu_stay_19 ?_
  exact ev_ireturn de_Tu_stay_20 rfl ⟨rfl, rfl⟩
theorem de_Mo_stay_0 : decode prog_14_method_94_code 0 = .ok (.aload_n 0, 1) := by decide +kernel
theorem de_Mo_stay_1 : decode prog_14_method_94_code 1 = .ok (.invokevirtual 323, 3) := by decide +kernel
theorem de_Mo_stay_4 : decode prog_14_method_94_code 4 = .ok (.ifCond .eq 13, 3) := by decide +kernel
theorem de_Mo_stay_17 : decode prog_14_method_94_code 17 = .ok (.iconst (-1), 1) := by decide +kernel
theorem de_Mo_stay_18 : decode prog_14_method_94_code 18 = .ok (.ireturn, 1) := by decide +kernel
set_option maxHeartbeats 4000000 in
set_option maxRecDepth 20000 in
theorem yy_stay_0 (v0 : Int) (hv0 : ab_in v0) : ab_Mt g_G g_rs mt_Mo_stay 2 0 0 [ab_R (107), ab_I (v0)] fw_0 (ab_is (some (ab_I ((-1)))) fw_0) := by
  refine ab_Mt.of rfl (Nat.le_of_ble_eq_true rfl) ?_
  show ab_Ev g_G g_rs mt_Mo_stay _ _ _ 0 [some (ab_R (107)), some (ab_I (v0)), none] [] _ _
  refine ev_aload_n de_Mo_stay_0 rfl rfl ?_
  refine ev_vv (ci := 11) de_Mo_stay_1 fx_60 kb_Mo_323 ⟨im_Mo_isRing, se_Mo_isRing⟩ rfl rfl rfl (Nat.le_of_ble_eq_true rfl) (by decide) rfl ?_
  refine ev_if_eq (tgt := 17) de_Mo_stay_4 (by decide) (by decide) (fun _ => ?_) (fun h => absurd h (by decide))
  refine ev_iconst de_Mo_stay_17 ?_
  exact ev_ireturn de_Mo_stay_18 rfl ⟨rfl, rfl⟩
theorem de_Tu_swings_0 : decode prog_1_method_26_code 0 = .ok (.aload_n 0, 1) := by decide +kernel
theorem de_Tu_swings_1 : decode prog_1_method_26_code 1 = .ok (.iload_n 1, 1) := by decide +kernel
theorem de_Tu_swings_2 : decode prog_1_method_26_code 2 = .ok (.invokevirtual 118, 3) := by decide +kernel
theorem de_Tu_swings_5 : decode prog_1_method_26_code 5 = .ok (.ifCond .ne 5, 3) := by decide +kernel
theorem de_Tu_swings_8 : decode prog_1_method_26_code 8 = .ok (.iconst (-1), 1) := by decide +kernel
theorem de_Tu_swings_9 : decode prog_1_method_26_code 9 = .ok (.ireturn, 1) := by decide +kernel
set_option maxHeartbeats 4000000 in
set_option maxRecDepth 20000 in
theorem xx_swings_0 (v0 : Int) (hv0 : ab_in v0) : ab_Mt g_G g_rs mt_Tu_swings 2 0 0 [ab_R (0), ab_I (v0)] fw_0 (ab_is (some (ab_I ((-1)))) fw_0) := by
  refine ab_Mt.of rfl (Nat.le_of_ble_eq_true rfl) ?_
  show ab_Ev g_G g_rs mt_Tu_swings _ _ _ 0 [some (ab_R (0)), some (ab_I (v0)), none, none, none, none] [] _ _
  refine ev_aload_n de_Tu_swings_0 rfl rfl ?_
  refine ev_iload_n de_Tu_swings_1 rfl rfl ?_
  refine ev_vv (ci := 10) de_Tu_swings_2 (fx_55 v0 hv0) kb_Tu_118 ⟨im_Tu_hasHouse, se_Tu_hasHouse⟩ rfl rfl rfl (Nat.le_of_ble_eq_true rfl) (by decide) rfl ?_
  refine ev_if_ne (tgt := 10) de_Tu_swings_5 (by decide) (by decide) (fun h => absurd h (by decide)) (fun _ => ?_)
  refine ev_iconst de_Tu_swings_8 ?_
  exact ev_ireturn de_Tu_swings_9 rfl ⟨rfl, rfl⟩
theorem de_Mo_swings_0 : decode prog_14_method_95_code 0 = .ok (.aload_n 0, 1) := by decide +kernel
theorem de_Mo_swings_1 : decode prog_14_method_95_code 1 = .ok (.iload_n 1, 1) := by decide +kernel
theorem de_Mo_swings_2 : decode prog_14_method_95_code 2 = .ok (.invokevirtual 316, 3) := by decide +kernel
theorem de_Mo_swings_5 : decode prog_14_method_95_code 5 = .ok (.ifCond .ne 5, 3) := by decide +kernel
theorem de_Mo_swings_8 : decode prog_14_method_95_code 8 = .ok (.iconst (-1), 1) := by decide +kernel
theorem de_Mo_swings_9 : decode prog_14_method_95_code 9 = .ok (.ireturn, 1) := by decide +kernel
set_option maxHeartbeats 4000000 in
set_option maxRecDepth 20000 in
theorem yy_swings_0 (v0 : Int) (hv0 : ab_in v0) : ab_Mt g_G g_rs mt_Mo_swings 2 0 0 [ab_R (107), ab_I (v0)] fw_0 (ab_is (some (ab_I ((-1)))) fw_0) := by
  refine ab_Mt.of rfl (Nat.le_of_ble_eq_true rfl) ?_
  show ab_Ev g_G g_rs mt_Mo_swings _ _ _ 0 [some (ab_R (107)), some (ab_I (v0)), none, none, none] [] _ _
  refine ev_aload_n de_Mo_swings_0 rfl rfl ?_
  refine ev_iload_n de_Mo_swings_1 rfl rfl ?_
  refine ev_vv (ci := 11) de_Mo_swings_2 (fx_57 v0 hv0) kb_Mo_316 ⟨im_Mo_isHouse, se_Mo_isHouse⟩ rfl rfl rfl (Nat.le_of_ble_eq_true rfl) (by decide) rfl ?_
  refine ev_if_ne (tgt := 10) de_Mo_swings_5 (by decide) (by decide) (fun h => absurd h (by decide)) (fun _ => ?_)
  refine ev_iconst de_Mo_swings_8 ?_
  exact ev_ireturn de_Mo_swings_9 rfl ⟨rfl, rfl⟩
theorem de_Tu_trade_0 : decode prog_1_method_28_code 0 = .ok (.aload_n 0, 1) := by decide +kernel
theorem de_Tu_trade_1 : decode prog_1_method_28_code 1 = .ok (.getfield 19, 3) := by decide +kernel
theorem de_Tu_trade_4 : decode prog_1_method_28_code 4 = .ok (.getfield 152, 3) := by decide +kernel
theorem de_Tu_trade_7 : decode prog_1_method_28_code 7 = .ok (.ifCond .eq 13, 3) := by decide +kernel
theorem de_Tu_trade_20 : decode prog_1_method_28_code 20 = .ok (.ldc 208, 2) := by decide +kernel
theorem de_Tu_trade_22 : decode prog_1_method_28_code 22 = .ok (.ireturn, 1) := by decide +kernel
set_option maxHeartbeats 4000000 in
set_option maxRecDepth 20000 in
theorem xx_trade_0 (v0 : Int) (hv0 : ab_in v0) : ab_Mt g_G g_rs mt_Tu_trade 1 0 0 [ab_R (0), ab_I (v0)] fw_0 (ab_is (some (ab_I ((-100000)))) fw_0) := by
  refine ab_Mt.of rfl (Nat.le_of_ble_eq_true rfl) ?_
  show ab_Ev g_G g_rs mt_Tu_trade _ _ _ 0 [some (ab_R (0)), some (ab_I (v0))] [] _ _
  refine ev_aload_n de_Tu_trade_0 rfl rfl ?_
  refine ev_getfield de_Tu_trade_1 rfl fl_Tu_19 rfl ?_
  refine ev_getfield de_Tu_trade_4 rfl fl_Tu_152 rfl ?_
  refine ev_if_eq (tgt := 20) de_Tu_trade_7 (by decide) (by decide) (fun _ => ?_) (fun h => absurd h (by decide))
  refine ev_ldc (n := -100000) de_Tu_trade_20 cn_Tu_208 rfl ?_
  exact ev_ireturn de_Tu_trade_22 rfl ⟨rfl, rfl⟩
theorem de_Mo_trade_0 : decode prog_14_method_100_code 0 = .ok (.aload_n 0, 1) := by decide +kernel
theorem de_Mo_trade_1 : decode prog_14_method_100_code 1 = .ok (.invokevirtual 323, 3) := by decide +kernel
theorem de_Mo_trade_4 : decode prog_14_method_100_code 4 = .ok (.ifCond .eq 15, 3) := by decide +kernel
theorem de_Mo_trade_19 : decode prog_14_method_100_code 19 = .ok (.ldc_w 399, 3) := by decide +kernel
theorem de_Mo_trade_22 : decode prog_14_method_100_code 22 = .ok (.ireturn, 1) := by decide +kernel
set_option maxHeartbeats 4000000 in
set_option maxRecDepth 20000 in
theorem yy_trade_0 (v0 : Int) (hv0 : ab_in v0) : ab_Mt g_G g_rs mt_Mo_trade 2 0 0 [ab_R (107), ab_I (v0)] fw_0 (ab_is (some (ab_I ((-100000)))) fw_0) := by
  refine ab_Mt.of rfl (Nat.le_of_ble_eq_true rfl) ?_
  show ab_Ev g_G g_rs mt_Mo_trade _ _ _ 0 [some (ab_R (107)), some (ab_I (v0))] [] _ _
  refine ev_aload_n de_Mo_trade_0 rfl rfl ?_
  refine ev_vv (ci := 11) de_Mo_trade_1 fx_60 kb_Mo_323 ⟨im_Mo_isRing, se_Mo_isRing⟩ rfl rfl rfl (Nat.le_of_ble_eq_true rfl) (by decide) rfl ?_
  refine ev_if_eq (tgt := 19) de_Mo_trade_4 (by decide) (by decide) (fun _ => ?_) (fun h => absurd h (by decide))
  refine ev_ldcw (n := -100000) de_Mo_trade_19 cn_Mo_399 rfl ?_
  exact ev_ireturn de_Mo_trade_22 rfl ⟨rfl, rfl⟩
theorem de_Tu_spare_0 : decode prog_1_method_29_code 0 = .ok (.aload_n 0, 1) := by decide +kernel
theorem de_Tu_spare_1 : decode prog_1_method_29_code 1 = .ok (.getfield 19, 3) := by decide +kernel
theorem de_Tu_spare_4 : decode prog_1_method_29_code 4 = .ok (.getfield 152, 3) := by decide +kernel
theorem de_Tu_spare_7 : decode prog_1_method_29_code 7 = .ok (.ifCond .eq 32, 3) := by decide +kernel
theorem de_Tu_spare_39 : decode prog_1_method_29_code 39 = .ok (.iconst (-1), 1) := by decide +kernel
theorem de_Tu_spare_40 : decode prog_1_method_29_code 40 = .ok (.ireturn, 1) := by decide +kernel
set_option maxHeartbeats 4000000 in
set_option maxRecDepth 20000 in
theorem xx_spare_0 (v0 : Int) (hv0 : ab_in v0) (v1 : Int) (hv1 : ab_in v1) (v2 : Int) (hv2 : ab_in v2) : ab_Mt g_G g_rs mt_Tu_spare 1 0 0 [ab_R (0), ab_I (v0), ab_I (v1), ab_I (v2)] fw_0 (ab_is (some (ab_I ((-1)))) fw_0) := by
  refine ab_Mt.of rfl (Nat.le_of_ble_eq_true rfl) ?_
  show ab_Ev g_G g_rs mt_Tu_spare _ _ _ 0 [some (ab_R (0)), some (ab_I (v0)), some (ab_I (v1)), some (ab_I (v2))] [] _ _
  refine ev_aload_n de_Tu_spare_0 rfl rfl ?_
  refine ev_getfield de_Tu_spare_1 rfl fl_Tu_19 rfl ?_
  refine ev_getfield de_Tu_spare_4 rfl fl_Tu_152 rfl ?_
  refine ev_if_eq (tgt := 39) de_Tu_spare_7 (by decide) (by decide) (fun _ => ?_) (fun h => absurd h (by decide))
  refine ev_iconst de_Tu_spare_39 ?_
  exact ev_ireturn de_Tu_spare_40 rfl ⟨rfl, rfl⟩
theorem de_Mo_spare_0 : decode prog_14_method_103_code 0 = .ok (.aload_n 0, 1) := by decide +kernel
theorem de_Mo_spare_1 : decode prog_14_method_103_code 1 = .ok (.invokevirtual 323, 3) := by decide +kernel
theorem de_Mo_spare_4 : decode prog_14_method_103_code 4 = .ok (.ifCond .eq 39, 3) := by decide +kernel
theorem de_Mo_spare_43 : decode prog_14_method_103_code 43 = .ok (.iconst (-1), 1) := by decide +kernel
theorem de_Mo_spare_44 : decode prog_14_method_103_code 44 = .ok (.ireturn, 1) := by decide +kernel
set_option maxHeartbeats 4000000 in
set_option maxRecDepth 20000 in
theorem yy_spare_0 (v0 : Int) (hv0 : ab_in v0) (v1 : Int) (hv1 : ab_in v1) (v2 : Int) (hv2 : ab_in v2) : ab_Mt g_G g_rs mt_Mo_spare 2 0 0 [ab_R (107), ab_I (v0), ab_I (v1), ab_I (v2)] fw_0 (ab_is (some (ab_I ((-1)))) fw_0) := by
  refine ab_Mt.of rfl (Nat.le_of_ble_eq_true rfl) ?_
  show ab_Ev g_G g_rs mt_Mo_spare _ _ _ 0 [some (ab_R (107)), some (ab_I (v0)), some (ab_I (v1)), some (ab_I (v2)), none, none, none, none] [] _ _
  refine ev_aload_n de_Mo_spare_0 rfl rfl ?_
  refine ev_vv (ci := 11) de_Mo_spare_1 fx_60 kb_Mo_323 ⟨im_Mo_isRing, se_Mo_isRing⟩ rfl rfl rfl (Nat.le_of_ble_eq_true rfl) (by decide) rfl ?_
  refine ev_if_eq (tgt := 43) de_Mo_spare_4 (by decide) (by decide) (fun _ => ?_) (fun h => absurd h (by decide))
  refine ev_iconst de_Mo_spare_43 ?_
  exact ev_ireturn de_Mo_spare_44 rfl ⟨rfl, rfl⟩
theorem de_Tu_hasRule_0 : decode prog_1_method_38_code 0 = .ok (.iload_n 1, 1) := by decide +kernel
theorem de_Tu_hasRule_1 : decode prog_1_method_38_code 1 = .ok (.ifCond .lt 15, 3) := by decide +kernel
theorem de_Tu_hasRule_4 : decode prog_1_method_38_code 4 = .ok (.iload_n 1, 1) := by decide +kernel
theorem de_Tu_hasRule_5 : decode prog_1_method_38_code 5 = .ok (.aload_n 0, 1) := by decide +kernel
theorem de_Tu_hasRule_6 : decode prog_1_method_38_code 6 = .ok (.getfield 105, 3) := by decide +kernel
theorem de_Tu_hasRule_9 : decode prog_1_method_38_code 9 = .ok (.if_icmp .ge 7, 3) := by decide +kernel
theorem de_Tu_hasRule_16 : decode prog_1_method_38_code 16 = .ok (.iconst 0, 1) := by decide +kernel
theorem de_Tu_hasRule_17 : decode prog_1_method_38_code 17 = .ok (.ireturn, 1) := by decide +kernel
set_option maxHeartbeats 4000000 in
set_option maxRecDepth 20000 in
theorem fx_97 (v0 : Int) (hv0 : ab_in v0) : ab_Mt g_G g_rs mt_Tu_hasRule 1 0 0 [ab_R (0), ab_I (v0)] fw_0 (ab_is (some (ab_I (0))) fw_0) := by
  refine ab_Mt.of rfl (Nat.le_of_ble_eq_true rfl) ?_
  show ab_Ev g_G g_rs mt_Tu_hasRule _ _ _ 0 [some (ab_R (0)), some (ab_I (v0))] [] _ _
  refine ev_iload_n de_Tu_hasRule_0 rfl rfl ?_
  refine ev_if_lt (tgt := 16) de_Tu_hasRule_1 (by decide) (by omega) (fun h1 => ?_) (fun h1 => ?_)
  · skip
    refine ev_iconst de_Tu_hasRule_16 ?_
    exact ev_zreturn de_Tu_hasRule_17 rfl (by decide) ⟨rfl, rfl⟩
  · skip
    refine ev_iload_n de_Tu_hasRule_4 rfl rfl ?_
    refine ev_aload_n de_Tu_hasRule_5 rfl rfl ?_
    refine ev_getfield de_Tu_hasRule_6 rfl fl_Tu_105 rfl ?_
    refine ev_icmp_ge (tgt := 16) de_Tu_hasRule_9 (by decide) (by omega) (by decide) (fun h9 => ?_) (fun h => absurd h (by omega))
    refine ev_iconst de_Tu_hasRule_16 ?_
    exact ev_zreturn de_Tu_hasRule_17 rfl (by decide) ⟨rfl, rfl⟩
theorem de_Tu_apart_0 : decode prog_1_method_30_code 0 = .ok (.aload_n 0, 1) := by decide +kernel
theorem de_Tu_apart_1 : decode prog_1_method_30_code 1 = .ok (.iload_n 1, 1) := by decide +kernel
theorem de_Tu_apart_2 : decode prog_1_method_30_code 2 = .ok (.invokevirtual 230, 3) := by decide +kernel
theorem de_Tu_apart_5 : decode prog_1_method_30_code 5 = .ok (.ifCond .eq 40, 3) := by decide +kernel
theorem de_Tu_apart_45 : decode prog_1_method_30_code 45 = .ok (.ldc 208, 2) := by decide +kernel
theorem de_Tu_apart_47 : decode prog_1_method_30_code 47 = .ok (.ireturn, 1) := by decide +kernel
set_option maxHeartbeats 4000000 in
set_option maxRecDepth 20000 in
theorem xx_apart_0 (v0 : Int) (hv0 : ab_in v0) (v1 : Int) (hv1 : ab_in v1) (v2 : Int) (hv2 : ab_in v2) (v3 : Int) (hv3 : ab_in v3) (v4 : Int) (hv4 : ab_in v4) : ab_Mt g_G g_rs mt_Tu_apart 2 0 0 [ab_R (0), ab_I (v0), ab_I (v1), ab_I (v2), ab_I (v3), ab_I (v4)] fw_0 (ab_is (some (ab_I ((-100000)))) fw_0) := by
  refine ab_Mt.of rfl (Nat.le_of_ble_eq_true rfl) ?_
  show ab_Ev g_G g_rs mt_Tu_apart _ _ _ 0 [some (ab_R (0)), some (ab_I (v0)), some (ab_I (v1)), some (ab_I (v2)), some (ab_I (v3)), some (ab_I (v4))] [] _ _
  refine ev_aload_n de_Tu_apart_0 rfl rfl ?_
  refine ev_iload_n de_Tu_apart_1 rfl rfl ?_
  refine ev_vv (ci := 10) de_Tu_apart_2 (fx_97 v0 hv0) kb_Tu_230 ⟨im_Tu_hasRule, se_Tu_hasRule⟩ rfl rfl rfl (Nat.le_of_ble_eq_true rfl) (by decide) rfl ?_
  refine ev_if_eq (tgt := 45) de_Tu_apart_5 (by decide) (by decide) (fun _ => ?_) (fun h => absurd h (by decide))
  refine ev_ldc (n := -100000) de_Tu_apart_45 cn_Tu_208 rfl ?_
  exact ev_ireturn de_Tu_apart_47 rfl ⟨rfl, rfl⟩
theorem de_Mo_isRule_0 : decode prog_14_method_44_code 0 = .ok (.iload_n 1, 1) := by decide +kernel
theorem de_Mo_isRule_1 : decode prog_14_method_44_code 1 = .ok (.ifCond .lt 15, 3) := by decide +kernel
theorem de_Mo_isRule_4 : decode prog_14_method_44_code 4 = .ok (.iload_n 1, 1) := by decide +kernel
theorem de_Mo_isRule_5 : decode prog_14_method_44_code 5 = .ok (.aload_n 0, 1) := by decide +kernel
theorem de_Mo_isRule_6 : decode prog_14_method_44_code 6 = .ok (.getfield 266, 3) := by decide +kernel
theorem de_Mo_isRule_9 : decode prog_14_method_44_code 9 = .ok (.if_icmp .ge 7, 3) := by decide +kernel
theorem de_Mo_isRule_16 : decode prog_14_method_44_code 16 = .ok (.iconst 0, 1) := by decide +kernel
theorem de_Mo_isRule_17 : decode prog_14_method_44_code 17 = .ok (.ireturn, 1) := by decide +kernel
set_option maxHeartbeats 4000000 in
set_option maxRecDepth 20000 in
theorem fx_99 (v0 : Int) (hv0 : ab_in v0) : ab_Mt g_G g_rs mt_Mo_isRule 1 0 0 [ab_R (107), ab_I (v0)] fw_0 (ab_is (some (ab_I (0))) fw_0) := by
  refine ab_Mt.of rfl (Nat.le_of_ble_eq_true rfl) ?_
  show ab_Ev g_G g_rs mt_Mo_isRule _ _ _ 0 [some (ab_R (107)), some (ab_I (v0))] [] _ _
  refine ev_iload_n de_Mo_isRule_0 rfl rfl ?_
  refine ev_if_lt (tgt := 16) de_Mo_isRule_1 (by decide) (by omega) (fun h1 => ?_) (fun h1 => ?_)
  · skip
    refine ev_iconst de_Mo_isRule_16 ?_
    exact ev_zreturn de_Mo_isRule_17 rfl (by decide) ⟨rfl, rfl⟩
  · skip
    refine ev_iload_n de_Mo_isRule_4 rfl rfl ?_
    refine ev_aload_n de_Mo_isRule_5 rfl rfl ?_
    refine ev_getfield de_Mo_isRule_6 rfl fl_Mo_266 rfl ?_
    refine ev_icmp_ge (tgt := 16) de_Mo_isRule_9 (by decide) (by omega) (by decide) (fun h9 => ?_) (fun h => absurd h (by omega))
    refine ev_iconst de_Mo_isRule_16 ?_
    exact ev_zreturn de_Mo_isRule_17 rfl (by decide) ⟨rfl, rfl⟩
theorem de_Mo_apart_0 : decode prog_14_method_105_code 0 = .ok (.aload_n 0, 1) := by decide +kernel
theorem de_Mo_apart_1 : decode prog_14_method_105_code 1 = .ok (.iload_n 1, 1) := by decide +kernel
theorem de_Mo_apart_2 : decode prog_14_method_105_code 2 = .ok (.invokevirtual 380, 3) := by decide +kernel
theorem de_Mo_apart_5 : decode prog_14_method_105_code 5 = .ok (.ifCond .eq 45, 3) := by decide +kernel
theorem de_Mo_apart_50 : decode prog_14_method_105_code 50 = .ok (.ldc_w 399, 3) := by decide +kernel
theorem de_Mo_apart_53 : decode prog_14_method_105_code 53 = .ok (.ireturn, 1) := by decide +kernel
set_option maxHeartbeats 4000000 in
set_option maxRecDepth 20000 in
theorem yy_apart_0 (v0 : Int) (hv0 : ab_in v0) (v1 : Int) (hv1 : ab_in v1) (v2 : Int) (hv2 : ab_in v2) (v3 : Int) (hv3 : ab_in v3) (v4 : Int) (hv4 : ab_in v4) : ab_Mt g_G g_rs mt_Mo_apart 2 0 0 [ab_R (107), ab_I (v0), ab_I (v1), ab_I (v2), ab_I (v3), ab_I (v4)] fw_0 (ab_is (some (ab_I ((-100000)))) fw_0) := by
  refine ab_Mt.of rfl (Nat.le_of_ble_eq_true rfl) ?_
  show ab_Ev g_G g_rs mt_Mo_apart _ _ _ 0 [some (ab_R (107)), some (ab_I (v0)), some (ab_I (v1)), some (ab_I (v2)), some (ab_I (v3)), some (ab_I (v4))] [] _ _
  refine ev_aload_n de_Mo_apart_0 rfl rfl ?_
  refine ev_iload_n de_Mo_apart_1 rfl rfl ?_
  refine ev_vv (ci := 11) de_Mo_apart_2 (fx_99 v0 hv0) kb_Mo_380 ⟨im_Mo_isRule, se_Mo_isRule⟩ rfl rfl rfl (Nat.le_of_ble_eq_true rfl) (by decide) rfl ?_
  refine ev_if_eq (tgt := 50) de_Mo_apart_5 (by decide) (by decide) (fun _ => ?_) (fun h => absurd h (by decide))
  refine ev_ldcw (n := -100000) de_Mo_apart_50 cn_Mo_399 rfl ?_
  exact ev_ireturn de_Mo_apart_53 rfl ⟨rfl, rfl⟩
theorem de_Tu_diary_0 : decode prog_1_method_32_code 0 = .ok (.iload_n 1, 1) := by decide +kernel
theorem de_Tu_diary_1 : decode prog_1_method_32_code 1 = .ok (.iconst (-1), 1) := by decide +kernel
theorem de_Tu_diary_2 : decode prog_1_method_32_code 2 = .ok (.if_icmp .ne 16, 3) := by decide +kernel
theorem de_Tu_diary_5 : decode prog_1_method_32_code 5 = .ok (.aload_n 0, 1) := by decide +kernel
theorem de_Tu_diary_6 : decode prog_1_method_32_code 6 = .ok (.getfield 19, 3) := by decide +kernel
theorem de_Tu_diary_9 : decode prog_1_method_32_code 9 = .ok (.getfield 192, 3) := by decide +kernel
theorem de_Tu_diary_12 : decode prog_1_method_32_code 12 = .ok (.iconst 0, 1) := by decide +kernel
theorem de_Tu_diary_13 : decode prog_1_method_32_code 13 = .ok (.putfield 196, 3) := by decide +kernel
theorem de_Tu_diary_16 : decode prog_1_method_32_code 16 = .ok (.iconst 0, 1) := by decide +kernel
theorem de_Tu_diary_17 : decode prog_1_method_32_code 17 = .ok (.ireturn, 1) := by decide +kernel
set_option maxHeartbeats 4000000 in
set_option maxRecDepth 20000 in
theorem xx_diary_0 (v1 : Int) (hv1 : ab_in v1) (v2 : Int) (hv2 : ab_in v2) (v3 : Int) (hv3 : ab_in v3) : ab_Mt g_G g_rs mt_Tu_diary 1 0 0 [ab_R (0), ab_I ((-1)), ab_I (v1), ab_I (v2), ab_I (v3)] fw_0 (ab_is (some (ab_I (0))) fw_0) := by
  refine ab_Mt.of rfl (Nat.le_of_ble_eq_true rfl) ?_
  show ab_Ev g_G g_rs mt_Tu_diary _ _ _ 0 [some (ab_R (0)), some (ab_I ((-1))), some (ab_I (v1)), some (ab_I (v2)), some (ab_I (v3))] [] _ _
  refine ev_iload_n de_Tu_diary_0 rfl rfl ?_
  refine ev_iconst de_Tu_diary_1 ?_
  refine ev_icmp_ne (tgt := 18) de_Tu_diary_2 (by decide) (by decide) (by decide) (fun h => absurd h (by decide)) (fun _ => ?_)
  refine ev_aload_n de_Tu_diary_5 rfl rfl ?_
  refine ev_getfield de_Tu_diary_6 rfl fl_Tu_19 rfl ?_
  refine ev_getfield de_Tu_diary_9 rfl fl_Tu_192 rfl ?_
  refine ev_iconst de_Tu_diary_12 ?_
  refine ev_putfield de_Tu_diary_13 rfl (fp_Tu_196 _) (Nat.le_of_ble_eq_true rfl) trivial ?_
  refine ev_world (w' := fw_0) rfl ?_
  refine ev_iconst de_Tu_diary_16 ?_
  exact ev_ireturn de_Tu_diary_17 rfl ⟨rfl, rfl⟩
theorem de_Mo_diary_0 : decode prog_14_method_106_code 0 = .ok (.iload_n 1, 1) := by decide +kernel
theorem de_Mo_diary_1 : decode prog_14_method_106_code 1 = .ok (.iconst (-1), 1) := by decide +kernel
theorem de_Mo_diary_2 : decode prog_14_method_106_code 2 = .ok (.if_icmp .ne 14, 3) := by decide +kernel
theorem de_Mo_diary_5 : decode prog_14_method_106_code 5 = .ok (.aload_n 0, 1) := by decide +kernel
theorem de_Mo_diary_6 : decode prog_14_method_106_code 6 = .ok (.getfield 39, 3) := by decide +kernel
theorem de_Mo_diary_9 : decode prog_14_method_106_code 9 = .ok (.sipush 190, 3) := by decide +kernel
theorem de_Mo_diary_12 : decode prog_14_method_106_code 12 = .ok (.iconst 0, 1) := by decide +kernel
theorem de_Mo_diary_13 : decode prog_14_method_106_code 13 = .ok (.iastore, 1) := by decide +kernel
theorem de_Mo_diary_14 : decode prog_14_method_106_code 14 = .ok (.iconst 0, 1) := by decide +kernel
theorem de_Mo_diary_15 : decode prog_14_method_106_code 15 = .ok (.ireturn, 1) := by decide +kernel
set_option maxHeartbeats 4000000 in
set_option maxRecDepth 20000 in
theorem yy_diary_0 (v1 : Int) (hv1 : ab_in v1) (v2 : Int) (hv2 : ab_in v2) (v3 : Int) (hv3 : ab_in v3) : ab_Mt g_G g_rs mt_Mo_diary 1 0 0 [ab_R (107), ab_I ((-1)), ab_I (v1), ab_I (v2), ab_I (v3)] fw_0 (ab_is (some (ab_I (0))) (fw_0.set 117 (ab_ai 0 191 (ab_up (fun _ => 0) (190) (0))))) := by
  refine ab_Mt.of rfl (Nat.le_of_ble_eq_true rfl) ?_
  show ab_Ev g_G g_rs mt_Mo_diary _ _ _ 0 [some (ab_R (107)), some (ab_I ((-1))), some (ab_I (v1)), some (ab_I (v2)), some (ab_I (v3)), none] [] _ _
  refine ev_iload_n de_Mo_diary_0 rfl rfl ?_
  refine ev_iconst de_Mo_diary_1 ?_
  refine ev_icmp_ne (tgt := 16) de_Mo_diary_2 (by decide) (by decide) (by decide) (fun h => absurd h (by decide)) (fun _ => ?_)
  refine ev_aload_n de_Mo_diary_5 rfl rfl ?_
  refine ev_getfield de_Mo_diary_6 rfl fl_Mo_39 rfl ?_
  refine ev_sipush de_Mo_diary_9 rfl ?_
  refine ev_iconst de_Mo_diary_12 ?_
  refine ev_iastore de_Mo_diary_13 rfl (by decide) (by decide) (by decide) ?_
  refine ev_world (w' := (fw_0.set 117 (ab_ai 0 191 (ab_up (fun _ => 0) (190) (0))))) rfl ?_
  refine ev_iconst de_Mo_diary_14 ?_
  exact ev_ireturn de_Mo_diary_15 rfl ⟨rfl, rfl⟩
set_option maxHeartbeats 4000000 in
set_option maxRecDepth 20000 in
theorem fx_103 (v0 : Int) (hv0 : ab_in v0) (hc0 : (v0 ≤ (-2)) ∨ (0 ≤ v0)) : ab_Mt g_G g_rs mt_Tu_hasHouse 1 0 0 [ab_R (0), ab_I (v0)] fw_0 (ab_is (some (ab_I (0))) fw_0) := by
  refine ab_Mt.of rfl (Nat.le_of_ble_eq_true rfl) ?_
  show ab_Ev g_G g_rs mt_Tu_hasHouse _ _ _ 0 [some (ab_R (0)), some (ab_I (v0))] [] _ _
  refine ev_iload_n de_Tu_hasHouse_0 rfl rfl ?_
  refine ev_if_lt (tgt := 19) de_Tu_hasHouse_1 (by decide) (by omega) (fun h1 => ?_) (fun h1 => ?_)
  · skip
    refine ev_iconst de_Tu_hasHouse_19 ?_
    exact ev_zreturn de_Tu_hasHouse_20 rfl (by decide) ⟨rfl, rfl⟩
  · skip
    refine ev_iload_n de_Tu_hasHouse_4 rfl rfl ?_
    refine ev_aload_n de_Tu_hasHouse_5 rfl rfl ?_
    refine ev_getfield de_Tu_hasHouse_6 rfl fl_Tu_19 rfl ?_
    refine ev_getfield de_Tu_hasHouse_9 rfl fl_Tu_102 rfl ?_
    refine ev_icmp_ge (tgt := 19) de_Tu_hasHouse_12 (by decide) (by omega) (by decide) (fun h12 => ?_) (fun h => absurd h (by omega))
    refine ev_iconst de_Tu_hasHouse_19 ?_
    exact ev_zreturn de_Tu_hasHouse_20 rfl (by decide) ⟨rfl, rfl⟩
theorem de_Tu_diary_18 : decode prog_1_method_32_code 18 = .ok (.aload_n 0, 1) := by decide +kernel
theorem de_Tu_diary_19 : decode prog_1_method_32_code 19 = .ok (.iload_n 1, 1) := by decide +kernel
theorem de_Tu_diary_20 : decode prog_1_method_32_code 20 = .ok (.invokevirtual 118, 3) := by decide +kernel
theorem de_Tu_diary_23 : decode prog_1_method_32_code 23 = .ok (.ifCond .eq 35, 3) := by decide +kernel
theorem de_Tu_diary_58 : decode prog_1_method_32_code 58 = .ok (.bipush (-2), 2) := by decide +kernel
theorem de_Tu_diary_60 : decode prog_1_method_32_code 60 = .ok (.ireturn, 1) := by decide +kernel
set_option maxHeartbeats 4000000 in
set_option maxRecDepth 20000 in
theorem xx_diary_1 (v0 : Int) (hv0 : ab_in v0) (hc0 : (v0 ≤ (-2)) ∨ (0 ≤ v0)) (v1 : Int) (hv1 : ab_in v1) (v2 : Int) (hv2 : ab_in v2) (v3 : Int) (hv3 : ab_in v3) : ab_Mt g_G g_rs mt_Tu_diary 2 0 0 [ab_R (0), ab_I (v0), ab_I (v1), ab_I (v2), ab_I (v3)] fw_0 (ab_is (some (ab_I ((-2)))) fw_0) := by
  refine ab_Mt.of rfl (Nat.le_of_ble_eq_true rfl) ?_
  show ab_Ev g_G g_rs mt_Tu_diary _ _ _ 0 [some (ab_R (0)), some (ab_I (v0)), some (ab_I (v1)), some (ab_I (v2)), some (ab_I (v3))] [] _ _
  refine ev_iload_n de_Tu_diary_0 rfl rfl ?_
  refine ev_iconst de_Tu_diary_1 ?_
  refine ev_icmp_ne (tgt := 18) de_Tu_diary_2 (by decide) (by omega) (by decide) (fun h2 => ?_) (fun h => absurd h (by omega))
  refine ev_aload_n de_Tu_diary_18 rfl rfl ?_
  refine ev_iload_n de_Tu_diary_19 rfl rfl ?_
  refine ev_vv (ci := 10) de_Tu_diary_20 (fx_103 v0 hv0 hc0) kb_Tu_118 ⟨im_Tu_hasHouse, se_Tu_hasHouse⟩ rfl rfl rfl (Nat.le_of_ble_eq_true rfl) (by decide) rfl ?_
  refine ev_if_eq (tgt := 58) de_Tu_diary_23 (by decide) (by decide) (fun _ => ?_) (fun h => absurd h (by decide))
  refine ev_bipush de_Tu_diary_58 rfl ?_
  exact ev_ireturn de_Tu_diary_60 rfl ⟨rfl, rfl⟩
set_option maxHeartbeats 4000000 in
set_option maxRecDepth 20000 in
theorem fx_105 (v0 : Int) (hv0 : ab_in v0) (hc0 : (v0 ≤ (-2)) ∨ (0 ≤ v0)) : ab_Mt g_G g_rs mt_Mo_isHouse 1 0 0 [ab_R (107), ab_I (v0)] fw_0 (ab_is (some (ab_I (0))) fw_0) := by
  refine ab_Mt.of rfl (Nat.le_of_ble_eq_true rfl) ?_
  show ab_Ev g_G g_rs mt_Mo_isHouse _ _ _ 0 [some (ab_R (107)), some (ab_I (v0))] [] _ _
  refine ev_iload_n de_Mo_isHouse_0 rfl rfl ?_
  refine ev_if_lt (tgt := 18) de_Mo_isHouse_1 (by decide) (by omega) (fun h1 => ?_) (fun h1 => ?_)
  · skip
    refine ev_iconst de_Mo_isHouse_18 ?_
    exact ev_zreturn de_Mo_isHouse_19 rfl (by decide) ⟨rfl, rfl⟩
  · skip
    refine ev_iload_n de_Mo_isHouse_4 rfl rfl ?_
    refine ev_aload_n de_Mo_isHouse_5 rfl rfl ?_
    refine ev_getfield de_Mo_isHouse_6 rfl fl_Mo_39 rfl ?_
    refine ev_iconst de_Mo_isHouse_9 ?_
    refine ev_iaload de_Mo_isHouse_10 rfl (by decide) (by decide) (by decide) ?_
    refine ev_top (b := ab_I (0)) rfl ?_
    refine ev_icmp_ge (tgt := 18) de_Mo_isHouse_11 (by decide) (by omega) (by decide) (fun h11 => ?_) (fun h => absurd h (by omega))
    refine ev_iconst de_Mo_isHouse_18 ?_
    exact ev_zreturn de_Mo_isHouse_19 rfl (by decide) ⟨rfl, rfl⟩
theorem de_Mo_diary_16 : decode prog_14_method_106_code 16 = .ok (.aload_n 0, 1) := by decide +kernel
theorem de_Mo_diary_17 : decode prog_14_method_106_code 17 = .ok (.iload_n 1, 1) := by decide +kernel
theorem de_Mo_diary_18 : decode prog_14_method_106_code 18 = .ok (.invokevirtual 316, 3) := by decide +kernel
theorem de_Mo_diary_21 : decode prog_14_method_106_code 21 = .ok (.ifCond .eq 40, 3) := by decide +kernel
theorem de_Mo_diary_61 : decode prog_14_method_106_code 61 = .ok (.bipush (-2), 2) := by decide +kernel
theorem de_Mo_diary_63 : decode prog_14_method_106_code 63 = .ok (.ireturn, 1) := by decide +kernel
set_option maxHeartbeats 4000000 in
set_option maxRecDepth 20000 in
theorem yy_diary_1 (v0 : Int) (hv0 : ab_in v0) (hc0 : (v0 ≤ (-2)) ∨ (0 ≤ v0)) (v1 : Int) (hv1 : ab_in v1) (v2 : Int) (hv2 : ab_in v2) (v3 : Int) (hv3 : ab_in v3) : ab_Mt g_G g_rs mt_Mo_diary 2 0 0 [ab_R (107), ab_I (v0), ab_I (v1), ab_I (v2), ab_I (v3)] fw_0 (ab_is (some (ab_I ((-2)))) fw_0) := by
  refine ab_Mt.of rfl (Nat.le_of_ble_eq_true rfl) ?_
  show ab_Ev g_G g_rs mt_Mo_diary _ _ _ 0 [some (ab_R (107)), some (ab_I (v0)), some (ab_I (v1)), some (ab_I (v2)), some (ab_I (v3)), none] [] _ _
  refine ev_iload_n de_Mo_diary_0 rfl rfl ?_
  refine ev_iconst de_Mo_diary_1 ?_
  refine ev_icmp_ne (tgt := 16) de_Mo_diary_2 (by decide) (by omega) (by decide) (fun h2 => ?_) (fun h => absurd h (by omega))
  refine ev_aload_n de_Mo_diary_16 rfl rfl ?_
  refine ev_iload_n de_Mo_diary_17 rfl rfl ?_
  refine ev_vv (ci := 11) de_Mo_diary_18 (fx_105 v0 hv0 hc0) kb_Mo_316 ⟨im_Mo_isHouse, se_Mo_isHouse⟩ rfl rfl rfl (Nat.le_of_ble_eq_true rfl) (by decide) rfl ?_
  refine ev_if_eq (tgt := 61) de_Mo_diary_21 (by decide) (by decide) (fun _ => ?_) (fun h => absurd h (by decide))
  refine ev_bipush de_Mo_diary_61 rfl ?_
  exact ev_ireturn de_Mo_diary_63 rfl ⟨rfl, rfl⟩
theorem de_Tu_turned_0 : decode prog_1_method_33_code 0 = .ok (.aload_n 0, 1) := by decide +kernel
theorem de_Tu_turned_1 : decode prog_1_method_33_code 1 = .ok (.getfield 19, 3) := by decide +kernel
theorem de_Tu_turned_4 : decode prog_1_method_33_code 4 = .ok (.getfield 152, 3) := by decide +kernel
theorem de_Tu_turned_7 : decode prog_1_method_33_code 7 = .ok (.ifCond .eq 12, 3) := by decide +kernel
theorem de_Tu_turned_19 : decode prog_1_method_33_code 19 = .ok (.sipush (-2000), 3) := by decide +kernel
theorem de_Tu_turned_22 : decode prog_1_method_33_code 22 = .ok (.ireturn, 1) := by decide +kernel
set_option maxHeartbeats 4000000 in
set_option maxRecDepth 20000 in
theorem xx_turned_0 (v0 : Int) (hv0 : ab_in v0) : ab_Mt g_G g_rs mt_Tu_turned 1 0 0 [ab_R (0), ab_I (v0)] fw_0 (ab_is (some (ab_I ((-2000)))) fw_0) := by
  refine ab_Mt.of rfl (Nat.le_of_ble_eq_true rfl) ?_
  show ab_Ev g_G g_rs mt_Tu_turned _ _ _ 0 [some (ab_R (0)), some (ab_I (v0))] [] _ _
  refine ev_aload_n de_Tu_turned_0 rfl rfl ?_
  refine ev_getfield de_Tu_turned_1 rfl fl_Tu_19 rfl ?_
  refine ev_getfield de_Tu_turned_4 rfl fl_Tu_152 rfl ?_
  refine ev_if_eq (tgt := 19) de_Tu_turned_7 (by decide) (by decide) (fun _ => ?_) (fun h => absurd h (by decide))
  refine ev_sipush de_Tu_turned_19 rfl ?_
  exact ev_ireturn de_Tu_turned_22 rfl ⟨rfl, rfl⟩
theorem de_Mo_turned_0 : decode prog_14_method_109_code 0 = .ok (.aload_n 0, 1) := by decide +kernel
theorem de_Mo_turned_1 : decode prog_14_method_109_code 1 = .ok (.invokevirtual 323, 3) := by decide +kernel
theorem de_Mo_turned_4 : decode prog_14_method_109_code 4 = .ok (.ifCond .eq 15, 3) := by decide +kernel
theorem de_Mo_turned_19 : decode prog_14_method_109_code 19 = .ok (.sipush (-2000), 3) := by decide +kernel
theorem de_Mo_turned_22 : decode prog_14_method_109_code 22 = .ok (.ireturn, 1) := by decide +kernel
set_option maxHeartbeats 4000000 in
set_option maxRecDepth 20000 in
theorem yy_turned_0 (v0 : Int) (hv0 : ab_in v0) : ab_Mt g_G g_rs mt_Mo_turned 2 0 0 [ab_R (107), ab_I (v0)] fw_0 (ab_is (some (ab_I ((-2000)))) fw_0) := by
  refine ab_Mt.of rfl (Nat.le_of_ble_eq_true rfl) ?_
  show ab_Ev g_G g_rs mt_Mo_turned _ _ _ 0 [some (ab_R (107)), some (ab_I (v0)), none, none, none] [] _ _
  refine ev_aload_n de_Mo_turned_0 rfl rfl ?_
  refine ev_vv (ci := 11) de_Mo_turned_1 fx_60 kb_Mo_323 ⟨im_Mo_isRing, se_Mo_isRing⟩ rfl rfl rfl (Nat.le_of_ble_eq_true rfl) (by decide) rfl ?_
  refine ev_if_eq (tgt := 19) de_Mo_turned_4 (by decide) (by decide) (fun _ => ?_) (fun h => absurd h (by decide))
  refine ev_sipush de_Mo_turned_19 rfl ?_
  exact ev_ireturn de_Mo_turned_22 rfl ⟨rfl, rfl⟩
theorem de_Tu_look_0 : decode prog_1_method_34_code 0 = .ok (.aload_n 0, 1) := by decide +kernel
theorem de_Tu_look_1 : decode prog_1_method_34_code 1 = .ok (.getfield 19, 3) := by decide +kernel
theorem de_Tu_look_4 : decode prog_1_method_34_code 4 = .ok (.getfield 152, 3) := by decide +kernel
theorem de_Tu_look_7 : decode prog_1_method_34_code 7 = .ok (.ifCond .eq 22, 3) := by decide +kernel
theorem de_Tu_look_29 : decode prog_1_method_34_code 29 = .ok (.iconst (-1), 1) := by decide +kernel
theorem de_Tu_look_30 : decode prog_1_method_34_code 30 = .ok (.ireturn, 1) := by decide +kernel
set_option maxHeartbeats 4000000 in
set_option maxRecDepth 20000 in
theorem xx_look_0 (v0 : Int) (hv0 : ab_in v0) (v1 : Int) (hv1 : ab_in v1) : ab_Mt g_G g_rs mt_Tu_look 1 0 0 [ab_R (0), ab_I (v0), ab_I (v1)] fw_0 (ab_is (some (ab_I ((-1)))) fw_0) := by
  refine ab_Mt.of rfl (Nat.le_of_ble_eq_true rfl) ?_
  show ab_Ev g_G g_rs mt_Tu_look _ _ _ 0 [some (ab_R (0)), some (ab_I (v0)), some (ab_I (v1))] [] _ _
  refine ev_aload_n de_Tu_look_0 rfl rfl ?_
  refine ev_getfield de_Tu_look_1 rfl fl_Tu_19 rfl ?_
  refine ev_getfield de_Tu_look_4 rfl fl_Tu_152 rfl ?_
  refine ev_if_eq (tgt := 29) de_Tu_look_7 (by decide) (by decide) (fun _ => ?_) (fun h => absurd h (by decide))
  refine ev_iconst de_Tu_look_29 ?_
  exact ev_ireturn de_Tu_look_30 rfl ⟨rfl, rfl⟩
theorem de_Mo_look_0 : decode prog_14_method_110_code 0 = .ok (.aload_n 0, 1) := by decide +kernel
theorem de_Mo_look_1 : decode prog_14_method_110_code 1 = .ok (.invokevirtual 323, 3) := by decide +kernel
theorem de_Mo_look_4 : decode prog_14_method_110_code 4 = .ok (.ifCond .eq 27, 3) := by decide +kernel
theorem de_Mo_look_31 : decode prog_14_method_110_code 31 = .ok (.iconst (-1), 1) := by decide +kernel
theorem de_Mo_look_32 : decode prog_14_method_110_code 32 = .ok (.ireturn, 1) := by decide +kernel
set_option maxHeartbeats 4000000 in
set_option maxRecDepth 20000 in
theorem yy_look_0 (v0 : Int) (hv0 : ab_in v0) (v1 : Int) (hv1 : ab_in v1) : ab_Mt g_G g_rs mt_Mo_look 2 0 0 [ab_R (107), ab_I (v0), ab_I (v1)] fw_0 (ab_is (some (ab_I ((-1)))) fw_0) := by
  refine ab_Mt.of rfl (Nat.le_of_ble_eq_true rfl) ?_
  show ab_Ev g_G g_rs mt_Mo_look _ _ _ 0 [some (ab_R (107)), some (ab_I (v0)), some (ab_I (v1)), none, none, none, none, none, none] [] _ _
  refine ev_aload_n de_Mo_look_0 rfl rfl ?_
  refine ev_vv (ci := 11) de_Mo_look_1 fx_60 kb_Mo_323 ⟨im_Mo_isRing, se_Mo_isRing⟩ rfl rfl rfl (Nat.le_of_ble_eq_true rfl) (by decide) rfl ?_
  refine ev_if_eq (tgt := 31) de_Mo_look_4 (by decide) (by decide) (fun _ => ?_) (fun h => absurd h (by decide))
  refine ev_iconst de_Mo_look_31 ?_
  exact ev_ireturn de_Mo_look_32 rfl ⟨rfl, rfl⟩
theorem de_Tu_seed_0 : decode prog_1_method_17_code 0 = .ok (.iload_n 1, 1) := by decide +kernel
theorem de_Tu_seed_1 : decode prog_1_method_17_code 1 = .ok (.ifCond .ge 5, 3) := by decide +kernel
theorem de_Tu_seed_4 : decode prog_1_method_17_code 4 = .ok (.iconst (-1), 1) := by decide +kernel
theorem de_Tu_seed_5 : decode prog_1_method_17_code 5 = .ok (.ireturn, 1) := by decide +kernel
set_option maxHeartbeats 4000000 in
set_option maxRecDepth 20000 in
theorem xx_seed_0 (v0 : Int) (hv0 : ab_in v0) (hc0 : (v0 ≤ (-1))) : ab_Mt g_G g_rs mt_Tu_seed 1 0 0 [ab_R (0), ab_I (v0)] fw_0 (ab_is (some (ab_I ((-1)))) fw_0) := by
  refine ab_Mt.of rfl (Nat.le_of_ble_eq_true rfl) ?_
  show ab_Ev g_G g_rs mt_Tu_seed _ _ _ 0 [some (ab_R (0)), some (ab_I (v0)), none] [] _ _
  refine ev_iload_n de_Tu_seed_0 rfl rfl ?_
  refine ev_if_ge (tgt := 6) de_Tu_seed_1 (by decide) (by omega) (fun h => absurd h (by omega)) (fun h1 => ?_)
  refine ev_iconst de_Tu_seed_4 ?_
  exact ev_ireturn de_Tu_seed_5 rfl ⟨rfl, rfl⟩
theorem de_Mo_seed_0 : decode prog_14_method_111_code 0 = .ok (.iload_n 1, 1) := by decide +kernel
theorem de_Mo_seed_1 : decode prog_14_method_111_code 1 = .ok (.ifCond .ge 5, 3) := by decide +kernel
theorem de_Mo_seed_4 : decode prog_14_method_111_code 4 = .ok (.iconst (-1), 1) := by decide +kernel
theorem de_Mo_seed_5 : decode prog_14_method_111_code 5 = .ok (.ireturn, 1) := by decide +kernel
set_option maxHeartbeats 4000000 in
set_option maxRecDepth 20000 in
theorem yy_seed_0 (v0 : Int) (hv0 : ab_in v0) (hc0 : (v0 ≤ (-1))) : ab_Mt g_G g_rs mt_Mo_seed 1 0 0 [ab_R (107), ab_I (v0)] fw_0 (ab_is (some (ab_I ((-1)))) fw_0) := by
  refine ab_Mt.of rfl (Nat.le_of_ble_eq_true rfl) ?_
  show ab_Ev g_G g_rs mt_Mo_seed _ _ _ 0 [some (ab_R (107)), some (ab_I (v0)), none] [] _ _
  refine ev_iload_n de_Mo_seed_0 rfl rfl ?_
  refine ev_if_ge (tgt := 6) de_Mo_seed_1 (by decide) (by omega) (fun h => absurd h (by omega)) (fun h1 => ?_)
  refine ev_iconst de_Mo_seed_4 ?_
  exact ev_ireturn de_Mo_seed_5 rfl ⟨rfl, rfl⟩
theorem de_Tu_seed_6 : decode prog_1_method_17_code 6 = .ok (.aload_n 0, 1) := by decide +kernel
theorem de_Tu_seed_7 : decode prog_1_method_17_code 7 = .ok (.getfield 19, 3) := by decide +kernel
theorem de_Tu_seed_10 : decode prog_1_method_17_code 10 = .ok (.getfield 96, 3) := by decide +kernel
theorem de_Tu_seed_13 : decode prog_1_method_17_code 13 = .ok (.istore_n 2, 1) := by decide +kernel
theorem de_Tu_seed_14 : decode prog_1_method_17_code 14 = .ok (.aload_n 0, 1) := by decide +kernel
theorem de_Tu_seed_15 : decode prog_1_method_17_code 15 = .ok (.getfield 19, 3) := by decide +kernel
theorem de_Tu_seed_18 : decode prog_1_method_17_code 18 = .ok (.iload_n 1, 1) := by decide +kernel
theorem de_Tu_seed_19 : decode prog_1_method_17_code 19 = .ok (.putfield 96, 3) := by decide +kernel
theorem de_Tu_seed_22 : decode prog_1_method_17_code 22 = .ok (.iload_n 2, 1) := by decide +kernel
theorem de_Tu_seed_23 : decode prog_1_method_17_code 23 = .ok (.ireturn, 1) := by decide +kernel
set_option maxHeartbeats 4000000 in
set_option maxRecDepth 20000 in
theorem xx_seed_1 (v0 : Int) (hv0 : ab_in v0) (hc0 : (0 ≤ v0)) : ab_Mt g_G g_rs mt_Tu_seed 1 0 0 [ab_R (0), ab_I (v0)] fw_0 (ab_is (some (ab_I (0))) (fw_0.set 3 (ab_ob 5 [ab_I (0), ab_I (0), ab_I (0), ab_I (0), ab_I (0), ab_I (0), ab_I (v0), ab_I (0), ab_I (0), ab_I (0), ab_R (4), ab_R (5), ab_R (6), ab_R (7), ab_R (8), ab_R (9), ab_R (10), ab_R (11)]))) := by
  refine ab_Mt.of rfl (Nat.le_of_ble_eq_true rfl) ?_
  show ab_Ev g_G g_rs mt_Tu_seed _ _ _ 0 [some (ab_R (0)), some (ab_I (v0)), none] [] _ _
  refine ev_iload_n de_Tu_seed_0 rfl rfl ?_
  refine ev_if_ge (tgt := 6) de_Tu_seed_1 (by decide) (by omega) (fun h1 => ?_) (fun h => absurd h (by omega))
  refine ev_aload_n de_Tu_seed_6 rfl rfl ?_
  refine ev_getfield de_Tu_seed_7 rfl fl_Tu_19 rfl ?_
  refine ev_getfield de_Tu_seed_10 rfl fl_Tu_96 rfl ?_
  refine ev_istore_n (l' := [_, _, _]) de_Tu_seed_13 rfl (Nat.le_of_ble_eq_true rfl) rfl ?_
  refine ev_aload_n de_Tu_seed_14 rfl rfl ?_
  refine ev_getfield de_Tu_seed_15 rfl fl_Tu_19 rfl ?_
  refine ev_iload_n de_Tu_seed_18 rfl rfl ?_
  refine ev_putfield de_Tu_seed_19 rfl (fp_Tu_96 _) (Nat.le_of_ble_eq_true rfl) trivial ?_
  refine ev_world (w' := (fw_0.set 3 (ab_ob 5 [ab_I (0), ab_I (0), ab_I (0), ab_I (0), ab_I (0), ab_I (0), ab_I (v0), ab_I (0), ab_I (0), ab_I (0), ab_R (4), ab_R (5), ab_R (6), ab_R (7), ab_R (8), ab_R (9), ab_R (10), ab_R (11)]))) rfl ?_
  refine ev_iload_n de_Tu_seed_22 rfl rfl ?_
  exact ev_ireturn de_Tu_seed_23 rfl ⟨rfl, rfl⟩
theorem de_Mo_seed_6 : decode prog_14_method_111_code 6 = .ok (.aload_n 0, 1) := by decide +kernel
theorem de_Mo_seed_7 : decode prog_14_method_111_code 7 = .ok (.getfield 465, 3) := by decide +kernel
theorem de_Mo_seed_10 : decode prog_14_method_111_code 10 = .ok (.istore_n 2, 1) := by decide +kernel
theorem de_Mo_seed_11 : decode prog_14_method_111_code 11 = .ok (.aload_n 0, 1) := by decide +kernel
theorem de_Mo_seed_12 : decode prog_14_method_111_code 12 = .ok (.iload_n 1, 1) := by decide +kernel
theorem de_Mo_seed_13 : decode prog_14_method_111_code 13 = .ok (.putfield 465, 3) := by decide +kernel
theorem de_Mo_seed_16 : decode prog_14_method_111_code 16 = .ok (.iload_n 2, 1) := by decide +kernel
theorem de_Mo_seed_17 : decode prog_14_method_111_code 17 = .ok (.ireturn, 1) := by decide +kernel
set_option maxHeartbeats 4000000 in
set_option maxRecDepth 20000 in
theorem yy_seed_1 (v0 : Int) (hv0 : ab_in v0) (hc0 : (0 ≤ v0)) : ab_Mt g_G g_rs mt_Mo_seed 1 0 0 [ab_R (107), ab_I (v0)] (fw_0.set 3 (ab_ob 5 [ab_I (0), ab_I (0), ab_I (0), ab_I (0), ab_I (0), ab_I (0), ab_I (v0), ab_I (0), ab_I (0), ab_I (0), ab_R (4), ab_R (5), ab_R (6), ab_R (7), ab_R (8), ab_R (9), ab_R (10), ab_R (11)])) (ab_is (some (ab_I (0))) ((fw_0.set 3 (ab_ob 5 [ab_I (0), ab_I (0), ab_I (0), ab_I (0), ab_I (0), ab_I (0), ab_I (v0), ab_I (0), ab_I (0), ab_I (0), ab_R (4), ab_R (5), ab_R (6), ab_R (7), ab_R (8), ab_R (9), ab_R (10), ab_R (11)])).set 107 (ab_ob 11 [ab_R (108), ab_I (0), ab_I (0), ab_R (109), ab_R (110), ab_R (111), ab_R (112), ab_R (113), ab_I (0), ab_I (0), ab_I (0), ab_I (0), ab_I (0), ab_I (0), ab_I (0), ab_R (114), ab_I (0), ab_R (115), ab_I (0), ab_R (116), ab_R (117), ab_I (v0), ab_R (118), ab_I (0), ab_R (119), ab_R (120), ab_R (121), ab_R (122), ab_R (123), ab_R (124), ab_R (125), ab_I (0), ab_I (0), ab_J (0), ab_R (126), ab_R (127), ab_R (128)]))) := by
  refine ab_Mt.of rfl (Nat.le_of_ble_eq_true rfl) ?_
  show ab_Ev g_G g_rs mt_Mo_seed _ _ _ 0 [some (ab_R (107)), some (ab_I (v0)), none] [] _ _
  refine ev_iload_n de_Mo_seed_0 rfl rfl ?_
  refine ev_if_ge (tgt := 6) de_Mo_seed_1 (by decide) (by omega) (fun h1 => ?_) (fun h => absurd h (by omega))
  refine ev_aload_n de_Mo_seed_6 rfl rfl ?_
  refine ev_getfield de_Mo_seed_7 rfl fl_Mo_465 rfl ?_
  refine ev_istore_n (l' := [_, _, _]) de_Mo_seed_10 rfl (Nat.le_of_ble_eq_true rfl) rfl ?_
  refine ev_aload_n de_Mo_seed_11 rfl rfl ?_
  refine ev_iload_n de_Mo_seed_12 rfl rfl ?_
  refine ev_putfield de_Mo_seed_13 rfl (fp_Mo_465 _) (Nat.le_of_ble_eq_true rfl) trivial ?_
  refine ev_world (w' := ((fw_0.set 3 (ab_ob 5 [ab_I (0), ab_I (0), ab_I (0), ab_I (0), ab_I (0), ab_I (0), ab_I (v0), ab_I (0), ab_I (0), ab_I (0), ab_R (4), ab_R (5), ab_R (6), ab_R (7), ab_R (8), ab_R (9), ab_R (10), ab_R (11)])).set 107 (ab_ob 11 [ab_R (108), ab_I (0), ab_I (0), ab_R (109), ab_R (110), ab_R (111), ab_R (112), ab_R (113), ab_I (0), ab_I (0), ab_I (0), ab_I (0), ab_I (0), ab_I (0), ab_I (0), ab_R (114), ab_I (0), ab_R (115), ab_I (0), ab_R (116), ab_R (117), ab_I (v0), ab_R (118), ab_I (0), ab_R (119), ab_R (120), ab_R (121), ab_R (122), ab_R (123), ab_R (124), ab_R (125), ab_I (0), ab_I (0), ab_J (0), ab_R (126), ab_R (127), ab_R (128)]))) rfl ?_
  refine ev_iload_n de_Mo_seed_16 rfl rfl ?_
  exact ev_ireturn de_Mo_seed_17 rfl ⟨rfl, rfl⟩
theorem de_Tu_days_0 : decode prog_1_method_35_code 0 = .ok (.aload_n 0, 1) := by decide +kernel
theorem de_Tu_days_1 : decode prog_1_method_35_code 1 = .ok (.getfield 19, 3) := by decide +kernel
theorem de_Tu_days_4 : decode prog_1_method_35_code 4 = .ok (.getfield 152, 3) := by decide +kernel
theorem de_Tu_days_7 : decode prog_1_method_35_code 7 = .ok (.ifCond .eq 46, 3) := by decide +kernel
theorem de_Tu_days_53 : decode prog_1_method_35_code 53 = .ok (.ldc_w 334, 3) := by decide +kernel
theorem de_Tu_days_56 : decode prog_1_method_35_code 56 = .ok (.ireturn, 1) := by decide +kernel
set_option maxHeartbeats 4000000 in
set_option maxRecDepth 20000 in
theorem xx_days_0 (v0 : Int) (hv0 : ab_in v0) (v1 : Int) (hv1 : ab_in v1) (v2 : Int) (hv2 : ab_in v2) (v3 : Int) (hv3 : ab_in v3) : ab_Mt g_G g_rs mt_Tu_days 1 0 0 [ab_R (0), ab_I (v0), ab_I (v1), ab_I (v2), ab_I (v3)] fw_0 (ab_is (some (ab_I ((-10000000)))) fw_0) := by
  refine ab_Mt.of rfl (Nat.le_of_ble_eq_true rfl) ?_
  show ab_Ev g_G g_rs mt_Tu_days _ _ _ 0 [some (ab_R (0)), some (ab_I (v0)), some (ab_I (v1)), some (ab_I (v2)), some (ab_I (v3)), none, none, none, none, none, none, none] [] _ _
  refine ev_aload_n de_Tu_days_0 rfl rfl ?_
  refine ev_getfield de_Tu_days_1 rfl fl_Tu_19 rfl ?_
  refine ev_getfield de_Tu_days_4 rfl fl_Tu_152 rfl ?_
  refine ev_if_eq (tgt := 53) de_Tu_days_7 (by decide) (by decide) (fun _ => ?_) (fun h => absurd h (by decide))
  refine ev_ldcw (n := -10000000) de_Tu_days_53 cn_Tu_334 rfl ?_
  exact ev_ireturn de_Tu_days_56 rfl ⟨rfl, rfl⟩
theorem de_Mo_days_0 : decode prog_14_method_113_code 0 = .ok (.aload_n 0, 1) := by decide +kernel
theorem de_Mo_days_1 : decode prog_14_method_113_code 1 = .ok (.invokevirtual 323, 3) := by decide +kernel
theorem de_Mo_days_4 : decode prog_14_method_113_code 4 = .ok (.ifCond .eq 50, 3) := by decide +kernel
theorem de_Mo_days_54 : decode prog_14_method_113_code 54 = .ok (.ldc_w 480, 3) := by decide +kernel
theorem de_Mo_days_57 : decode prog_14_method_113_code 57 = .ok (.ireturn, 1) := by decide +kernel
set_option maxHeartbeats 4000000 in
set_option maxRecDepth 20000 in
theorem yy_days_0 (v0 : Int) (hv0 : ab_in v0) (v1 : Int) (hv1 : ab_in v1) (v2 : Int) (hv2 : ab_in v2) (v3 : Int) (hv3 : ab_in v3) : ab_Mt g_G g_rs mt_Mo_days 2 0 0 [ab_R (107), ab_I (v0), ab_I (v1), ab_I (v2), ab_I (v3)] fw_0 (ab_is (some (ab_I ((-10000000)))) fw_0) := by
  refine ab_Mt.of rfl (Nat.le_of_ble_eq_true rfl) ?_
  show ab_Ev g_G g_rs mt_Mo_days _ _ _ 0 [some (ab_R (107)), some (ab_I (v0)), some (ab_I (v1)), some (ab_I (v2)), some (ab_I (v3)), none, none, none, none] [] _ _
  refine ev_aload_n de_Mo_days_0 rfl rfl ?_
  refine ev_vv (ci := 11) de_Mo_days_1 fx_60 kb_Mo_323 ⟨im_Mo_isRing, se_Mo_isRing⟩ rfl rfl rfl (Nat.le_of_ble_eq_true rfl) (by decide) rfl ?_
  refine ev_if_eq (tgt := 54) de_Mo_days_4 (by decide) (by decide) (fun _ => ?_) (fun h => absurd h (by decide))
  refine ev_ldcw (n := -10000000) de_Mo_days_54 cn_Mo_480 rfl ?_
  exact ev_ireturn de_Mo_days_57 rfl ⟨rfl, rfl⟩
theorem de_Tu_count_0 : decode prog_1_method_10_code 0 = .ok (.iload_n 1, 1) := by decide +kernel
theorem de_Tu_count_1 : decode prog_1_method_10_code 1 = .ok (.tableswitch 217 0 14 #[75, 83, 91, 99, 104, 112, 120, 128, 150, 166, 174, 185, 193, 201, 209], 75) := by decide +kernel
theorem de_Tu_count_76 : decode prog_1_method_10_code 76 = .ok (.aload_n 0, 1) := by decide +kernel
theorem de_Tu_count_77 : decode prog_1_method_10_code 77 = .ok (.getfield 19, 3) := by decide +kernel
theorem de_Tu_count_80 : decode prog_1_method_10_code 80 = .ok (.getfield 102, 3) := by decide +kernel
theorem de_Tu_count_83 : decode prog_1_method_10_code 83 = .ok (.ireturn, 1) := by decide +kernel
set_option maxHeartbeats 4000000 in
set_option maxRecDepth 20000 in
theorem xx_count_0  : ab_Mt g_G g_rs mt_Tu_count 1 0 0 [ab_R (0), ab_I (0)] fw_0 (ab_is (some (ab_I (0))) fw_0) := by
  refine ab_Mt.of rfl (Nat.le_of_ble_eq_true rfl) ?_
  show ab_Ev g_G g_rs mt_Tu_count _ _ _ 0 [some (ab_R (0)), some (ab_I (0))] [] _ _
  refine ev_iload_n de_Tu_count_0 rfl rfl ?_
  refine ev_tableIn (off := 75) (tgt := 76) de_Tu_count_1 (by decide) (by decide) (by decide) rfl (by decide) ?_
  refine ev_aload_n de_Tu_count_76 rfl rfl ?_
  refine ev_getfield de_Tu_count_77 rfl fl_Tu_19 rfl ?_
  refine ev_getfield de_Tu_count_80 rfl fl_Tu_102 rfl ?_
  exact ev_ireturn de_Tu_count_83 rfl ⟨rfl, rfl⟩
theorem de_Mo_count_0 : decode prog_14_method_114_code 0 = .ok (.iload_n 1, 1) := by decide +kernel
theorem de_Mo_count_1 : decode prog_14_method_114_code 1 = .ok (.tableswitch 143 0 14 #[75, 75, 75, 84, 89, 89, 89, 96, 101, 101, 110, 119, 124, 129, 134], 75) := by decide +kernel
theorem de_Mo_count_76 : decode prog_14_method_114_code 76 = .ok (.aload_n 0, 1) := by decide +kernel
theorem de_Mo_count_77 : decode prog_14_method_114_code 77 = .ok (.getfield 39, 3) := by decide +kernel
theorem de_Mo_count_80 : decode prog_14_method_114_code 80 = .ok (.iload_n 1, 1) := by decide +kernel
theorem de_Mo_count_81 : decode prog_14_method_114_code 81 = .ok (.iconst 1, 1) := by decide +kernel
theorem de_Mo_count_82 : decode prog_14_method_114_code 82 = .ok (.iadd, 1) := by decide +kernel
theorem de_Mo_count_83 : decode prog_14_method_114_code 83 = .ok (.iaload, 1) := by decide +kernel
theorem de_Mo_count_84 : decode prog_14_method_114_code 84 = .ok (.ireturn, 1) := by decide +kernel
set_option maxHeartbeats 4000000 in
set_option maxRecDepth 20000 in
theorem yy_count_0  : ab_Mt g_G g_rs mt_Mo_count 1 0 0 [ab_R (107), ab_I (0)] fw_0 (ab_is (some (ab_I (0))) fw_0) := by
  refine ab_Mt.of rfl (Nat.le_of_ble_eq_true rfl) ?_
  show ab_Ev g_G g_rs mt_Mo_count _ _ _ 0 [some (ab_R (107)), some (ab_I (0))] [] _ _
  refine ev_iload_n de_Mo_count_0 rfl rfl ?_
  refine ev_tableIn (off := 75) (tgt := 76) de_Mo_count_1 (by decide) (by decide) (by decide) rfl (by decide) ?_
  refine ev_aload_n de_Mo_count_76 rfl rfl ?_
  refine ev_getfield de_Mo_count_77 rfl fl_Mo_39 rfl ?_
  refine ev_iload_n de_Mo_count_80 rfl rfl ?_
  refine ev_iconst de_Mo_count_81 ?_
  refine ev_iadd de_Mo_count_82 ?_
  refine ev_top (b := ab_I (1)) rfl ?_
  refine ev_iaload de_Mo_count_83 rfl (by decide) (by decide) (by decide) ?_
  refine ev_top (b := ab_I (0)) rfl ?_
  exact ev_ireturn de_Mo_count_84 rfl ⟨rfl, rfl⟩
theorem de_Tu_count_84 : decode prog_1_method_10_code 84 = .ok (.aload_n 0, 1) := by decide +kernel
theorem de_Tu_count_85 : decode prog_1_method_10_code 85 = .ok (.getfield 19, 3) := by decide +kernel
theorem de_Tu_count_88 : decode prog_1_method_10_code 88 = .ok (.getfield 171, 3) := by decide +kernel
theorem de_Tu_count_91 : decode prog_1_method_10_code 91 = .ok (.ireturn, 1) := by decide +kernel
set_option maxHeartbeats 4000000 in
set_option maxRecDepth 20000 in
theorem xx_count_1  : ab_Mt g_G g_rs mt_Tu_count 1 0 0 [ab_R (0), ab_I (1)] fw_0 (ab_is (some (ab_I (0))) fw_0) := by
  refine ab_Mt.of rfl (Nat.le_of_ble_eq_true rfl) ?_
  show ab_Ev g_G g_rs mt_Tu_count _ _ _ 0 [some (ab_R (0)), some (ab_I (1))] [] _ _
  refine ev_iload_n de_Tu_count_0 rfl rfl ?_
  refine ev_tableIn (off := 83) (tgt := 84) de_Tu_count_1 (by decide) (by decide) (by decide) rfl (by decide) ?_
  refine ev_aload_n de_Tu_count_84 rfl rfl ?_
  refine ev_getfield de_Tu_count_85 rfl fl_Tu_19 rfl ?_
  refine ev_getfield de_Tu_count_88 rfl fl_Tu_171 rfl ?_
  exact ev_ireturn de_Tu_count_91 rfl ⟨rfl, rfl⟩
set_option maxHeartbeats 4000000 in
set_option maxRecDepth 20000 in
theorem yy_count_1  : ab_Mt g_G g_rs mt_Mo_count 1 0 0 [ab_R (107), ab_I (1)] fw_0 (ab_is (some (ab_I (0))) fw_0) := by
  refine ab_Mt.of rfl (Nat.le_of_ble_eq_true rfl) ?_
  show ab_Ev g_G g_rs mt_Mo_count _ _ _ 0 [some (ab_R (107)), some (ab_I (1))] [] _ _
  refine ev_iload_n de_Mo_count_0 rfl rfl ?_
  refine ev_tableIn (off := 75) (tgt := 76) de_Mo_count_1 (by decide) (by decide) (by decide) rfl (by decide) ?_
  refine ev_aload_n de_Mo_count_76 rfl rfl ?_
  refine ev_getfield de_Mo_count_77 rfl fl_Mo_39 rfl ?_
  refine ev_iload_n de_Mo_count_80 rfl rfl ?_
  refine ev_iconst de_Mo_count_81 ?_
  refine ev_iadd de_Mo_count_82 ?_
  refine ev_top (b := ab_I (2)) rfl ?_
  refine ev_iaload de_Mo_count_83 rfl (by decide) (by decide) (by decide) ?_
  refine ev_top (b := ab_I (0)) rfl ?_
  exact ev_ireturn de_Mo_count_84 rfl ⟨rfl, rfl⟩
theorem de_Tu_count_92 : decode prog_1_method_10_code 92 = .ok (.aload_n 0, 1) := by decide +kernel
theorem de_Tu_count_93 : decode prog_1_method_10_code 93 = .ok (.getfield 19, 3) := by decide +kernel
theorem de_Tu_count_96 : decode prog_1_method_10_code 96 = .ok (.getfield 174, 3) := by decide +kernel
theorem de_Tu_count_99 : decode prog_1_method_10_code 99 = .ok (.ireturn, 1) := by decide +kernel
set_option maxHeartbeats 4000000 in
set_option maxRecDepth 20000 in
theorem xx_count_2  : ab_Mt g_G g_rs mt_Tu_count 1 0 0 [ab_R (0), ab_I (2)] fw_0 (ab_is (some (ab_I (0))) fw_0) := by
  refine ab_Mt.of rfl (Nat.le_of_ble_eq_true rfl) ?_
  show ab_Ev g_G g_rs mt_Tu_count _ _ _ 0 [some (ab_R (0)), some (ab_I (2))] [] _ _
  refine ev_iload_n de_Tu_count_0 rfl rfl ?_
  refine ev_tableIn (off := 91) (tgt := 92) de_Tu_count_1 (by decide) (by decide) (by decide) rfl (by decide) ?_
  refine ev_aload_n de_Tu_count_92 rfl rfl ?_
  refine ev_getfield de_Tu_count_93 rfl fl_Tu_19 rfl ?_
  refine ev_getfield de_Tu_count_96 rfl fl_Tu_174 rfl ?_
  exact ev_ireturn de_Tu_count_99 rfl ⟨rfl, rfl⟩
set_option maxHeartbeats 4000000 in
set_option maxRecDepth 20000 in
theorem yy_count_2  : ab_Mt g_G g_rs mt_Mo_count 1 0 0 [ab_R (107), ab_I (2)] fw_0 (ab_is (some (ab_I (0))) fw_0) := by
  refine ab_Mt.of rfl (Nat.le_of_ble_eq_true rfl) ?_
  show ab_Ev g_G g_rs mt_Mo_count _ _ _ 0 [some (ab_R (107)), some (ab_I (2))] [] _ _
  refine ev_iload_n de_Mo_count_0 rfl rfl ?_
  refine ev_tableIn (off := 75) (tgt := 76) de_Mo_count_1 (by decide) (by decide) (by decide) rfl (by decide) ?_
  refine ev_aload_n de_Mo_count_76 rfl rfl ?_
  refine ev_getfield de_Mo_count_77 rfl fl_Mo_39 rfl ?_
  refine ev_iload_n de_Mo_count_80 rfl rfl ?_
  refine ev_iconst de_Mo_count_81 ?_
  refine ev_iadd de_Mo_count_82 ?_
  refine ev_top (b := ab_I (3)) rfl ?_
  refine ev_iaload de_Mo_count_83 rfl (by decide) (by decide) (by decide) ?_
  refine ev_top (b := ab_I (0)) rfl ?_
  exact ev_ireturn de_Mo_count_84 rfl ⟨rfl, rfl⟩
theorem de_Tu_count_100 : decode prog_1_method_10_code 100 = .ok (.aload_n 0, 1) := by decide +kernel
theorem de_Tu_count_101 : decode prog_1_method_10_code 101 = .ok (.getfield 105, 3) := by decide +kernel
theorem de_Tu_count_104 : decode prog_1_method_10_code 104 = .ok (.ireturn, 1) := by decide +kernel
set_option maxHeartbeats 4000000 in
set_option maxRecDepth 20000 in
theorem xx_count_3  : ab_Mt g_G g_rs mt_Tu_count 1 0 0 [ab_R (0), ab_I (3)] fw_0 (ab_is (some (ab_I (0))) fw_0) := by
  refine ab_Mt.of rfl (Nat.le_of_ble_eq_true rfl) ?_
  show ab_Ev g_G g_rs mt_Tu_count _ _ _ 0 [some (ab_R (0)), some (ab_I (3))] [] _ _
  refine ev_iload_n de_Tu_count_0 rfl rfl ?_
  refine ev_tableIn (off := 99) (tgt := 100) de_Tu_count_1 (by decide) (by decide) (by decide) rfl (by decide) ?_
  refine ev_aload_n de_Tu_count_100 rfl rfl ?_
  refine ev_getfield de_Tu_count_101 rfl fl_Tu_105 rfl ?_
  exact ev_ireturn de_Tu_count_104 rfl ⟨rfl, rfl⟩
theorem de_Mo_count_85 : decode prog_14_method_114_code 85 = .ok (.aload_n 0, 1) := by decide +kernel
theorem de_Mo_count_86 : decode prog_14_method_114_code 86 = .ok (.getfield 266, 3) := by decide +kernel
theorem de_Mo_count_89 : decode prog_14_method_114_code 89 = .ok (.ireturn, 1) := by decide +kernel
set_option maxHeartbeats 4000000 in
set_option maxRecDepth 20000 in
theorem yy_count_3  : ab_Mt g_G g_rs mt_Mo_count 1 0 0 [ab_R (107), ab_I (3)] fw_0 (ab_is (some (ab_I (0))) fw_0) := by
  refine ab_Mt.of rfl (Nat.le_of_ble_eq_true rfl) ?_
  show ab_Ev g_G g_rs mt_Mo_count _ _ _ 0 [some (ab_R (107)), some (ab_I (3))] [] _ _
  refine ev_iload_n de_Mo_count_0 rfl rfl ?_
  refine ev_tableIn (off := 84) (tgt := 85) de_Mo_count_1 (by decide) (by decide) (by decide) rfl (by decide) ?_
  refine ev_aload_n de_Mo_count_85 rfl rfl ?_
  refine ev_getfield de_Mo_count_86 rfl fl_Mo_266 rfl ?_
  exact ev_ireturn de_Mo_count_89 rfl ⟨rfl, rfl⟩
theorem de_Tu_count_105 : decode prog_1_method_10_code 105 = .ok (.aload_n 0, 1) := by decide +kernel
theorem de_Tu_count_106 : decode prog_1_method_10_code 106 = .ok (.getfield 19, 3) := by decide +kernel
theorem de_Tu_count_109 : decode prog_1_method_10_code 109 = .ok (.getfield 177, 3) := by decide +kernel
theorem de_Tu_count_112 : decode prog_1_method_10_code 112 = .ok (.ireturn, 1) := by decide +kernel
set_option maxHeartbeats 4000000 in
set_option maxRecDepth 20000 in
theorem xx_count_4  : ab_Mt g_G g_rs mt_Tu_count 1 0 0 [ab_R (0), ab_I (4)] fw_0 (ab_is (some (ab_I (0))) fw_0) := by
  refine ab_Mt.of rfl (Nat.le_of_ble_eq_true rfl) ?_
  show ab_Ev g_G g_rs mt_Tu_count _ _ _ 0 [some (ab_R (0)), some (ab_I (4))] [] _ _
  refine ev_iload_n de_Tu_count_0 rfl rfl ?_
  refine ev_tableIn (off := 104) (tgt := 105) de_Tu_count_1 (by decide) (by decide) (by decide) rfl (by decide) ?_
  refine ev_aload_n de_Tu_count_105 rfl rfl ?_
  refine ev_getfield de_Tu_count_106 rfl fl_Tu_19 rfl ?_
  refine ev_getfield de_Tu_count_109 rfl fl_Tu_177 rfl ?_
  exact ev_ireturn de_Tu_count_112 rfl ⟨rfl, rfl⟩
theorem de_Mo_count_90 : decode prog_14_method_114_code 90 = .ok (.aload_n 0, 1) := by decide +kernel
theorem de_Mo_count_91 : decode prog_14_method_114_code 91 = .ok (.getfield 39, 3) := by decide +kernel
theorem de_Mo_count_94 : decode prog_14_method_114_code 94 = .ok (.iload_n 1, 1) := by decide +kernel
theorem de_Mo_count_95 : decode prog_14_method_114_code 95 = .ok (.iaload, 1) := by decide +kernel
theorem de_Mo_count_96 : decode prog_14_method_114_code 96 = .ok (.ireturn, 1) := by decide +kernel
set_option maxHeartbeats 4000000 in
set_option maxRecDepth 20000 in
theorem yy_count_4  : ab_Mt g_G g_rs mt_Mo_count 1 0 0 [ab_R (107), ab_I (4)] fw_0 (ab_is (some (ab_I (0))) fw_0) := by
  refine ab_Mt.of rfl (Nat.le_of_ble_eq_true rfl) ?_
  show ab_Ev g_G g_rs mt_Mo_count _ _ _ 0 [some (ab_R (107)), some (ab_I (4))] [] _ _
  refine ev_iload_n de_Mo_count_0 rfl rfl ?_
  refine ev_tableIn (off := 89) (tgt := 90) de_Mo_count_1 (by decide) (by decide) (by decide) rfl (by decide) ?_
  refine ev_aload_n de_Mo_count_90 rfl rfl ?_
  refine ev_getfield de_Mo_count_91 rfl fl_Mo_39 rfl ?_
  refine ev_iload_n de_Mo_count_94 rfl rfl ?_
  refine ev_iaload de_Mo_count_95 rfl (by decide) (by decide) (by decide) ?_
  refine ev_top (b := ab_I (0)) rfl ?_
  exact ev_ireturn de_Mo_count_96 rfl ⟨rfl, rfl⟩
theorem de_Tu_count_113 : decode prog_1_method_10_code 113 = .ok (.aload_n 0, 1) := by decide +kernel
theorem de_Tu_count_114 : decode prog_1_method_10_code 114 = .ok (.getfield 19, 3) := by decide +kernel
theorem de_Tu_count_117 : decode prog_1_method_10_code 117 = .ok (.getfield 136, 3) := by decide +kernel
theorem de_Tu_count_120 : decode prog_1_method_10_code 120 = .ok (.ireturn, 1) := by decide +kernel
set_option maxHeartbeats 4000000 in
set_option maxRecDepth 20000 in
theorem xx_count_5  : ab_Mt g_G g_rs mt_Tu_count 1 0 0 [ab_R (0), ab_I (5)] fw_0 (ab_is (some (ab_I (0))) fw_0) := by
  refine ab_Mt.of rfl (Nat.le_of_ble_eq_true rfl) ?_
  show ab_Ev g_G g_rs mt_Tu_count _ _ _ 0 [some (ab_R (0)), some (ab_I (5))] [] _ _
  refine ev_iload_n de_Tu_count_0 rfl rfl ?_
  refine ev_tableIn (off := 112) (tgt := 113) de_Tu_count_1 (by decide) (by decide) (by decide) rfl (by decide) ?_
  refine ev_aload_n de_Tu_count_113 rfl rfl ?_
  refine ev_getfield de_Tu_count_114 rfl fl_Tu_19 rfl ?_
  refine ev_getfield de_Tu_count_117 rfl fl_Tu_136 rfl ?_
  exact ev_ireturn de_Tu_count_120 rfl ⟨rfl, rfl⟩
set_option maxHeartbeats 4000000 in
set_option maxRecDepth 20000 in
theorem yy_count_5  : ab_Mt g_G g_rs mt_Mo_count 1 0 0 [ab_R (107), ab_I (5)] fw_0 (ab_is (some (ab_I (0))) fw_0) := by
  refine ab_Mt.of rfl (Nat.le_of_ble_eq_true rfl) ?_
  show ab_Ev g_G g_rs mt_Mo_count _ _ _ 0 [some (ab_R (107)), some (ab_I (5))] [] _ _
  refine ev_iload_n de_Mo_count_0 rfl rfl ?_
  refine ev_tableIn (off := 89) (tgt := 90) de_Mo_count_1 (by decide) (by decide) (by decide) rfl (by decide) ?_
  refine ev_aload_n de_Mo_count_90 rfl rfl ?_
  refine ev_getfield de_Mo_count_91 rfl fl_Mo_39 rfl ?_
  refine ev_iload_n de_Mo_count_94 rfl rfl ?_
  refine ev_iaload de_Mo_count_95 rfl (by decide) (by decide) (by decide) ?_
  refine ev_top (b := ab_I (0)) rfl ?_
  exact ev_ireturn de_Mo_count_96 rfl ⟨rfl, rfl⟩
theorem de_Tu_count_121 : decode prog_1_method_10_code 121 = .ok (.aload_n 0, 1) := by decide +kernel
theorem de_Tu_count_122 : decode prog_1_method_10_code 122 = .ok (.getfield 19, 3) := by decide +kernel
theorem de_Tu_count_125 : decode prog_1_method_10_code 125 = .ok (.getfield 180, 3) := by decide +kernel
theorem de_Tu_count_128 : decode prog_1_method_10_code 128 = .ok (.ireturn, 1) := by decide +kernel
set_option maxHeartbeats 4000000 in
set_option maxRecDepth 20000 in
theorem xx_count_6  : ab_Mt g_G g_rs mt_Tu_count 1 0 0 [ab_R (0), ab_I (6)] fw_0 (ab_is (some (ab_I (0))) fw_0) := by
  refine ab_Mt.of rfl (Nat.le_of_ble_eq_true rfl) ?_
  show ab_Ev g_G g_rs mt_Tu_count _ _ _ 0 [some (ab_R (0)), some (ab_I (6))] [] _ _
  refine ev_iload_n de_Tu_count_0 rfl rfl ?_
  refine ev_tableIn (off := 120) (tgt := 121) de_Tu_count_1 (by decide) (by decide) (by decide) rfl (by decide) ?_
  refine ev_aload_n de_Tu_count_121 rfl rfl ?_
  refine ev_getfield de_Tu_count_122 rfl fl_Tu_19 rfl ?_
  refine ev_getfield de_Tu_count_125 rfl fl_Tu_180 rfl ?_
  exact ev_ireturn de_Tu_count_128 rfl ⟨rfl, rfl⟩
set_option maxHeartbeats 4000000 in
set_option maxRecDepth 20000 in
theorem yy_count_6  : ab_Mt g_G g_rs mt_Mo_count 1 0 0 [ab_R (107), ab_I (6)] fw_0 (ab_is (some (ab_I (0))) fw_0) := by
  refine ab_Mt.of rfl (Nat.le_of_ble_eq_true rfl) ?_
  show ab_Ev g_G g_rs mt_Mo_count _ _ _ 0 [some (ab_R (107)), some (ab_I (6))] [] _ _
  refine ev_iload_n de_Mo_count_0 rfl rfl ?_
  refine ev_tableIn (off := 89) (tgt := 90) de_Mo_count_1 (by decide) (by decide) (by decide) rfl (by decide) ?_
  refine ev_aload_n de_Mo_count_90 rfl rfl ?_
  refine ev_getfield de_Mo_count_91 rfl fl_Mo_39 rfl ?_
  refine ev_iload_n de_Mo_count_94 rfl rfl ?_
  refine ev_iaload de_Mo_count_95 rfl (by decide) (by decide) (by decide) ?_
  refine ev_top (b := ab_I (0)) rfl ?_
  exact ev_ireturn de_Mo_count_96 rfl ⟨rfl, rfl⟩
theorem de_Ri_allLike_0 : decode prog_7_method_14_code 0 = .ok (.iconst 0, 1) := by decide +kernel
theorem de_Ri_allLike_1 : decode prog_7_method_14_code 1 = .ok (.istore_n 3, 1) := by decide +kernel
theorem de_Ri_allLike_2 : decode prog_7_method_14_code 2 = .ok (.iconst 0, 1) := by decide +kernel
theorem de_Ri_allLike_3 : decode prog_7_method_14_code 3 = .ok (.istore 4, 2) := by decide +kernel
theorem de_Ri_allLike_5 : decode prog_7_method_14_code 5 = .ok (.iload 4, 2) := by decide +kernel
theorem de_Ri_allLike_7 : decode prog_7_method_14_code 7 = .ok (.aload_n 0, 1) := by decide +kernel
theorem de_Ri_allLike_8 : decode prog_7_method_14_code 8 = .ok (.getfield 64, 3) := by decide +kernel
theorem de_Ri_allLike_11 : decode prog_7_method_14_code 11 = .ok (.if_icmp .ge 27, 3) := by decide +kernel
theorem de_Ri_allLike_38 : decode prog_7_method_14_code 38 = .ok (.iload_n 3, 1) := by decide +kernel
theorem de_Ri_allLike_39 : decode prog_7_method_14_code 39 = .ok (.ireturn, 1) := by decide +kernel
set_option maxHeartbeats 4000000 in
set_option maxRecDepth 20000 in
theorem fx_131  : ab_Mt g_G g_rs mt_Ri_allLike 1 0 0 [ab_R (3), ab_I (0), ab_I (0)] fw_0 (ab_is (some (ab_I (0))) fw_0) := by
  refine ab_Mt.of rfl (Nat.le_of_ble_eq_true rfl) ?_
  show ab_Ev g_G g_rs mt_Ri_allLike _ _ _ 0 [some (ab_R (3)), some (ab_I (0)), some (ab_I (0)), none, none] [] _ _
  refine ev_iconst de_Ri_allLike_0 ?_
  refine ev_istore_n (l' := [_, _, _, _, _]) de_Ri_allLike_1 rfl (Nat.le_of_ble_eq_true rfl) rfl ?_
  refine ev_iconst de_Ri_allLike_2 ?_
  refine ev_istore (l' := [_, _, _, _, _]) de_Ri_allLike_3 (Nat.le_of_ble_eq_true rfl) rfl ?_
  refine ev_iload de_Ri_allLike_5 rfl ?_
  refine ev_aload_n de_Ri_allLike_7 rfl rfl ?_
  refine ev_getfield de_Ri_allLike_8 rfl fl_Ri_64 rfl ?_
  refine ev_icmp_ge (tgt := 38) de_Ri_allLike_11 (by decide) (by decide) (by decide) (fun _ => ?_) (fun h => absurd h (by decide))
  refine ev_iload_n de_Ri_allLike_38 rfl rfl ?_
  exact ev_ireturn de_Ri_allLike_39 rfl ⟨rfl, rfl⟩
theorem de_Tu_count_129 : decode prog_1_method_10_code 129 = .ok (.aload_n 0, 1) := by decide +kernel
theorem de_Tu_count_130 : decode prog_1_method_10_code 130 = .ok (.getfield 19, 3) := by decide +kernel
theorem de_Tu_count_133 : decode prog_1_method_10_code 133 = .ok (.aload_n 0, 1) := by decide +kernel
theorem de_Tu_count_134 : decode prog_1_method_10_code 134 = .ok (.getfield 19, 3) := by decide +kernel
theorem de_Tu_count_137 : decode prog_1_method_10_code 137 = .ok (.getfield 177, 3) := by decide +kernel
theorem de_Tu_count_140 : decode prog_1_method_10_code 140 = .ok (.aload_n 0, 1) := by decide +kernel
theorem de_Tu_count_141 : decode prog_1_method_10_code 141 = .ok (.getfield 19, 3) := by decide +kernel
theorem de_Tu_count_144 : decode prog_1_method_10_code 144 = .ok (.getfield 136, 3) := by decide +kernel
theorem de_Tu_count_147 : decode prog_1_method_10_code 147 = .ok (.invokevirtual 183, 3) := by decide +kernel
theorem de_Tu_count_150 : decode prog_1_method_10_code 150 = .ok (.ireturn, 1) := by decide +kernel
set_option maxHeartbeats 4000000 in
set_option maxRecDepth 20000 in
theorem xx_count_7  : ab_Mt g_G g_rs mt_Tu_count 2 0 0 [ab_R (0), ab_I (7)] fw_0 (ab_is (some (ab_I (0))) fw_0) := by
  refine ab_Mt.of rfl (Nat.le_of_ble_eq_true rfl) ?_
  show ab_Ev g_G g_rs mt_Tu_count _ _ _ 0 [some (ab_R (0)), some (ab_I (7))] [] _ _
  refine ev_iload_n de_Tu_count_0 rfl rfl ?_
  refine ev_tableIn (off := 128) (tgt := 129) de_Tu_count_1 (by decide) (by decide) (by decide) rfl (by decide) ?_
  refine ev_aload_n de_Tu_count_129 rfl rfl ?_
  refine ev_getfield de_Tu_count_130 rfl fl_Tu_19 rfl ?_
  refine ev_aload_n de_Tu_count_133 rfl rfl ?_
  refine ev_getfield de_Tu_count_134 rfl fl_Tu_19 rfl ?_
  refine ev_getfield de_Tu_count_137 rfl fl_Tu_177 rfl ?_
  refine ev_aload_n de_Tu_count_140 rfl rfl ?_
  refine ev_getfield de_Tu_count_141 rfl fl_Tu_19 rfl ?_
  refine ev_getfield de_Tu_count_144 rfl fl_Tu_136 rfl ?_
  refine ev_vv (ci := 5) de_Tu_count_147 fx_131 kb_Tu_183 ⟨im_Ri_allLike, se_Ri_allLike⟩ rfl rfl rfl (Nat.le_of_ble_eq_true rfl) (by decide) rfl ?_
  exact ev_ireturn de_Tu_count_150 rfl ⟨rfl, rfl⟩
theorem de_Mo_allLike_0 : decode prog_14_method_57_code 0 = .ok (.iconst 0, 1) := by decide +kernel
theorem de_Mo_allLike_1 : decode prog_14_method_57_code 1 = .ok (.istore_n 1, 1) := by decide +kernel
theorem de_Mo_allLike_2 : decode prog_14_method_57_code 2 = .ok (.iconst 0, 1) := by decide +kernel
theorem de_Mo_allLike_3 : decode prog_14_method_57_code 3 = .ok (.istore_n 2, 1) := by decide +kernel
theorem de_Mo_allLike_4 : decode prog_14_method_57_code 4 = .ok (.iload_n 2, 1) := by decide +kernel
theorem de_Mo_allLike_5 : decode prog_14_method_57_code 5 = .ok (.aload_n 0, 1) := by decide +kernel
theorem de_Mo_allLike_6 : decode prog_14_method_57_code 6 = .ok (.getfield 39, 3) := by decide +kernel
theorem de_Mo_allLike_9 : decode prog_14_method_57_code 9 = .ok (.iconst 1, 1) := by decide +kernel
theorem de_Mo_allLike_10 : decode prog_14_method_57_code 10 = .ok (.iaload, 1) := by decide +kernel
theorem de_Mo_allLike_11 : decode prog_14_method_57_code 11 = .ok (.if_icmp .ge 17, 3) := by decide +kernel
theorem de_Mo_allLike_28 : decode prog_14_method_57_code 28 = .ok (.iload_n 1, 1) := by decide +kernel
theorem de_Mo_allLike_29 : decode prog_14_method_57_code 29 = .ok (.ireturn, 1) := by decide +kernel
set_option maxHeartbeats 4000000 in
set_option maxRecDepth 20000 in
theorem fx_133  : ab_Mt g_G g_rs mt_Mo_allLike 1 0 0 [ab_R (107)] fw_0 (ab_is (some (ab_I (0))) fw_0) := by
  refine ab_Mt.of rfl (Nat.le_of_ble_eq_true rfl) ?_
  show ab_Ev g_G g_rs mt_Mo_allLike _ _ _ 0 [some (ab_R (107)), none, none] [] _ _
  refine ev_iconst de_Mo_allLike_0 ?_
  refine ev_istore_n (l' := [_, _, _]) de_Mo_allLike_1 rfl (Nat.le_of_ble_eq_true rfl) rfl ?_
  refine ev_iconst de_Mo_allLike_2 ?_
  refine ev_istore_n (l' := [_, _, _]) de_Mo_allLike_3 rfl (Nat.le_of_ble_eq_true rfl) rfl ?_
  refine ev_iload_n de_Mo_allLike_4 rfl rfl ?_
  refine ev_aload_n de_Mo_allLike_5 rfl rfl ?_
  refine ev_getfield de_Mo_allLike_6 rfl fl_Mo_39 rfl ?_
  refine ev_iconst de_Mo_allLike_9 ?_
  refine ev_iaload de_Mo_allLike_10 rfl (by decide) (by decide) (by decide) ?_
  refine ev_top (b := ab_I (0)) rfl ?_
  refine ev_icmp_ge (tgt := 28) de_Mo_allLike_11 (by decide) (by decide) (by decide) (fun _ => ?_) (fun h => absurd h (by decide))
  refine ev_iload_n de_Mo_allLike_28 rfl rfl ?_
  exact ev_ireturn de_Mo_allLike_29 rfl ⟨rfl, rfl⟩
theorem de_Mo_count_97 : decode prog_14_method_114_code 97 = .ok (.aload_n 0, 1) := by decide +kernel
theorem de_Mo_count_98 : decode prog_14_method_114_code 98 = .ok (.invokevirtual 354, 3) := by decide +kernel
theorem de_Mo_count_101 : decode prog_14_method_114_code 101 = .ok (.ireturn, 1) := by decide +kernel
set_option maxHeartbeats 4000000 in
set_option maxRecDepth 20000 in
theorem yy_count_7  : ab_Mt g_G g_rs mt_Mo_count 2 0 0 [ab_R (107), ab_I (7)] fw_0 (ab_is (some (ab_I (0))) fw_0) := by
  refine ab_Mt.of rfl (Nat.le_of_ble_eq_true rfl) ?_
  show ab_Ev g_G g_rs mt_Mo_count _ _ _ 0 [some (ab_R (107)), some (ab_I (7))] [] _ _
  refine ev_iload_n de_Mo_count_0 rfl rfl ?_
  refine ev_tableIn (off := 96) (tgt := 97) de_Mo_count_1 (by decide) (by decide) (by decide) rfl (by decide) ?_
  refine ev_aload_n de_Mo_count_97 rfl rfl ?_
  refine ev_vv (ci := 11) de_Mo_count_98 fx_133 kb_Mo_354 ⟨im_Mo_allLike, se_Mo_allLike⟩ rfl rfl rfl (Nat.le_of_ble_eq_true rfl) (by decide) rfl ?_
  exact ev_ireturn de_Mo_count_101 rfl ⟨rfl, rfl⟩
theorem de_Tu_count_151 : decode prog_1_method_10_code 151 = .ok (.aload_n 0, 1) := by decide +kernel
theorem de_Tu_count_152 : decode prog_1_method_10_code 152 = .ok (.getfield 19, 3) := by decide +kernel
theorem de_Tu_count_155 : decode prog_1_method_10_code 155 = .ok (.getfield 186, 3) := by decide +kernel
theorem de_Tu_count_158 : decode prog_1_method_10_code 158 = .ok (.ifCond .eq 7, 3) := by decide +kernel
theorem de_Tu_count_165 : decode prog_1_method_10_code 165 = .ok (.iconst 0, 1) := by decide +kernel
theorem de_Tu_count_166 : decode prog_1_method_10_code 166 = .ok (.ireturn, 1) := by decide +kernel
set_option maxHeartbeats 4000000 in
set_option maxRecDepth 20000 in
theorem xx_count_8  : ab_Mt g_G g_rs mt_Tu_count 1 0 0 [ab_R (0), ab_I (8)] fw_0 (ab_is (some (ab_I (0))) fw_0) := by
  refine ab_Mt.of rfl (Nat.le_of_ble_eq_true rfl) ?_
  show ab_Ev g_G g_rs mt_Tu_count _ _ _ 0 [some (ab_R (0)), some (ab_I (8))] [] _ _
  refine ev_iload_n de_Tu_count_0 rfl rfl ?_
  refine ev_tableIn (off := 150) (tgt := 151) de_Tu_count_1 (by decide) (by decide) (by decide) rfl (by decide) ?_
  refine ev_aload_n de_Tu_count_151 rfl rfl ?_
  refine ev_getfield de_Tu_count_152 rfl fl_Tu_19 rfl ?_
  refine ev_getfield de_Tu_count_155 rfl fl_Tu_186 rfl ?_
  refine ev_if_eq (tgt := 165) de_Tu_count_158 (by decide) (by decide) (fun _ => ?_) (fun h => absurd h (by decide))
  refine ev_iconst de_Tu_count_165 ?_
  exact ev_ireturn de_Tu_count_166 rfl ⟨rfl, rfl⟩
theorem de_Mo_count_102 : decode prog_14_method_114_code 102 = .ok (.aload_n 0, 1) := by decide +kernel
theorem de_Mo_count_103 : decode prog_14_method_114_code 103 = .ok (.getfield 39, 3) := by decide +kernel
theorem de_Mo_count_106 : decode prog_14_method_114_code 106 = .ok (.iload_n 1, 1) := by decide +kernel
theorem de_Mo_count_107 : decode prog_14_method_114_code 107 = .ok (.iconst 1, 1) := by decide +kernel
theorem de_Mo_count_108 : decode prog_14_method_114_code 108 = .ok (.isub, 1) := by decide +kernel
theorem de_Mo_count_109 : decode prog_14_method_114_code 109 = .ok (.iaload, 1) := by decide +kernel
theorem de_Mo_count_110 : decode prog_14_method_114_code 110 = .ok (.ireturn, 1) := by decide +kernel
set_option maxHeartbeats 4000000 in
set_option maxRecDepth 20000 in
theorem yy_count_8  : ab_Mt g_G g_rs mt_Mo_count 1 0 0 [ab_R (107), ab_I (8)] fw_0 (ab_is (some (ab_I (0))) fw_0) := by
  refine ab_Mt.of rfl (Nat.le_of_ble_eq_true rfl) ?_
  show ab_Ev g_G g_rs mt_Mo_count _ _ _ 0 [some (ab_R (107)), some (ab_I (8))] [] _ _
  refine ev_iload_n de_Mo_count_0 rfl rfl ?_
  refine ev_tableIn (off := 101) (tgt := 102) de_Mo_count_1 (by decide) (by decide) (by decide) rfl (by decide) ?_
  refine ev_aload_n de_Mo_count_102 rfl rfl ?_
  refine ev_getfield de_Mo_count_103 rfl fl_Mo_39 rfl ?_
  refine ev_iload_n de_Mo_count_106 rfl rfl ?_
  refine ev_iconst de_Mo_count_107 ?_
  refine ev_isub de_Mo_count_108 ?_
  refine ev_top (b := ab_I (7)) rfl ?_
  refine ev_iaload de_Mo_count_109 rfl (by decide) (by decide) (by decide) ?_
  refine ev_top (b := ab_I (0)) rfl ?_
  exact ev_ireturn de_Mo_count_110 rfl ⟨rfl, rfl⟩
theorem de_Tu_count_167 : decode prog_1_method_10_code 167 = .ok (.aload_n 0, 1) := by decide +kernel
theorem de_Tu_count_168 : decode prog_1_method_10_code 168 = .ok (.getfield 19, 3) := by decide +kernel
theorem de_Tu_count_171 : decode prog_1_method_10_code 171 = .ok (.getfield 189, 3) := by decide +kernel
theorem de_Tu_count_174 : decode prog_1_method_10_code 174 = .ok (.ireturn, 1) := by decide +kernel
set_option maxHeartbeats 4000000 in
set_option maxRecDepth 20000 in
theorem xx_count_9  : ab_Mt g_G g_rs mt_Tu_count 1 0 0 [ab_R (0), ab_I (9)] fw_0 (ab_is (some (ab_I (0))) fw_0) := by
  refine ab_Mt.of rfl (Nat.le_of_ble_eq_true rfl) ?_
  show ab_Ev g_G g_rs mt_Tu_count _ _ _ 0 [some (ab_R (0)), some (ab_I (9))] [] _ _
  refine ev_iload_n de_Tu_count_0 rfl rfl ?_
  refine ev_tableIn (off := 166) (tgt := 167) de_Tu_count_1 (by decide) (by decide) (by decide) rfl (by decide) ?_
  refine ev_aload_n de_Tu_count_167 rfl rfl ?_
  refine ev_getfield de_Tu_count_168 rfl fl_Tu_19 rfl ?_
  refine ev_getfield de_Tu_count_171 rfl fl_Tu_189 rfl ?_
  exact ev_ireturn de_Tu_count_174 rfl ⟨rfl, rfl⟩
set_option maxHeartbeats 4000000 in
set_option maxRecDepth 20000 in
theorem yy_count_9  : ab_Mt g_G g_rs mt_Mo_count 1 0 0 [ab_R (107), ab_I (9)] fw_0 (ab_is (some (ab_I (0))) fw_0) := by
  refine ab_Mt.of rfl (Nat.le_of_ble_eq_true rfl) ?_
  show ab_Ev g_G g_rs mt_Mo_count _ _ _ 0 [some (ab_R (107)), some (ab_I (9))] [] _ _
  refine ev_iload_n de_Mo_count_0 rfl rfl ?_
  refine ev_tableIn (off := 101) (tgt := 102) de_Mo_count_1 (by decide) (by decide) (by decide) rfl (by decide) ?_
  refine ev_aload_n de_Mo_count_102 rfl rfl ?_
  refine ev_getfield de_Mo_count_103 rfl fl_Mo_39 rfl ?_
  refine ev_iload_n de_Mo_count_106 rfl rfl ?_
  refine ev_iconst de_Mo_count_107 ?_
  refine ev_isub de_Mo_count_108 ?_
  refine ev_top (b := ab_I (8)) rfl ?_
  refine ev_iaload de_Mo_count_109 rfl (by decide) (by decide) (by decide) ?_
  refine ev_top (b := ab_I (0)) rfl ?_
  exact ev_ireturn de_Mo_count_110 rfl ⟨rfl, rfl⟩
theorem de_Tu_count_175 : decode prog_1_method_10_code 175 = .ok (.aload_n 0, 1) := by decide +kernel
theorem de_Tu_count_176 : decode prog_1_method_10_code 176 = .ok (.getfield 19, 3) := by decide +kernel
theorem de_Tu_count_179 : decode prog_1_method_10_code 179 = .ok (.getfield 192, 3) := by decide +kernel
theorem de_Tu_count_182 : decode prog_1_method_10_code 182 = .ok (.getfield 196, 3) := by decide +kernel
theorem de_Tu_count_185 : decode prog_1_method_10_code 185 = .ok (.ireturn, 1) := by decide +kernel
set_option maxHeartbeats 4000000 in
set_option maxRecDepth 20000 in
theorem xx_count_10  : ab_Mt g_G g_rs mt_Tu_count 1 0 0 [ab_R (0), ab_I (10)] fw_0 (ab_is (some (ab_I (0))) fw_0) := by
  refine ab_Mt.of rfl (Nat.le_of_ble_eq_true rfl) ?_
  show ab_Ev g_G g_rs mt_Tu_count _ _ _ 0 [some (ab_R (0)), some (ab_I (10))] [] _ _
  refine ev_iload_n de_Tu_count_0 rfl rfl ?_
  refine ev_tableIn (off := 174) (tgt := 175) de_Tu_count_1 (by decide) (by decide) (by decide) rfl (by decide) ?_
  refine ev_aload_n de_Tu_count_175 rfl rfl ?_
  refine ev_getfield de_Tu_count_176 rfl fl_Tu_19 rfl ?_
  refine ev_getfield de_Tu_count_179 rfl fl_Tu_192 rfl ?_
  refine ev_getfield de_Tu_count_182 rfl fl_Tu_196 rfl ?_
  exact ev_ireturn de_Tu_count_185 rfl ⟨rfl, rfl⟩
theorem de_Mo_count_111 : decode prog_14_method_114_code 111 = .ok (.aload_n 0, 1) := by decide +kernel
theorem de_Mo_count_112 : decode prog_14_method_114_code 112 = .ok (.getfield 39, 3) := by decide +kernel
theorem de_Mo_count_115 : decode prog_14_method_114_code 115 = .ok (.sipush 190, 3) := by decide +kernel
theorem de_Mo_count_118 : decode prog_14_method_114_code 118 = .ok (.iaload, 1) := by decide +kernel
theorem de_Mo_count_119 : decode prog_14_method_114_code 119 = .ok (.ireturn, 1) := by decide +kernel
set_option maxHeartbeats 4000000 in
set_option maxRecDepth 20000 in
theorem yy_count_10  : ab_Mt g_G g_rs mt_Mo_count 1 0 0 [ab_R (107), ab_I (10)] fw_0 (ab_is (some (ab_I (0))) fw_0) := by
  refine ab_Mt.of rfl (Nat.le_of_ble_eq_true rfl) ?_
  show ab_Ev g_G g_rs mt_Mo_count _ _ _ 0 [some (ab_R (107)), some (ab_I (10))] [] _ _
  refine ev_iload_n de_Mo_count_0 rfl rfl ?_
  refine ev_tableIn (off := 110) (tgt := 111) de_Mo_count_1 (by decide) (by decide) (by decide) rfl (by decide) ?_
  refine ev_aload_n de_Mo_count_111 rfl rfl ?_
  refine ev_getfield de_Mo_count_112 rfl fl_Mo_39 rfl ?_
  refine ev_sipush de_Mo_count_115 rfl ?_
  refine ev_iaload de_Mo_count_118 rfl (by decide) (by decide) (by decide) ?_
  refine ev_top (b := ab_I (0)) rfl ?_
  exact ev_ireturn de_Mo_count_119 rfl ⟨rfl, rfl⟩
theorem de_Tu_count_186 : decode prog_1_method_10_code 186 = .ok (.aload_n 0, 1) := by decide +kernel
theorem de_Tu_count_187 : decode prog_1_method_10_code 187 = .ok (.getfield 43, 3) := by decide +kernel
theorem de_Tu_count_190 : decode prog_1_method_10_code 190 = .ok (.getfield 201, 3) := by decide +kernel
theorem de_Tu_count_193 : decode prog_1_method_10_code 193 = .ok (.ireturn, 1) := by decide +kernel
set_option maxHeartbeats 4000000 in
set_option maxRecDepth 20000 in
theorem xx_count_11  : ab_Mt g_G g_rs mt_Tu_count 1 0 0 [ab_R (0), ab_I (11)] fw_0 (ab_is (some (ab_I (0))) fw_0) := by
  refine ab_Mt.of rfl (Nat.le_of_ble_eq_true rfl) ?_
  show ab_Ev g_G g_rs mt_Tu_count _ _ _ 0 [some (ab_R (0)), some (ab_I (11))] [] _ _
  refine ev_iload_n de_Tu_count_0 rfl rfl ?_
  refine ev_tableIn (off := 185) (tgt := 186) de_Tu_count_1 (by decide) (by decide) (by decide) rfl (by decide) ?_
  refine ev_aload_n de_Tu_count_186 rfl rfl ?_
  refine ev_getfield de_Tu_count_187 rfl fl_Tu_43 rfl ?_
  refine ev_getfield de_Tu_count_190 rfl fl_Tu_201 rfl ?_
  exact ev_ireturn de_Tu_count_193 rfl ⟨rfl, rfl⟩
theorem de_Mo_count_120 : decode prog_14_method_114_code 120 = .ok (.aload_n 0, 1) := by decide +kernel
theorem de_Mo_count_121 : decode prog_14_method_114_code 121 = .ok (.getfield 272, 3) := by decide +kernel
theorem de_Mo_count_124 : decode prog_14_method_114_code 124 = .ok (.ireturn, 1) := by decide +kernel
set_option maxHeartbeats 4000000 in
set_option maxRecDepth 20000 in
theorem yy_count_11  : ab_Mt g_G g_rs mt_Mo_count 1 0 0 [ab_R (107), ab_I (11)] fw_0 (ab_is (some (ab_I (0))) fw_0) := by
  refine ab_Mt.of rfl (Nat.le_of_ble_eq_true rfl) ?_
  show ab_Ev g_G g_rs mt_Mo_count _ _ _ 0 [some (ab_R (107)), some (ab_I (11))] [] _ _
  refine ev_iload_n de_Mo_count_0 rfl rfl ?_
  refine ev_tableIn (off := 119) (tgt := 120) de_Mo_count_1 (by decide) (by decide) (by decide) rfl (by decide) ?_
  refine ev_aload_n de_Mo_count_120 rfl rfl ?_
  refine ev_getfield de_Mo_count_121 rfl fl_Mo_272 rfl ?_
  exact ev_ireturn de_Mo_count_124 rfl ⟨rfl, rfl⟩
theorem de_Tu_count_194 : decode prog_1_method_10_code 194 = .ok (.aload_n 0, 1) := by decide +kernel
theorem de_Tu_count_195 : decode prog_1_method_10_code 195 = .ok (.getfield 19, 3) := by decide +kernel
theorem de_Tu_count_198 : decode prog_1_method_10_code 198 = .ok (.getfield 96, 3) := by decide +kernel
theorem de_Tu_count_201 : decode prog_1_method_10_code 201 = .ok (.ireturn, 1) := by decide +kernel
set_option maxHeartbeats 4000000 in
set_option maxRecDepth 20000 in
theorem xx_count_12  : ab_Mt g_G g_rs mt_Tu_count 1 0 0 [ab_R (0), ab_I (12)] fw_0 (ab_is (some (ab_I (0))) fw_0) := by
  refine ab_Mt.of rfl (Nat.le_of_ble_eq_true rfl) ?_
  show ab_Ev g_G g_rs mt_Tu_count _ _ _ 0 [some (ab_R (0)), some (ab_I (12))] [] _ _
  refine ev_iload_n de_Tu_count_0 rfl rfl ?_
  refine ev_tableIn (off := 193) (tgt := 194) de_Tu_count_1 (by decide) (by decide) (by decide) rfl (by decide) ?_
  refine ev_aload_n de_Tu_count_194 rfl rfl ?_
  refine ev_getfield de_Tu_count_195 rfl fl_Tu_19 rfl ?_
  refine ev_getfield de_Tu_count_198 rfl fl_Tu_96 rfl ?_
  exact ev_ireturn de_Tu_count_201 rfl ⟨rfl, rfl⟩
theorem de_Mo_count_125 : decode prog_14_method_114_code 125 = .ok (.aload_n 0, 1) := by decide +kernel
theorem de_Mo_count_126 : decode prog_14_method_114_code 126 = .ok (.getfield 465, 3) := by decide +kernel
theorem de_Mo_count_129 : decode prog_14_method_114_code 129 = .ok (.ireturn, 1) := by decide +kernel
set_option maxHeartbeats 4000000 in
set_option maxRecDepth 20000 in
theorem yy_count_12  : ab_Mt g_G g_rs mt_Mo_count 1 0 0 [ab_R (107), ab_I (12)] fw_0 (ab_is (some (ab_I (0))) fw_0) := by
  refine ab_Mt.of rfl (Nat.le_of_ble_eq_true rfl) ?_
  show ab_Ev g_G g_rs mt_Mo_count _ _ _ 0 [some (ab_R (107)), some (ab_I (12))] [] _ _
  refine ev_iload_n de_Mo_count_0 rfl rfl ?_
  refine ev_tableIn (off := 124) (tgt := 125) de_Mo_count_1 (by decide) (by decide) (by decide) rfl (by decide) ?_
  refine ev_aload_n de_Mo_count_125 rfl rfl ?_
  refine ev_getfield de_Mo_count_126 rfl fl_Mo_465 rfl ?_
  exact ev_ireturn de_Mo_count_129 rfl ⟨rfl, rfl⟩
theorem de_Tu_count_202 : decode prog_1_method_10_code 202 = .ok (.aload_n 0, 1) := by decide +kernel
theorem de_Tu_count_203 : decode prog_1_method_10_code 203 = .ok (.getfield 10, 3) := by decide +kernel
theorem de_Tu_count_206 : decode prog_1_method_10_code 206 = .ok (.getfield 82, 3) := by decide +kernel
theorem de_Tu_count_209 : decode prog_1_method_10_code 209 = .ok (.ireturn, 1) := by decide +kernel
set_option maxHeartbeats 4000000 in
set_option maxRecDepth 20000 in
theorem xx_count_13  : ab_Mt g_G g_rs mt_Tu_count 1 0 0 [ab_R (0), ab_I (13)] fw_0 (ab_is (some (ab_I (0))) fw_0) := by
  refine ab_Mt.of rfl (Nat.le_of_ble_eq_true rfl) ?_
  show ab_Ev g_G g_rs mt_Tu_count _ _ _ 0 [some (ab_R (0)), some (ab_I (13))] [] _ _
  refine ev_iload_n de_Tu_count_0 rfl rfl ?_
  refine ev_tableIn (off := 201) (tgt := 202) de_Tu_count_1 (by decide) (by decide) (by decide) rfl (by decide) ?_
  refine ev_aload_n de_Tu_count_202 rfl rfl ?_
  refine ev_getfield de_Tu_count_203 rfl fl_Tu_10 rfl ?_
  refine ev_getfield de_Tu_count_206 rfl fl_Tu_82 rfl ?_
  exact ev_ireturn de_Tu_count_209 rfl ⟨rfl, rfl⟩
theorem de_Mo_count_130 : decode prog_14_method_114_code 130 = .ok (.aload_n 0, 1) := by decide +kernel
theorem de_Mo_count_131 : decode prog_14_method_114_code 131 = .ok (.getfield 76, 3) := by decide +kernel
theorem de_Mo_count_134 : decode prog_14_method_114_code 134 = .ok (.ireturn, 1) := by decide +kernel
set_option maxHeartbeats 4000000 in
set_option maxRecDepth 20000 in
theorem yy_count_13  : ab_Mt g_G g_rs mt_Mo_count 1 0 0 [ab_R (107), ab_I (13)] fw_0 (ab_is (some (ab_I (0))) fw_0) := by
  refine ab_Mt.of rfl (Nat.le_of_ble_eq_true rfl) ?_
  show ab_Ev g_G g_rs mt_Mo_count _ _ _ 0 [some (ab_R (107)), some (ab_I (13))] [] _ _
  refine ev_iload_n de_Mo_count_0 rfl rfl ?_
  refine ev_tableIn (off := 129) (tgt := 130) de_Mo_count_1 (by decide) (by decide) (by decide) rfl (by decide) ?_
  refine ev_aload_n de_Mo_count_130 rfl rfl ?_
  refine ev_getfield de_Mo_count_131 rfl fl_Mo_76 rfl ?_
  exact ev_ireturn de_Mo_count_134 rfl ⟨rfl, rfl⟩
theorem de_Ri_votesOf_0 : decode prog_7_method_22_code 0 = .ok (.iconst 0, 1) := by decide +kernel
theorem de_Ri_votesOf_1 : decode prog_7_method_22_code 1 = .ok (.istore_n 2, 1) := by decide +kernel
theorem de_Ri_votesOf_2 : decode prog_7_method_22_code 2 = .ok (.iconst 0, 1) := by decide +kernel
theorem de_Ri_votesOf_3 : decode prog_7_method_22_code 3 = .ok (.istore_n 3, 1) := by decide +kernel
theorem de_Ri_votesOf_4 : decode prog_7_method_22_code 4 = .ok (.iload_n 3, 1) := by decide +kernel
theorem de_Ri_votesOf_5 : decode prog_7_method_22_code 5 = .ok (.aload_n 0, 1) := by decide +kernel
theorem de_Ri_votesOf_6 : decode prog_7_method_22_code 6 = .ok (.getfield 64, 3) := by decide +kernel
theorem de_Ri_votesOf_9 : decode prog_7_method_22_code 9 = .ok (.if_icmp .ge 26, 3) := by decide +kernel
theorem de_Ri_votesOf_35 : decode prog_7_method_22_code 35 = .ok (.iload_n 2, 1) := by decide +kernel
theorem de_Ri_votesOf_36 : decode prog_7_method_22_code 36 = .ok (.ireturn, 1) := by decide +kernel
set_option maxHeartbeats 4000000 in
set_option maxRecDepth 20000 in
theorem fx_148  : ab_Mt g_G g_rs mt_Ri_votesOf 1 0 0 [ab_R (3), ab_I (0)] fw_0 (ab_is (some (ab_I (0))) fw_0) := by
  refine ab_Mt.of rfl (Nat.le_of_ble_eq_true rfl) ?_
  show ab_Ev g_G g_rs mt_Ri_votesOf _ _ _ 0 [some (ab_R (3)), some (ab_I (0)), none, none] [] _ _
  refine ev_iconst de_Ri_votesOf_0 ?_
  refine ev_istore_n (l' := [_, _, _, _]) de_Ri_votesOf_1 rfl (Nat.le_of_ble_eq_true rfl) rfl ?_
  refine ev_iconst de_Ri_votesOf_2 ?_
  refine ev_istore_n (l' := [_, _, _, _]) de_Ri_votesOf_3 rfl (Nat.le_of_ble_eq_true rfl) rfl ?_
  refine ev_iload_n de_Ri_votesOf_4 rfl rfl ?_
  refine ev_aload_n de_Ri_votesOf_5 rfl rfl ?_
  refine ev_getfield de_Ri_votesOf_6 rfl fl_Ri_64 rfl ?_
  refine ev_icmp_ge (tgt := 35) de_Ri_votesOf_9 (by decide) (by decide) (by decide) (fun _ => ?_) (fun h => absurd h (by decide))
  refine ev_iload_n de_Ri_votesOf_35 rfl rfl ?_
  exact ev_ireturn de_Ri_votesOf_36 rfl ⟨rfl, rfl⟩
theorem de_Ri_allVotes_0 : decode prog_7_method_21_code 0 = .ok (.aload_n 0, 1) := by decide +kernel
theorem de_Ri_allVotes_1 : decode prog_7_method_21_code 1 = .ok (.iconst 1, 1) := by decide +kernel
theorem de_Ri_allVotes_2 : decode prog_7_method_21_code 2 = .ok (.aload_n 0, 1) := by decide +kernel
theorem de_Ri_allVotes_3 : decode prog_7_method_21_code 3 = .ok (.getfield 64, 3) := by decide +kernel
theorem de_Ri_allVotes_6 : decode prog_7_method_21_code 6 = .ok (.ishl, 1) := by decide +kernel
theorem de_Ri_allVotes_7 : decode prog_7_method_21_code 7 = .ok (.iconst 1, 1) := by decide +kernel
theorem de_Ri_allVotes_8 : decode prog_7_method_21_code 8 = .ok (.isub, 1) := by decide +kernel
theorem de_Ri_allVotes_9 : decode prog_7_method_21_code 9 = .ok (.invokevirtual 137, 3) := by decide +kernel
theorem de_Ri_allVotes_12 : decode prog_7_method_21_code 12 = .ok (.ireturn, 1) := by decide +kernel
set_option maxHeartbeats 4000000 in
set_option maxRecDepth 20000 in
theorem fx_147  : ab_Mt g_G g_rs mt_Ri_allVotes 2 0 0 [ab_R (3)] fw_0 (ab_is (some (ab_I (0))) fw_0) := by
  refine ab_Mt.of rfl (Nat.le_of_ble_eq_true rfl) ?_
  show ab_Ev g_G g_rs mt_Ri_allVotes _ _ _ 0 [some (ab_R (3))] [] _ _
  refine ev_aload_n de_Ri_allVotes_0 rfl rfl ?_
  refine ev_iconst de_Ri_allVotes_1 ?_
  refine ev_aload_n de_Ri_allVotes_2 rfl rfl ?_
  refine ev_getfield de_Ri_allVotes_3 rfl fl_Ri_64 rfl ?_
  refine ev_ishl de_Ri_allVotes_6 (by decide) (by decide) ?_
  refine ev_top (b := ab_I (1)) rfl ?_
  refine ev_iconst de_Ri_allVotes_7 ?_
  refine ev_isub de_Ri_allVotes_8 ?_
  refine ev_top (b := ab_I (0)) rfl ?_
  refine ev_vv (ci := 5) de_Ri_allVotes_9 fx_148 kb_Ri_137 ⟨im_Ri_votesOf, se_Ri_votesOf⟩ rfl rfl rfl (Nat.le_of_ble_eq_true rfl) (by decide) rfl ?_
  exact ev_ireturn de_Ri_allVotes_12 rfl ⟨rfl, rfl⟩
theorem de_Tu_count_210 : decode prog_1_method_10_code 210 = .ok (.aload_n 0, 1) := by decide +kernel
theorem de_Tu_count_211 : decode prog_1_method_10_code 211 = .ok (.getfield 19, 3) := by decide +kernel
theorem de_Tu_count_214 : decode prog_1_method_10_code 214 = .ok (.invokevirtual 204, 3) := by decide +kernel
theorem de_Tu_count_217 : decode prog_1_method_10_code 217 = .ok (.ireturn, 1) := by decide +kernel
set_option maxHeartbeats 4000000 in
set_option maxRecDepth 20000 in
theorem xx_count_14  : ab_Mt g_G g_rs mt_Tu_count 3 0 0 [ab_R (0), ab_I (14)] fw_0 (ab_is (some (ab_I (0))) fw_0) := by
  refine ab_Mt.of rfl (Nat.le_of_ble_eq_true rfl) ?_
  show ab_Ev g_G g_rs mt_Tu_count _ _ _ 0 [some (ab_R (0)), some (ab_I (14))] [] _ _
  refine ev_iload_n de_Tu_count_0 rfl rfl ?_
  refine ev_tableIn (off := 209) (tgt := 210) de_Tu_count_1 (by decide) (by decide) (by decide) rfl (by decide) ?_
  refine ev_aload_n de_Tu_count_210 rfl rfl ?_
  refine ev_getfield de_Tu_count_211 rfl fl_Tu_19 rfl ?_
  refine ev_vv (ci := 5) de_Tu_count_214 fx_147 kb_Tu_204 ⟨im_Ri_allVotes, se_Ri_allVotes⟩ rfl rfl rfl (Nat.le_of_ble_eq_true rfl) (by decide) rfl ?_
  exact ev_ireturn de_Tu_count_217 rfl ⟨rfl, rfl⟩
theorem de_Mo_everyHouse_0 : decode prog_14_method_59_code 0 = .ok (.iconst 1, 1) := by decide +kernel
theorem de_Mo_everyHouse_1 : decode prog_14_method_59_code 1 = .ok (.aload_n 0, 1) := by decide +kernel
theorem de_Mo_everyHouse_2 : decode prog_14_method_59_code 2 = .ok (.getfield 39, 3) := by decide +kernel
theorem de_Mo_everyHouse_5 : decode prog_14_method_59_code 5 = .ok (.iconst 1, 1) := by decide +kernel
theorem de_Mo_everyHouse_6 : decode prog_14_method_59_code 6 = .ok (.iaload, 1) := by decide +kernel
theorem de_Mo_everyHouse_7 : decode prog_14_method_59_code 7 = .ok (.ishl, 1) := by decide +kernel
theorem de_Mo_everyHouse_8 : decode prog_14_method_59_code 8 = .ok (.iconst 1, 1) := by decide +kernel
theorem de_Mo_everyHouse_9 : decode prog_14_method_59_code 9 = .ok (.isub, 1) := by decide +kernel
theorem de_Mo_everyHouse_10 : decode prog_14_method_59_code 10 = .ok (.ireturn, 1) := by decide +kernel
set_option maxHeartbeats 4000000 in
set_option maxRecDepth 20000 in
theorem fx_150  : ab_Mt g_G g_rs mt_Mo_everyHouse 1 0 0 [ab_R (107)] fw_0 (ab_is (some (ab_I (0))) fw_0) := by
  refine ab_Mt.of rfl (Nat.le_of_ble_eq_true rfl) ?_
  show ab_Ev g_G g_rs mt_Mo_everyHouse _ _ _ 0 [some (ab_R (107))] [] _ _
  refine ev_iconst de_Mo_everyHouse_0 ?_
  refine ev_aload_n de_Mo_everyHouse_1 rfl rfl ?_
  refine ev_getfield de_Mo_everyHouse_2 rfl fl_Mo_39 rfl ?_
  refine ev_iconst de_Mo_everyHouse_5 ?_
  refine ev_iaload de_Mo_everyHouse_6 rfl (by decide) (by decide) (by decide) ?_
  refine ev_top (b := ab_I (0)) rfl ?_
  refine ev_ishl de_Mo_everyHouse_7 (by decide) (by decide) ?_
  refine ev_top (b := ab_I (1)) rfl ?_
  refine ev_iconst de_Mo_everyHouse_8 ?_
  refine ev_isub de_Mo_everyHouse_9 ?_
  refine ev_top (b := ab_I (0)) rfl ?_
  exact ev_ireturn de_Mo_everyHouse_10 rfl ⟨rfl, rfl⟩
theorem de_Mo_votesOf_0 : decode prog_14_method_58_code 0 = .ok (.iconst 0, 1) := by decide +kernel
theorem de_Mo_votesOf_1 : decode prog_14_method_58_code 1 = .ok (.istore_n 2, 1) := by decide +kernel
theorem de_Mo_votesOf_2 : decode prog_14_method_58_code 2 = .ok (.iconst 0, 1) := by decide +kernel
theorem de_Mo_votesOf_3 : decode prog_14_method_58_code 3 = .ok (.istore_n 3, 1) := by decide +kernel
theorem de_Mo_votesOf_4 : decode prog_14_method_58_code 4 = .ok (.iload_n 3, 1) := by decide +kernel
theorem de_Mo_votesOf_5 : decode prog_14_method_58_code 5 = .ok (.aload_n 0, 1) := by decide +kernel
theorem de_Mo_votesOf_6 : decode prog_14_method_58_code 6 = .ok (.getfield 39, 3) := by decide +kernel
theorem de_Mo_votesOf_9 : decode prog_14_method_58_code 9 = .ok (.iconst 1, 1) := by decide +kernel
theorem de_Mo_votesOf_10 : decode prog_14_method_58_code 10 = .ok (.iaload, 1) := by decide +kernel
theorem de_Mo_votesOf_11 : decode prog_14_method_58_code 11 = .ok (.if_icmp .ge 33, 3) := by decide +kernel
theorem de_Mo_votesOf_44 : decode prog_14_method_58_code 44 = .ok (.iload_n 2, 1) := by decide +kernel
theorem de_Mo_votesOf_45 : decode prog_14_method_58_code 45 = .ok (.ireturn, 1) := by decide +kernel
set_option maxHeartbeats 4000000 in
set_option maxRecDepth 20000 in
theorem fx_151  : ab_Mt g_G g_rs mt_Mo_votesOf 1 0 0 [ab_R (107), ab_I (0)] fw_0 (ab_is (some (ab_I (0))) fw_0) := by
  refine ab_Mt.of rfl (Nat.le_of_ble_eq_true rfl) ?_
  show ab_Ev g_G g_rs mt_Mo_votesOf _ _ _ 0 [some (ab_R (107)), some (ab_I (0)), none, none] [] _ _
  refine ev_iconst de_Mo_votesOf_0 ?_
  refine ev_istore_n (l' := [_, _, _, _]) de_Mo_votesOf_1 rfl (Nat.le_of_ble_eq_true rfl) rfl ?_
  refine ev_iconst de_Mo_votesOf_2 ?_
  refine ev_istore_n (l' := [_, _, _, _]) de_Mo_votesOf_3 rfl (Nat.le_of_ble_eq_true rfl) rfl ?_
  refine ev_iload_n de_Mo_votesOf_4 rfl rfl ?_
  refine ev_aload_n de_Mo_votesOf_5 rfl rfl ?_
  refine ev_getfield de_Mo_votesOf_6 rfl fl_Mo_39 rfl ?_
  refine ev_iconst de_Mo_votesOf_9 ?_
  refine ev_iaload de_Mo_votesOf_10 rfl (by decide) (by decide) (by decide) ?_
  refine ev_top (b := ab_I (0)) rfl ?_
  refine ev_icmp_ge (tgt := 44) de_Mo_votesOf_11 (by decide) (by decide) (by decide) (fun _ => ?_) (fun h => absurd h (by decide))
  refine ev_iload_n de_Mo_votesOf_44 rfl rfl ?_
  exact ev_ireturn de_Mo_votesOf_45 rfl ⟨rfl, rfl⟩
theorem de_Mo_count_135 : decode prog_14_method_114_code 135 = .ok (.aload_n 0, 1) := by decide +kernel
theorem de_Mo_count_136 : decode prog_14_method_114_code 136 = .ok (.aload_n 0, 1) := by decide +kernel
theorem de_Mo_count_137 : decode prog_14_method_114_code 137 = .ok (.invokevirtual 363, 3) := by decide +kernel
theorem de_Mo_count_140 : decode prog_14_method_114_code 140 = .ok (.invokevirtual 360, 3) := by decide +kernel
theorem de_Mo_count_143 : decode prog_14_method_114_code 143 = .ok (.ireturn, 1) := by decide +kernel
set_option maxHeartbeats 4000000 in
set_option maxRecDepth 20000 in
theorem yy_count_14  : ab_Mt g_G g_rs mt_Mo_count 2 0 0 [ab_R (107), ab_I (14)] fw_0 (ab_is (some (ab_I (0))) fw_0) := by
  refine ab_Mt.of rfl (Nat.le_of_ble_eq_true rfl) ?_
  show ab_Ev g_G g_rs mt_Mo_count _ _ _ 0 [some (ab_R (107)), some (ab_I (14))] [] _ _
  refine ev_iload_n de_Mo_count_0 rfl rfl ?_
  refine ev_tableIn (off := 134) (tgt := 135) de_Mo_count_1 (by decide) (by decide) (by decide) rfl (by decide) ?_
  refine ev_aload_n de_Mo_count_135 rfl rfl ?_
  refine ev_aload_n de_Mo_count_136 rfl rfl ?_
  refine ev_vv (ci := 11) de_Mo_count_137 fx_150 kb_Mo_363 ⟨im_Mo_everyHouse, se_Mo_everyHouse⟩ rfl rfl rfl (Nat.le_of_ble_eq_true rfl) (by decide) rfl ?_
  refine ev_vv (ci := 11) de_Mo_count_140 fx_151 kb_Mo_360 ⟨im_Mo_votesOf, se_Mo_votesOf⟩ rfl rfl rfl (Nat.le_of_ble_eq_true rfl) (by decide) rfl ?_
  exact ev_ireturn de_Mo_count_143 rfl ⟨rfl, rfl⟩
theorem de_Tu_count_218 : decode prog_1_method_10_code 218 = .ok (.ldc 208, 2) := by decide +kernel
theorem de_Tu_count_220 : decode prog_1_method_10_code 220 = .ok (.ireturn, 1) := by decide +kernel
set_option maxHeartbeats 4000000 in
set_option maxRecDepth 20000 in
theorem xx_count_15 (v0 : Int) (hv0 : ab_in v0) (hc0 : (v0 ≤ (-1)) ∨ (15 ≤ v0)) : ab_Mt g_G g_rs mt_Tu_count 1 0 0 [ab_R (0), ab_I (v0)] fw_0 (ab_is (some (ab_I ((-100000)))) fw_0) := by
  refine ab_Mt.of rfl (Nat.le_of_ble_eq_true rfl) ?_
  show ab_Ev g_G g_rs mt_Tu_count _ _ _ 0 [some (ab_R (0)), some (ab_I (v0))] [] _ _
  refine ev_iload_n de_Tu_count_0 rfl rfl ?_
  refine ev_tableOut (tgt := 218) de_Tu_count_1 (by omega) (by omega) (by decide) ?_
  refine ev_ldc (n := -100000) de_Tu_count_218 cn_Tu_208 rfl ?_
  exact ev_ireturn de_Tu_count_220 rfl ⟨rfl, rfl⟩
theorem de_Mo_count_144 : decode prog_14_method_114_code 144 = .ok (.ldc_w 399, 3) := by decide +kernel
theorem de_Mo_count_147 : decode prog_14_method_114_code 147 = .ok (.ireturn, 1) := by decide +kernel
set_option maxHeartbeats 4000000 in
set_option maxRecDepth 20000 in
theorem yy_count_15 (v0 : Int) (hv0 : ab_in v0) (hc0 : (v0 ≤ (-1)) ∨ (15 ≤ v0)) : ab_Mt g_G g_rs mt_Mo_count 1 0 0 [ab_R (107), ab_I (v0)] fw_0 (ab_is (some (ab_I ((-100000)))) fw_0) := by
  refine ab_Mt.of rfl (Nat.le_of_ble_eq_true rfl) ?_
  show ab_Ev g_G g_rs mt_Mo_count _ _ _ 0 [some (ab_R (107)), some (ab_I (v0))] [] _ _
  refine ev_iload_n de_Mo_count_0 rfl rfl ?_
  refine ev_tableOut (tgt := 144) de_Mo_count_1 (by omega) (by omega) (by decide) ?_
  refine ev_ldcw (n := -100000) de_Mo_count_144 cn_Mo_399 rfl ?_
  exact ev_ireturn de_Mo_count_147 rfl ⟨rfl, rfl⟩
theorem de_Di_copyFrom_0 : decode prog_3_method_2_code 0 = .ok (.aload_n 0, 1) := by decide +kernel
theorem de_Di_copyFrom_1 : decode prog_3_method_2_code 1 = .ok (.aload_n 1, 1) := by decide +kernel
theorem de_Di_copyFrom_2 : decode prog_3_method_2_code 2 = .ok (.getfield 24, 3) := by decide +kernel
theorem de_Di_copyFrom_5 : decode prog_3_method_2_code 5 = .ok (.putfield 24, 3) := by decide +kernel
theorem de_Di_copyFrom_8 : decode prog_3_method_2_code 8 = .ok (.aload_n 1, 1) := by decide +kernel
theorem de_Di_copyFrom_9 : decode prog_3_method_2_code 9 = .ok (.getfield 9, 3) := by decide +kernel
theorem de_Di_copyFrom_12 : decode prog_3_method_2_code 12 = .ok (.iconst 0, 1) := by decide +kernel
theorem de_Di_copyFrom_13 : decode prog_3_method_2_code 13 = .ok (.aload_n 0, 1) := by decide +kernel
theorem de_Di_copyFrom_14 : decode prog_3_method_2_code 14 = .ok (.getfield 9, 3) := by decide +kernel
theorem de_Di_copyFrom_17 : decode prog_3_method_2_code 17 = .ok (.iconst 0, 1) := by decide +kernel
theorem de_Di_copyFrom_18 : decode prog_3_method_2_code 18 = .ok (.bipush 10, 2) := by decide +kernel
theorem de_Di_copyFrom_20 : decode prog_3_method_2_code 20 = .ok (.invokestatic 28, 3) := by decide +kernel
theorem de_Di_copyFrom_23 : decode prog_3_method_2_code 23 = .ok (.aload_n 1, 1) := by decide +kernel
theorem de_Di_copyFrom_24 : decode prog_3_method_2_code 24 = .ok (.getfield 15, 3) := by decide +kernel
theorem de_Di_copyFrom_27 : decode prog_3_method_2_code 27 = .ok (.iconst 0, 1) := by decide +kernel
theorem de_Di_copyFrom_28 : decode prog_3_method_2_code 28 = .ok (.aload_n 0, 1) := by decide +kernel
theorem de_Di_copyFrom_29 : decode prog_3_method_2_code 29 = .ok (.getfield 15, 3) := by decide +kernel
theorem de_Di_copyFrom_32 : decode prog_3_method_2_code 32 = .ok (.iconst 0, 1) := by decide +kernel
theorem de_Di_copyFrom_33 : decode prog_3_method_2_code 33 = .ok (.bipush 10, 2) := by decide +kernel
theorem de_Di_copyFrom_35 : decode prog_3_method_2_code 35 = .ok (.invokestatic 28, 3) := by decide +kernel
theorem de_Di_copyFrom_38 : decode prog_3_method_2_code 38 = .ok (.aload_n 1, 1) := by decide +kernel
theorem de_Di_copyFrom_39 : decode prog_3_method_2_code 39 = .ok (.getfield 18, 3) := by decide +kernel
theorem de_Di_copyFrom_42 : decode prog_3_method_2_code 42 = .ok (.iconst 0, 1) := by decide +kernel
theorem de_Di_copyFrom_43 : decode prog_3_method_2_code 43 = .ok (.aload_n 0, 1) := by decide +kernel
theorem de_Di_copyFrom_44 : decode prog_3_method_2_code 44 = .ok (.getfield 18, 3) := by decide +kernel
theorem de_Di_copyFrom_47 : decode prog_3_method_2_code 47 = .ok (.iconst 0, 1) := by decide +kernel
theorem de_Di_copyFrom_48 : decode prog_3_method_2_code 48 = .ok (.bipush 10, 2) := by decide +kernel
theorem de_Di_copyFrom_50 : decode prog_3_method_2_code 50 = .ok (.invokestatic 28, 3) := by decide +kernel
theorem de_Di_copyFrom_53 : decode prog_3_method_2_code 53 = .ok (.aload_n 1, 1) := by decide +kernel
theorem de_Di_copyFrom_54 : decode prog_3_method_2_code 54 = .ok (.getfield 21, 3) := by decide +kernel
theorem de_Di_copyFrom_57 : decode prog_3_method_2_code 57 = .ok (.iconst 0, 1) := by decide +kernel
theorem de_Di_copyFrom_58 : decode prog_3_method_2_code 58 = .ok (.aload_n 0, 1) := by decide +kernel
theorem de_Di_copyFrom_59 : decode prog_3_method_2_code 59 = .ok (.getfield 21, 3) := by decide +kernel
theorem de_Di_copyFrom_62 : decode prog_3_method_2_code 62 = .ok (.iconst 0, 1) := by decide +kernel
theorem de_Di_copyFrom_63 : decode prog_3_method_2_code 63 = .ok (.bipush 10, 2) := by decide +kernel
theorem de_Di_copyFrom_65 : decode prog_3_method_2_code 65 = .ok (.invokestatic 28, 3) := by decide +kernel
theorem de_Di_copyFrom_68 : decode prog_3_method_2_code 68 = .ok (.return_, 1) := by decide +kernel
set_option maxHeartbeats 4000000 in
set_option maxRecDepth 20000 in
theorem fx_156  : ab_Mt g_G g_rs mt_Di_copyFrom 1 0 0 [ab_R (63), ab_R (11)] (((((((fw_0.set 56 (ab_ai 0 7 (ab_cp (fun _ => 0) (fun _ => 0) 0 0 7))).set 57 (ab_ai 0 7 (ab_cp (fun _ => 0) (fun _ => 0) 0 0 7))).set 58 (ab_ai 0 7 (ab_cp (fun _ => 0) (fun _ => 0) 0 0 7))).set 59 (ab_ai 0 35 (ab_cp (fun _ => 0) (fun _ => 0) 0 0 35))).set 60 (ab_al 24 (ab_cp (fun _ => 0) (fun _ => 0) 0 0 24))).set 61 (ab_ai 0 24 (ab_cp (fun _ => 0) (fun _ => 0) 0 0 24))).set 62 (ab_ai 0 12 (ab_cp (fun _ => 0) (fun _ => 0) 0 0 12))) (ab_is none (((((((((((fw_0.set 56 (ab_ai 0 7 (ab_cp (fun _ => 0) (fun _ => 0) 0 0 7))).set 57 (ab_ai 0 7 (ab_cp (fun _ => 0) (fun _ => 0) 0 0 7))).set 58 (ab_ai 0 7 (ab_cp (fun _ => 0) (fun _ => 0) 0 0 7))).set 59 (ab_ai 0 35 (ab_cp (fun _ => 0) (fun _ => 0) 0 0 35))).set 60 (ab_al 24 (ab_cp (fun _ => 0) (fun _ => 0) 0 0 24))).set 61 (ab_ai 0 24 (ab_cp (fun _ => 0) (fun _ => 0) 0 0 24))).set 62 (ab_ai 0 12 (ab_cp (fun _ => 0) (fun _ => 0) 0 0 12))).set 64 (ab_ai 0 10 (ab_cp (fun _ => 0) (fun _ => 0) 0 0 10))).set 65 (ab_ai 0 10 (ab_cp (fun _ => 0) (fun _ => 0) 0 0 10))).set 66 (ab_ai 0 10 (ab_cp (fun _ => 0) (fun _ => 0) 0 0 10))).set 67 (ab_ai 0 10 (ab_cp (fun _ => 0) (fun _ => 0) 0 0 10)))) := by
  refine ab_Mt.of rfl (Nat.le_of_ble_eq_true rfl) ?_
  show ab_Ev g_G g_rs mt_Di_copyFrom _ _ _ 0 [some (ab_R (63)), some (ab_R (11))] [] _ _
  refine ev_aload_n de_Di_copyFrom_0 rfl rfl ?_
  refine ev_aload_n de_Di_copyFrom_1 rfl rfl ?_
  refine ev_getfield de_Di_copyFrom_2 rfl fl_Di_24 rfl ?_
  refine ev_putfield de_Di_copyFrom_5 rfl (fp_Di_24 _) (Nat.le_of_ble_eq_true rfl) trivial ?_
  refine ev_world (w' := (((((((fw_0.set 56 (ab_ai 0 7 (ab_cp (fun _ => 0) (fun _ => 0) 0 0 7))).set 57 (ab_ai 0 7 (ab_cp (fun _ => 0) (fun _ => 0) 0 0 7))).set 58 (ab_ai 0 7 (ab_cp (fun _ => 0) (fun _ => 0) 0 0 7))).set 59 (ab_ai 0 35 (ab_cp (fun _ => 0) (fun _ => 0) 0 0 35))).set 60 (ab_al 24 (ab_cp (fun _ => 0) (fun _ => 0) 0 0 24))).set 61 (ab_ai 0 24 (ab_cp (fun _ => 0) (fun _ => 0) 0 0 24))).set 62 (ab_ai 0 12 (ab_cp (fun _ => 0) (fun _ => 0) 0 0 12)))) rfl ?_
  refine ev_aload_n de_Di_copyFrom_8 rfl rfl ?_
  refine ev_getfield de_Di_copyFrom_9 rfl fl_Di_9 rfl ?_
  refine ev_iconst de_Di_copyFrom_12 ?_
  refine ev_aload_n de_Di_copyFrom_13 rfl rfl ?_
  refine ev_getfield de_Di_copyFrom_14 rfl fl_Di_9 rfl ?_
  refine ev_iconst de_Di_copyFrom_17 ?_
  refine ev_bipush de_Di_copyFrom_18 rfl ?_
  refine ev_copyi (t := 0) de_Di_copyFrom_20 ck_Di_28 (by decide) rfl rfl (by decide) (by decide) (Or.inl rfl) (Nat.le_of_ble_eq_true rfl) (by decide) ?_
  refine ev_world (w' := ((((((((fw_0.set 56 (ab_ai 0 7 (ab_cp (fun _ => 0) (fun _ => 0) 0 0 7))).set 57 (ab_ai 0 7 (ab_cp (fun _ => 0) (fun _ => 0) 0 0 7))).set 58 (ab_ai 0 7 (ab_cp (fun _ => 0) (fun _ => 0) 0 0 7))).set 59 (ab_ai 0 35 (ab_cp (fun _ => 0) (fun _ => 0) 0 0 35))).set 60 (ab_al 24 (ab_cp (fun _ => 0) (fun _ => 0) 0 0 24))).set 61 (ab_ai 0 24 (ab_cp (fun _ => 0) (fun _ => 0) 0 0 24))).set 62 (ab_ai 0 12 (ab_cp (fun _ => 0) (fun _ => 0) 0 0 12))).set 64 (ab_ai 0 10 (ab_cp (fun _ => 0) (fun _ => 0) 0 0 10)))) rfl ?_
  refine ev_aload_n de_Di_copyFrom_23 rfl rfl ?_
  refine ev_getfield de_Di_copyFrom_24 rfl fl_Di_15 rfl ?_
  refine ev_iconst de_Di_copyFrom_27 ?_
  refine ev_aload_n de_Di_copyFrom_28 rfl rfl ?_
  refine ev_getfield de_Di_copyFrom_29 rfl fl_Di_15 rfl ?_
  refine ev_iconst de_Di_copyFrom_32 ?_
  refine ev_bipush de_Di_copyFrom_33 rfl ?_
  refine ev_copyi (t := 0) de_Di_copyFrom_35 ck_Di_28 (by decide) rfl rfl (by decide) (by decide) (Or.inl rfl) (Nat.le_of_ble_eq_true rfl) (by decide) ?_
  refine ev_world (w' := (((((((((fw_0.set 56 (ab_ai 0 7 (ab_cp (fun _ => 0) (fun _ => 0) 0 0 7))).set 57 (ab_ai 0 7 (ab_cp (fun _ => 0) (fun _ => 0) 0 0 7))).set 58 (ab_ai 0 7 (ab_cp (fun _ => 0) (fun _ => 0) 0 0 7))).set 59 (ab_ai 0 35 (ab_cp (fun _ => 0) (fun _ => 0) 0 0 35))).set 60 (ab_al 24 (ab_cp (fun _ => 0) (fun _ => 0) 0 0 24))).set 61 (ab_ai 0 24 (ab_cp (fun _ => 0) (fun _ => 0) 0 0 24))).set 62 (ab_ai 0 12 (ab_cp (fun _ => 0) (fun _ => 0) 0 0 12))).set 64 (ab_ai 0 10 (ab_cp (fun _ => 0) (fun _ => 0) 0 0 10))).set 65 (ab_ai 0 10 (ab_cp (fun _ => 0) (fun _ => 0) 0 0 10)))) rfl ?_
  refine ev_aload_n de_Di_copyFrom_38 rfl rfl ?_
  refine ev_getfield de_Di_copyFrom_39 rfl fl_Di_18 rfl ?_
  refine ev_iconst de_Di_copyFrom_42 ?_
  refine ev_aload_n de_Di_copyFrom_43 rfl rfl ?_
  refine ev_getfield de_Di_copyFrom_44 rfl fl_Di_18 rfl ?_
  refine ev_iconst de_Di_copyFrom_47 ?_
  refine ev_bipush de_Di_copyFrom_48 rfl ?_
  refine ev_copyi (t := 0) de_Di_copyFrom_50 ck_Di_28 (by decide) rfl rfl (by decide) (by decide) (Or.inl rfl) (Nat.le_of_ble_eq_true rfl) (by decide) ?_
  refine ev_world (w' := ((((((((((fw_0.set 56 (ab_ai 0 7 (ab_cp (fun _ => 0) (fun _ => 0) 0 0 7))).set 57 (ab_ai 0 7 (ab_cp (fun _ => 0) (fun _ => 0) 0 0 7))).set 58 (ab_ai 0 7 (ab_cp (fun _ => 0) (fun _ => 0) 0 0 7))).set 59 (ab_ai 0 35 (ab_cp (fun _ => 0) (fun _ => 0) 0 0 35))).set 60 (ab_al 24 (ab_cp (fun _ => 0) (fun _ => 0) 0 0 24))).set 61 (ab_ai 0 24 (ab_cp (fun _ => 0) (fun _ => 0) 0 0 24))).set 62 (ab_ai 0 12 (ab_cp (fun _ => 0) (fun _ => 0) 0 0 12))).set 64 (ab_ai 0 10 (ab_cp (fun _ => 0) (fun _ => 0) 0 0 10))).set 65 (ab_ai 0 10 (ab_cp (fun _ => 0) (fun _ => 0) 0 0 10))).set 66 (ab_ai 0 10 (ab_cp (fun _ => 0) (fun _ => 0) 0 0 10)))) rfl ?_
  refine ev_aload_n de_Di_copyFrom_53 rfl rfl ?_
  refine ev_getfield de_Di_copyFrom_54 rfl fl_Di_21 rfl ?_
  refine ev_iconst de_Di_copyFrom_57 ?_
  refine ev_aload_n de_Di_copyFrom_58 rfl rfl ?_
  refine ev_getfield de_Di_copyFrom_59 rfl fl_Di_21 rfl ?_
  refine ev_iconst de_Di_copyFrom_62 ?_
  refine ev_bipush de_Di_copyFrom_63 rfl ?_
  refine ev_copyi (t := 0) de_Di_copyFrom_65 ck_Di_28 (by decide) rfl rfl (by decide) (by decide) (Or.inl rfl) (Nat.le_of_ble_eq_true rfl) (by decide) ?_
  refine ev_world (w' := (((((((((((fw_0.set 56 (ab_ai 0 7 (ab_cp (fun _ => 0) (fun _ => 0) 0 0 7))).set 57 (ab_ai 0 7 (ab_cp (fun _ => 0) (fun _ => 0) 0 0 7))).set 58 (ab_ai 0 7 (ab_cp (fun _ => 0) (fun _ => 0) 0 0 7))).set 59 (ab_ai 0 35 (ab_cp (fun _ => 0) (fun _ => 0) 0 0 35))).set 60 (ab_al 24 (ab_cp (fun _ => 0) (fun _ => 0) 0 0 24))).set 61 (ab_ai 0 24 (ab_cp (fun _ => 0) (fun _ => 0) 0 0 24))).set 62 (ab_ai 0 12 (ab_cp (fun _ => 0) (fun _ => 0) 0 0 12))).set 64 (ab_ai 0 10 (ab_cp (fun _ => 0) (fun _ => 0) 0 0 10))).set 65 (ab_ai 0 10 (ab_cp (fun _ => 0) (fun _ => 0) 0 0 10))).set 66 (ab_ai 0 10 (ab_cp (fun _ => 0) (fun _ => 0) 0 0 10))).set 67 (ab_ai 0 10 (ab_cp (fun _ => 0) (fun _ => 0) 0 0 10)))) rfl ?_
  exact ev_return de_Di_copyFrom_68 rfl ⟨rfl, rfl⟩
theorem de_Ri_copyFrom_0 : decode prog_7_method_3_code 0 = .ok (.aload_n 0, 1) := by decide +kernel
theorem de_Ri_copyFrom_1 : decode prog_7_method_3_code 1 = .ok (.aload_n 1, 1) := by decide +kernel
theorem de_Ri_copyFrom_2 : decode prog_7_method_3_code 2 = .ok (.getfield 41, 3) := by decide +kernel
theorem de_Ri_copyFrom_5 : decode prog_7_method_3_code 5 = .ok (.putfield 41, 3) := by decide +kernel
theorem de_Ri_copyFrom_8 : decode prog_7_method_3_code 8 = .ok (.aload_n 0, 1) := by decide +kernel
theorem de_Ri_copyFrom_9 : decode prog_7_method_3_code 9 = .ok (.aload_n 1, 1) := by decide +kernel
theorem de_Ri_copyFrom_10 : decode prog_7_method_3_code 10 = .ok (.getfield 45, 3) := by decide +kernel
theorem de_Ri_copyFrom_13 : decode prog_7_method_3_code 13 = .ok (.putfield 45, 3) := by decide +kernel
theorem de_Ri_copyFrom_16 : decode prog_7_method_3_code 16 = .ok (.aload_n 0, 1) := by decide +kernel
theorem de_Ri_copyFrom_17 : decode prog_7_method_3_code 17 = .ok (.aload_n 1, 1) := by decide +kernel
theorem de_Ri_copyFrom_18 : decode prog_7_method_3_code 18 = .ok (.getfield 49, 3) := by decide +kernel
theorem de_Ri_copyFrom_21 : decode prog_7_method_3_code 21 = .ok (.putfield 49, 3) := by decide +kernel
theorem de_Ri_copyFrom_24 : decode prog_7_method_3_code 24 = .ok (.aload_n 0, 1) := by decide +kernel
theorem de_Ri_copyFrom_25 : decode prog_7_method_3_code 25 = .ok (.aload_n 1, 1) := by decide +kernel
theorem de_Ri_copyFrom_26 : decode prog_7_method_3_code 26 = .ok (.getfield 52, 3) := by decide +kernel
theorem de_Ri_copyFrom_29 : decode prog_7_method_3_code 29 = .ok (.putfield 52, 3) := by decide +kernel
theorem de_Ri_copyFrom_32 : decode prog_7_method_3_code 32 = .ok (.aload_n 0, 1) := by decide +kernel
theorem de_Ri_copyFrom_33 : decode prog_7_method_3_code 33 = .ok (.aload_n 1, 1) := by decide +kernel
theorem de_Ri_copyFrom_34 : decode prog_7_method_3_code 34 = .ok (.getfield 55, 3) := by decide +kernel
theorem de_Ri_copyFrom_37 : decode prog_7_method_3_code 37 = .ok (.putfield 55, 3) := by decide +kernel
theorem de_Ri_copyFrom_40 : decode prog_7_method_3_code 40 = .ok (.aload_n 0, 1) := by decide +kernel
theorem de_Ri_copyFrom_41 : decode prog_7_method_3_code 41 = .ok (.aload_n 1, 1) := by decide +kernel
theorem de_Ri_copyFrom_42 : decode prog_7_method_3_code 42 = .ok (.getfield 58, 3) := by decide +kernel
theorem de_Ri_copyFrom_45 : decode prog_7_method_3_code 45 = .ok (.putfield 58, 3) := by decide +kernel
theorem de_Ri_copyFrom_48 : decode prog_7_method_3_code 48 = .ok (.aload_n 0, 1) := by decide +kernel
theorem de_Ri_copyFrom_49 : decode prog_7_method_3_code 49 = .ok (.aload_n 1, 1) := by decide +kernel
theorem de_Ri_copyFrom_50 : decode prog_7_method_3_code 50 = .ok (.getfield 61, 3) := by decide +kernel
theorem de_Ri_copyFrom_53 : decode prog_7_method_3_code 53 = .ok (.putfield 61, 3) := by decide +kernel
theorem de_Ri_copyFrom_56 : decode prog_7_method_3_code 56 = .ok (.aload_n 0, 1) := by decide +kernel
theorem de_Ri_copyFrom_57 : decode prog_7_method_3_code 57 = .ok (.aload_n 1, 1) := by decide +kernel
theorem de_Ri_copyFrom_58 : decode prog_7_method_3_code 58 = .ok (.getfield 64, 3) := by decide +kernel
theorem de_Ri_copyFrom_61 : decode prog_7_method_3_code 61 = .ok (.putfield 64, 3) := by decide +kernel
theorem de_Ri_copyFrom_64 : decode prog_7_method_3_code 64 = .ok (.aload_n 0, 1) := by decide +kernel
theorem de_Ri_copyFrom_65 : decode prog_7_method_3_code 65 = .ok (.aload_n 1, 1) := by decide +kernel
theorem de_Ri_copyFrom_66 : decode prog_7_method_3_code 66 = .ok (.getfield 67, 3) := by decide +kernel
theorem de_Ri_copyFrom_69 : decode prog_7_method_3_code 69 = .ok (.putfield 67, 3) := by decide +kernel
theorem de_Ri_copyFrom_72 : decode prog_7_method_3_code 72 = .ok (.aload_n 0, 1) := by decide +kernel
theorem de_Ri_copyFrom_73 : decode prog_7_method_3_code 73 = .ok (.aload_n 1, 1) := by decide +kernel
theorem de_Ri_copyFrom_74 : decode prog_7_method_3_code 74 = .ok (.getfield 70, 3) := by decide +kernel
theorem de_Ri_copyFrom_77 : decode prog_7_method_3_code 77 = .ok (.putfield 70, 3) := by decide +kernel
theorem de_Ri_copyFrom_80 : decode prog_7_method_3_code 80 = .ok (.aload_n 1, 1) := by decide +kernel
theorem de_Ri_copyFrom_81 : decode prog_7_method_3_code 81 = .ok (.getfield 9, 3) := by decide +kernel
theorem de_Ri_copyFrom_84 : decode prog_7_method_3_code 84 = .ok (.iconst 0, 1) := by decide +kernel
theorem de_Ri_copyFrom_85 : decode prog_7_method_3_code 85 = .ok (.aload_n 0, 1) := by decide +kernel
theorem de_Ri_copyFrom_86 : decode prog_7_method_3_code 86 = .ok (.getfield 9, 3) := by decide +kernel
theorem de_Ri_copyFrom_89 : decode prog_7_method_3_code 89 = .ok (.iconst 0, 1) := by decide +kernel
theorem de_Ri_copyFrom_90 : decode prog_7_method_3_code 90 = .ok (.bipush 7, 2) := by decide +kernel
theorem de_Ri_copyFrom_92 : decode prog_7_method_3_code 92 = .ok (.invokestatic 85, 3) := by decide +kernel
theorem de_Ri_copyFrom_95 : decode prog_7_method_3_code 95 = .ok (.aload_n 1, 1) := by decide +kernel
theorem de_Ri_copyFrom_96 : decode prog_7_method_3_code 96 = .ok (.getfield 15, 3) := by decide +kernel
theorem de_Ri_copyFrom_99 : decode prog_7_method_3_code 99 = .ok (.iconst 0, 1) := by decide +kernel
theorem de_Ri_copyFrom_100 : decode prog_7_method_3_code 100 = .ok (.aload_n 0, 1) := by decide +kernel
theorem de_Ri_copyFrom_101 : decode prog_7_method_3_code 101 = .ok (.getfield 15, 3) := by decide +kernel
theorem de_Ri_copyFrom_104 : decode prog_7_method_3_code 104 = .ok (.iconst 0, 1) := by decide +kernel
theorem de_Ri_copyFrom_105 : decode prog_7_method_3_code 105 = .ok (.bipush 7, 2) := by decide +kernel
theorem de_Ri_copyFrom_107 : decode prog_7_method_3_code 107 = .ok (.invokestatic 85, 3) := by decide +kernel
theorem de_Ri_copyFrom_110 : decode prog_7_method_3_code 110 = .ok (.aload_n 1, 1) := by decide +kernel
theorem de_Ri_copyFrom_111 : decode prog_7_method_3_code 111 = .ok (.getfield 18, 3) := by decide +kernel
theorem de_Ri_copyFrom_114 : decode prog_7_method_3_code 114 = .ok (.iconst 0, 1) := by decide +kernel
theorem de_Ri_copyFrom_115 : decode prog_7_method_3_code 115 = .ok (.aload_n 0, 1) := by decide +kernel
theorem de_Ri_copyFrom_116 : decode prog_7_method_3_code 116 = .ok (.getfield 18, 3) := by decide +kernel
theorem de_Ri_copyFrom_119 : decode prog_7_method_3_code 119 = .ok (.iconst 0, 1) := by decide +kernel
theorem de_Ri_copyFrom_120 : decode prog_7_method_3_code 120 = .ok (.bipush 7, 2) := by decide +kernel
theorem de_Ri_copyFrom_122 : decode prog_7_method_3_code 122 = .ok (.invokestatic 85, 3) := by decide +kernel
theorem de_Ri_copyFrom_125 : decode prog_7_method_3_code 125 = .ok (.aload_n 1, 1) := by decide +kernel
theorem de_Ri_copyFrom_126 : decode prog_7_method_3_code 126 = .ok (.getfield 21, 3) := by decide +kernel
theorem de_Ri_copyFrom_129 : decode prog_7_method_3_code 129 = .ok (.iconst 0, 1) := by decide +kernel
theorem de_Ri_copyFrom_130 : decode prog_7_method_3_code 130 = .ok (.aload_n 0, 1) := by decide +kernel
theorem de_Ri_copyFrom_131 : decode prog_7_method_3_code 131 = .ok (.getfield 21, 3) := by decide +kernel
theorem de_Ri_copyFrom_134 : decode prog_7_method_3_code 134 = .ok (.iconst 0, 1) := by decide +kernel
theorem de_Ri_copyFrom_135 : decode prog_7_method_3_code 135 = .ok (.bipush 35, 2) := by decide +kernel
theorem de_Ri_copyFrom_137 : decode prog_7_method_3_code 137 = .ok (.invokestatic 85, 3) := by decide +kernel
theorem de_Ri_copyFrom_140 : decode prog_7_method_3_code 140 = .ok (.aload_n 1, 1) := by decide +kernel
theorem de_Ri_copyFrom_141 : decode prog_7_method_3_code 141 = .ok (.getfield 24, 3) := by decide +kernel
theorem de_Ri_copyFrom_144 : decode prog_7_method_3_code 144 = .ok (.iconst 0, 1) := by decide +kernel
theorem de_Ri_copyFrom_145 : decode prog_7_method_3_code 145 = .ok (.aload_n 0, 1) := by decide +kernel
theorem de_Ri_copyFrom_146 : decode prog_7_method_3_code 146 = .ok (.getfield 24, 3) := by decide +kernel
theorem de_Ri_copyFrom_149 : decode prog_7_method_3_code 149 = .ok (.iconst 0, 1) := by decide +kernel
theorem de_Ri_copyFrom_150 : decode prog_7_method_3_code 150 = .ok (.bipush 24, 2) := by decide +kernel
theorem de_Ri_copyFrom_152 : decode prog_7_method_3_code 152 = .ok (.invokestatic 85, 3) := by decide +kernel
theorem de_Ri_copyFrom_155 : decode prog_7_method_3_code 155 = .ok (.aload_n 1, 1) := by decide +kernel
theorem de_Ri_copyFrom_156 : decode prog_7_method_3_code 156 = .ok (.getfield 28, 3) := by decide +kernel
theorem de_Ri_copyFrom_159 : decode prog_7_method_3_code 159 = .ok (.iconst 0, 1) := by decide +kernel
theorem de_Ri_copyFrom_160 : decode prog_7_method_3_code 160 = .ok (.aload_n 0, 1) := by decide +kernel
theorem de_Ri_copyFrom_161 : decode prog_7_method_3_code 161 = .ok (.getfield 28, 3) := by decide +kernel
theorem de_Ri_copyFrom_164 : decode prog_7_method_3_code 164 = .ok (.iconst 0, 1) := by decide +kernel
theorem de_Ri_copyFrom_165 : decode prog_7_method_3_code 165 = .ok (.bipush 24, 2) := by decide +kernel
theorem de_Ri_copyFrom_167 : decode prog_7_method_3_code 167 = .ok (.invokestatic 85, 3) := by decide +kernel
theorem de_Ri_copyFrom_170 : decode prog_7_method_3_code 170 = .ok (.aload_n 1, 1) := by decide +kernel
theorem de_Ri_copyFrom_171 : decode prog_7_method_3_code 171 = .ok (.getfield 31, 3) := by decide +kernel
theorem de_Ri_copyFrom_174 : decode prog_7_method_3_code 174 = .ok (.iconst 0, 1) := by decide +kernel
theorem de_Ri_copyFrom_175 : decode prog_7_method_3_code 175 = .ok (.aload_n 0, 1) := by decide +kernel
theorem de_Ri_copyFrom_176 : decode prog_7_method_3_code 176 = .ok (.getfield 31, 3) := by decide +kernel
theorem de_Ri_copyFrom_179 : decode prog_7_method_3_code 179 = .ok (.iconst 0, 1) := by decide +kernel
theorem de_Ri_copyFrom_180 : decode prog_7_method_3_code 180 = .ok (.bipush 12, 2) := by decide +kernel
theorem de_Ri_copyFrom_182 : decode prog_7_method_3_code 182 = .ok (.invokestatic 85, 3) := by decide +kernel
theorem de_Ri_copyFrom_185 : decode prog_7_method_3_code 185 = .ok (.aload_n 0, 1) := by decide +kernel
theorem de_Ri_copyFrom_186 : decode prog_7_method_3_code 186 = .ok (.getfield 37, 3) := by decide +kernel
theorem de_Ri_copyFrom_189 : decode prog_7_method_3_code 189 = .ok (.aload_n 1, 1) := by decide +kernel
theorem de_Ri_copyFrom_190 : decode prog_7_method_3_code 190 = .ok (.getfield 37, 3) := by decide +kernel
theorem de_Ri_copyFrom_193 : decode prog_7_method_3_code 193 = .ok (.invokevirtual 91, 3) := by decide +kernel
theorem de_Ri_copyFrom_196 : decode prog_7_method_3_code 196 = .ok (.return_, 1) := by decide +kernel
set_option maxHeartbeats 4000000 in
set_option maxRecDepth 20000 in
theorem fx_155  : ab_Mt g_G g_rs mt_Ri_copyFrom 2 0 0 [ab_R (55), ab_R (3)] fw_0 (ab_is none (((((((((((fw_0.set 56 (ab_ai 0 7 (ab_cp (fun _ => 0) (fun _ => 0) 0 0 7))).set 57 (ab_ai 0 7 (ab_cp (fun _ => 0) (fun _ => 0) 0 0 7))).set 58 (ab_ai 0 7 (ab_cp (fun _ => 0) (fun _ => 0) 0 0 7))).set 59 (ab_ai 0 35 (ab_cp (fun _ => 0) (fun _ => 0) 0 0 35))).set 60 (ab_al 24 (ab_cp (fun _ => 0) (fun _ => 0) 0 0 24))).set 61 (ab_ai 0 24 (ab_cp (fun _ => 0) (fun _ => 0) 0 0 24))).set 62 (ab_ai 0 12 (ab_cp (fun _ => 0) (fun _ => 0) 0 0 12))).set 64 (ab_ai 0 10 (ab_cp (fun _ => 0) (fun _ => 0) 0 0 10))).set 65 (ab_ai 0 10 (ab_cp (fun _ => 0) (fun _ => 0) 0 0 10))).set 66 (ab_ai 0 10 (ab_cp (fun _ => 0) (fun _ => 0) 0 0 10))).set 67 (ab_ai 0 10 (ab_cp (fun _ => 0) (fun _ => 0) 0 0 10)))) := by
  refine ab_Mt.of rfl (Nat.le_of_ble_eq_true rfl) ?_
  show ab_Ev g_G g_rs mt_Ri_copyFrom _ _ _ 0 [some (ab_R (55)), some (ab_R (3))] [] _ _
  refine ev_aload_n de_Ri_copyFrom_0 rfl rfl ?_
  refine ev_aload_n de_Ri_copyFrom_1 rfl rfl ?_
  refine ev_getfield de_Ri_copyFrom_2 rfl fl_Ri_41 rfl ?_
  refine ev_putfield de_Ri_copyFrom_5 rfl (fp_Ri_41 _) (Nat.le_of_ble_eq_true rfl) (Or.inl rfl) ?_
  refine ev_world (w' := fw_0) rfl ?_
  refine ev_aload_n de_Ri_copyFrom_8 rfl rfl ?_
  refine ev_aload_n de_Ri_copyFrom_9 rfl rfl ?_
  refine ev_getfield de_Ri_copyFrom_10 rfl fl_Ri_45 rfl ?_
  refine ev_putfield de_Ri_copyFrom_13 rfl (fp_Ri_45 _) (Nat.le_of_ble_eq_true rfl) trivial ?_
  refine ev_world (w' := fw_0) rfl ?_
  refine ev_aload_n de_Ri_copyFrom_16 rfl rfl ?_
  refine ev_aload_n de_Ri_copyFrom_17 rfl rfl ?_
  refine ev_getfield de_Ri_copyFrom_18 rfl fl_Ri_49 rfl ?_
  refine ev_putfield de_Ri_copyFrom_21 rfl (fp_Ri_49 _) (Nat.le_of_ble_eq_true rfl) trivial ?_
  refine ev_world (w' := fw_0) rfl ?_
  refine ev_aload_n de_Ri_copyFrom_24 rfl rfl ?_
  refine ev_aload_n de_Ri_copyFrom_25 rfl rfl ?_
  refine ev_getfield de_Ri_copyFrom_26 rfl fl_Ri_52 rfl ?_
  refine ev_putfield de_Ri_copyFrom_29 rfl (fp_Ri_52 _) (Nat.le_of_ble_eq_true rfl) trivial ?_
  refine ev_world (w' := fw_0) rfl ?_
  refine ev_aload_n de_Ri_copyFrom_32 rfl rfl ?_
  refine ev_aload_n de_Ri_copyFrom_33 rfl rfl ?_
  refine ev_getfield de_Ri_copyFrom_34 rfl fl_Ri_55 rfl ?_
  refine ev_putfield de_Ri_copyFrom_37 rfl (fp_Ri_55 _) (Nat.le_of_ble_eq_true rfl) (Or.inl rfl) ?_
  refine ev_world (w' := fw_0) rfl ?_
  refine ev_aload_n de_Ri_copyFrom_40 rfl rfl ?_
  refine ev_aload_n de_Ri_copyFrom_41 rfl rfl ?_
  refine ev_getfield de_Ri_copyFrom_42 rfl fl_Ri_58 rfl ?_
  refine ev_putfield de_Ri_copyFrom_45 rfl (fp_Ri_58 _) (Nat.le_of_ble_eq_true rfl) trivial ?_
  refine ev_world (w' := fw_0) rfl ?_
  refine ev_aload_n de_Ri_copyFrom_48 rfl rfl ?_
  refine ev_aload_n de_Ri_copyFrom_49 rfl rfl ?_
  refine ev_getfield de_Ri_copyFrom_50 rfl fl_Ri_61 rfl ?_
  refine ev_putfield de_Ri_copyFrom_53 rfl (fp_Ri_61 _) (Nat.le_of_ble_eq_true rfl) trivial ?_
  refine ev_world (w' := fw_0) rfl ?_
  refine ev_aload_n de_Ri_copyFrom_56 rfl rfl ?_
  refine ev_aload_n de_Ri_copyFrom_57 rfl rfl ?_
  refine ev_getfield de_Ri_copyFrom_58 rfl fl_Ri_64 rfl ?_
  refine ev_putfield de_Ri_copyFrom_61 rfl (fp_Ri_64 _) (Nat.le_of_ble_eq_true rfl) trivial ?_
  refine ev_world (w' := fw_0) rfl ?_
  refine ev_aload_n de_Ri_copyFrom_64 rfl rfl ?_
  refine ev_aload_n de_Ri_copyFrom_65 rfl rfl ?_
  refine ev_getfield de_Ri_copyFrom_66 rfl fl_Ri_67 rfl ?_
  refine ev_putfield de_Ri_copyFrom_69 rfl (fp_Ri_67 _) (Nat.le_of_ble_eq_true rfl) trivial ?_
  refine ev_world (w' := fw_0) rfl ?_
  refine ev_aload_n de_Ri_copyFrom_72 rfl rfl ?_
  refine ev_aload_n de_Ri_copyFrom_73 rfl rfl ?_
  refine ev_getfield de_Ri_copyFrom_74 rfl fl_Ri_70 rfl ?_
  refine ev_putfield de_Ri_copyFrom_77 rfl (fp_Ri_70 _) (Nat.le_of_ble_eq_true rfl) trivial ?_
  refine ev_world (w' := fw_0) rfl ?_
  refine ev_aload_n de_Ri_copyFrom_80 rfl rfl ?_
  refine ev_getfield de_Ri_copyFrom_81 rfl fl_Ri_9 rfl ?_
  refine ev_iconst de_Ri_copyFrom_84 ?_
  refine ev_aload_n de_Ri_copyFrom_85 rfl rfl ?_
  refine ev_getfield de_Ri_copyFrom_86 rfl fl_Ri_9 rfl ?_
  refine ev_iconst de_Ri_copyFrom_89 ?_
  refine ev_bipush de_Ri_copyFrom_90 rfl ?_
  refine ev_copyi (t := 0) de_Ri_copyFrom_92 ck_Ri_85 (by decide) rfl rfl (by decide) (by decide) (Or.inl rfl) (Nat.le_of_ble_eq_true rfl) (by decide) ?_
  refine ev_world (w' := (fw_0.set 56 (ab_ai 0 7 (ab_cp (fun _ => 0) (fun _ => 0) 0 0 7)))) rfl ?_
  refine ev_aload_n de_Ri_copyFrom_95 rfl rfl ?_
  refine ev_getfield de_Ri_copyFrom_96 rfl fl_Ri_15 rfl ?_
  refine ev_iconst de_Ri_copyFrom_99 ?_
  refine ev_aload_n de_Ri_copyFrom_100 rfl rfl ?_
  refine ev_getfield de_Ri_copyFrom_101 rfl fl_Ri_15 rfl ?_
  refine ev_iconst de_Ri_copyFrom_104 ?_
  refine ev_bipush de_Ri_copyFrom_105 rfl ?_
  refine ev_copyi (t := 0) de_Ri_copyFrom_107 ck_Ri_85 (by decide) rfl rfl (by decide) (by decide) (Or.inl rfl) (Nat.le_of_ble_eq_true rfl) (by decide) ?_
  refine ev_world (w' := ((fw_0.set 56 (ab_ai 0 7 (ab_cp (fun _ => 0) (fun _ => 0) 0 0 7))).set 57 (ab_ai 0 7 (ab_cp (fun _ => 0) (fun _ => 0) 0 0 7)))) rfl ?_
  refine ev_aload_n de_Ri_copyFrom_110 rfl rfl ?_
  refine ev_getfield de_Ri_copyFrom_111 rfl fl_Ri_18 rfl ?_
  refine ev_iconst de_Ri_copyFrom_114 ?_
  refine ev_aload_n de_Ri_copyFrom_115 rfl rfl ?_
  refine ev_getfield de_Ri_copyFrom_116 rfl fl_Ri_18 rfl ?_
  refine ev_iconst de_Ri_copyFrom_119 ?_
  refine ev_bipush de_Ri_copyFrom_120 rfl ?_
  refine ev_copyi (t := 0) de_Ri_copyFrom_122 ck_Ri_85 (by decide) rfl rfl (by decide) (by decide) (Or.inl rfl) (Nat.le_of_ble_eq_true rfl) (by decide) ?_
  refine ev_world (w' := (((fw_0.set 56 (ab_ai 0 7 (ab_cp (fun _ => 0) (fun _ => 0) 0 0 7))).set 57 (ab_ai 0 7 (ab_cp (fun _ => 0) (fun _ => 0) 0 0 7))).set 58 (ab_ai 0 7 (ab_cp (fun _ => 0) (fun _ => 0) 0 0 7)))) rfl ?_
  refine ev_aload_n de_Ri_copyFrom_125 rfl rfl ?_
  refine ev_getfield de_Ri_copyFrom_126 rfl fl_Ri_21 rfl ?_
  refine ev_iconst de_Ri_copyFrom_129 ?_
  refine ev_aload_n de_Ri_copyFrom_130 rfl rfl ?_
  refine ev_getfield de_Ri_copyFrom_131 rfl fl_Ri_21 rfl ?_
  refine ev_iconst de_Ri_copyFrom_134 ?_
  refine ev_bipush de_Ri_copyFrom_135 rfl ?_
  refine ev_copyi (t := 0) de_Ri_copyFrom_137 ck_Ri_85 (by decide) rfl rfl (by decide) (by decide) (Or.inl rfl) (Nat.le_of_ble_eq_true rfl) (by decide) ?_
  refine ev_world (w' := ((((fw_0.set 56 (ab_ai 0 7 (ab_cp (fun _ => 0) (fun _ => 0) 0 0 7))).set 57 (ab_ai 0 7 (ab_cp (fun _ => 0) (fun _ => 0) 0 0 7))).set 58 (ab_ai 0 7 (ab_cp (fun _ => 0) (fun _ => 0) 0 0 7))).set 59 (ab_ai 0 35 (ab_cp (fun _ => 0) (fun _ => 0) 0 0 35)))) rfl ?_
  refine ev_aload_n de_Ri_copyFrom_140 rfl rfl ?_
  refine ev_getfield de_Ri_copyFrom_141 rfl fl_Ri_24 rfl ?_
  refine ev_iconst de_Ri_copyFrom_144 ?_
  refine ev_aload_n de_Ri_copyFrom_145 rfl rfl ?_
  refine ev_getfield de_Ri_copyFrom_146 rfl fl_Ri_24 rfl ?_
  refine ev_iconst de_Ri_copyFrom_149 ?_
  refine ev_bipush de_Ri_copyFrom_150 rfl ?_
  refine ev_copyl de_Ri_copyFrom_152 ck_Ri_85 rfl rfl (by decide) (by decide) (Nat.le_of_ble_eq_true rfl) (by decide) ?_
  refine ev_world (w' := (((((fw_0.set 56 (ab_ai 0 7 (ab_cp (fun _ => 0) (fun _ => 0) 0 0 7))).set 57 (ab_ai 0 7 (ab_cp (fun _ => 0) (fun _ => 0) 0 0 7))).set 58 (ab_ai 0 7 (ab_cp (fun _ => 0) (fun _ => 0) 0 0 7))).set 59 (ab_ai 0 35 (ab_cp (fun _ => 0) (fun _ => 0) 0 0 35))).set 60 (ab_al 24 (ab_cp (fun _ => 0) (fun _ => 0) 0 0 24)))) rfl ?_
  refine ev_aload_n de_Ri_copyFrom_155 rfl rfl ?_
  refine ev_getfield de_Ri_copyFrom_156 rfl fl_Ri_28 rfl ?_
  refine ev_iconst de_Ri_copyFrom_159 ?_
  refine ev_aload_n de_Ri_copyFrom_160 rfl rfl ?_
  refine ev_getfield de_Ri_copyFrom_161 rfl fl_Ri_28 rfl ?_
  refine ev_iconst de_Ri_copyFrom_164 ?_
  refine ev_bipush de_Ri_copyFrom_165 rfl ?_
  refine ev_copyi (t := 0) de_Ri_copyFrom_167 ck_Ri_85 (by decide) rfl rfl (by decide) (by decide) (Or.inl rfl) (Nat.le_of_ble_eq_true rfl) (by decide) ?_
  refine ev_world (w' := ((((((fw_0.set 56 (ab_ai 0 7 (ab_cp (fun _ => 0) (fun _ => 0) 0 0 7))).set 57 (ab_ai 0 7 (ab_cp (fun _ => 0) (fun _ => 0) 0 0 7))).set 58 (ab_ai 0 7 (ab_cp (fun _ => 0) (fun _ => 0) 0 0 7))).set 59 (ab_ai 0 35 (ab_cp (fun _ => 0) (fun _ => 0) 0 0 35))).set 60 (ab_al 24 (ab_cp (fun _ => 0) (fun _ => 0) 0 0 24))).set 61 (ab_ai 0 24 (ab_cp (fun _ => 0) (fun _ => 0) 0 0 24)))) rfl ?_
  refine ev_aload_n de_Ri_copyFrom_170 rfl rfl ?_
  refine ev_getfield de_Ri_copyFrom_171 rfl fl_Ri_31 rfl ?_
  refine ev_iconst de_Ri_copyFrom_174 ?_
  refine ev_aload_n de_Ri_copyFrom_175 rfl rfl ?_
  refine ev_getfield de_Ri_copyFrom_176 rfl fl_Ri_31 rfl ?_
  refine ev_iconst de_Ri_copyFrom_179 ?_
  refine ev_bipush de_Ri_copyFrom_180 rfl ?_
  refine ev_copyi (t := 0) de_Ri_copyFrom_182 ck_Ri_85 (by decide) rfl rfl (by decide) (by decide) (Or.inl rfl) (Nat.le_of_ble_eq_true rfl) (by decide) ?_
  refine ev_world (w' := (((((((fw_0.set 56 (ab_ai 0 7 (ab_cp (fun _ => 0) (fun _ => 0) 0 0 7))).set 57 (ab_ai 0 7 (ab_cp (fun _ => 0) (fun _ => 0) 0 0 7))).set 58 (ab_ai 0 7 (ab_cp (fun _ => 0) (fun _ => 0) 0 0 7))).set 59 (ab_ai 0 35 (ab_cp (fun _ => 0) (fun _ => 0) 0 0 35))).set 60 (ab_al 24 (ab_cp (fun _ => 0) (fun _ => 0) 0 0 24))).set 61 (ab_ai 0 24 (ab_cp (fun _ => 0) (fun _ => 0) 0 0 24))).set 62 (ab_ai 0 12 (ab_cp (fun _ => 0) (fun _ => 0) 0 0 12)))) rfl ?_
  refine ev_aload_n de_Ri_copyFrom_185 rfl rfl ?_
  refine ev_getfield de_Ri_copyFrom_186 rfl fl_Ri_37 rfl ?_
  refine ev_aload_n de_Ri_copyFrom_189 rfl rfl ?_
  refine ev_getfield de_Ri_copyFrom_190 rfl fl_Ri_37 rfl ?_
  refine ev_vn (ci := 1) de_Ri_copyFrom_193 fx_156 kb_Ri_91 ⟨im_Di_copyFrom, se_Di_copyFrom⟩ rfl rfl rfl (Nat.le_of_ble_eq_true rfl) (by decide) rfl ?_
  exact ev_return de_Ri_copyFrom_196 rfl ⟨rfl, rfl⟩
theorem de_Tu_image_0 : decode prog_1_method_18_code 0 = .ok (.iload_n 1, 1) := by decide +kernel
theorem de_Tu_image_1 : decode prog_1_method_18_code 1 = .ok (.ifCond .lt 8, 3) := by decide +kernel
theorem de_Tu_image_4 : decode prog_1_method_18_code 4 = .ok (.iload_n 1, 1) := by decide +kernel
theorem de_Tu_image_5 : decode prog_1_method_18_code 5 = .ok (.iconst 4, 1) := by decide +kernel
theorem de_Tu_image_6 : decode prog_1_method_18_code 6 = .ok (.if_icmp .lt 5, 3) := by decide +kernel
theorem de_Tu_image_11 : decode prog_1_method_18_code 11 = .ok (.aload_n 0, 1) := by decide +kernel
theorem de_Tu_image_12 : decode prog_1_method_18_code 12 = .ok (.getfield 26, 3) := by decide +kernel
theorem de_Tu_image_15 : decode prog_1_method_18_code 15 = .ok (.iload_n 1, 1) := by decide +kernel
theorem de_Tu_image_16 : decode prog_1_method_18_code 16 = .ok (.aaload, 1) := by decide +kernel
theorem de_Tu_image_17 : decode prog_1_method_18_code 17 = .ok (.aload_n 0, 1) := by decide +kernel
theorem de_Tu_image_18 : decode prog_1_method_18_code 18 = .ok (.getfield 19, 3) := by decide +kernel
theorem de_Tu_image_21 : decode prog_1_method_18_code 21 = .ok (.invokevirtual 237, 3) := by decide +kernel
theorem de_Tu_image_24 : decode prog_1_method_18_code 24 = .ok (.aload_n 0, 1) := by decide +kernel
theorem de_Tu_image_25 : decode prog_1_method_18_code 25 = .ok (.getfield 30, 3) := by decide +kernel
theorem de_Tu_image_28 : decode prog_1_method_18_code 28 = .ok (.iload_n 1, 1) := by decide +kernel
theorem de_Tu_image_29 : decode prog_1_method_18_code 29 = .ok (.iconst 1, 1) := by decide +kernel
theorem de_Tu_image_30 : decode prog_1_method_18_code 30 = .ok (.bastore, 1) := by decide +kernel
theorem de_Tu_image_31 : decode prog_1_method_18_code 31 = .ok (.aload_n 0, 1) := by decide +kernel
theorem de_Tu_image_32 : decode prog_1_method_18_code 32 = .ok (.getfield 19, 3) := by decide +kernel
theorem de_Tu_image_35 : decode prog_1_method_18_code 35 = .ok (.getfield 180, 3) := by decide +kernel
theorem de_Tu_image_38 : decode prog_1_method_18_code 38 = .ok (.ireturn, 1) := by decide +kernel
set_option maxHeartbeats 4000000 in
set_option maxRecDepth 20000 in
theorem xx_image_0  : ab_Mt g_G g_rs mt_Tu_image 3 0 0 [ab_R (0), ab_I (0)] fw_0 (ab_is (some (ab_I (0))) ((((((((((((fw_0.set 30 (ab_ai 2 4 (ab_up (fun _ => 0) (0) (1)))).set 56 (ab_ai 0 7 (ab_cp (fun _ => 0) (fun _ => 0) 0 0 7))).set 57 (ab_ai 0 7 (ab_cp (fun _ => 0) (fun _ => 0) 0 0 7))).set 58 (ab_ai 0 7 (ab_cp (fun _ => 0) (fun _ => 0) 0 0 7))).set 59 (ab_ai 0 35 (ab_cp (fun _ => 0) (fun _ => 0) 0 0 35))).set 60 (ab_al 24 (ab_cp (fun _ => 0) (fun _ => 0) 0 0 24))).set 61 (ab_ai 0 24 (ab_cp (fun _ => 0) (fun _ => 0) 0 0 24))).set 62 (ab_ai 0 12 (ab_cp (fun _ => 0) (fun _ => 0) 0 0 12))).set 64 (ab_ai 0 10 (ab_cp (fun _ => 0) (fun _ => 0) 0 0 10))).set 65 (ab_ai 0 10 (ab_cp (fun _ => 0) (fun _ => 0) 0 0 10))).set 66 (ab_ai 0 10 (ab_cp (fun _ => 0) (fun _ => 0) 0 0 10))).set 67 (ab_ai 0 10 (ab_cp (fun _ => 0) (fun _ => 0) 0 0 10)))) := by
  refine ab_Mt.of rfl (Nat.le_of_ble_eq_true rfl) ?_
  show ab_Ev g_G g_rs mt_Tu_image _ _ _ 0 [some (ab_R (0)), some (ab_I (0))] [] _ _
  refine ev_iload_n de_Tu_image_0 rfl rfl ?_
  refine ev_if_lt (tgt := 9) de_Tu_image_1 (by decide) (by decide) (fun h => absurd h (by decide)) (fun _ => ?_)
  refine ev_iload_n de_Tu_image_4 rfl rfl ?_
  refine ev_iconst de_Tu_image_5 ?_
  refine ev_icmp_lt (tgt := 11) de_Tu_image_6 (by decide) (by decide) (by decide) (fun _ => ?_) (fun h => absurd h (by decide))
  refine ev_aload_n de_Tu_image_11 rfl rfl ?_
  refine ev_getfield de_Tu_image_12 rfl fl_Tu_26 rfl ?_
  refine ev_iload_n de_Tu_image_15 rfl rfl ?_
  refine ev_aaload (t := 0) de_Tu_image_16 rfl rfl (by decide) (by decide) (by decide) rfl ?_
  refine ev_aload_n de_Tu_image_17 rfl rfl ?_
  refine ev_getfield de_Tu_image_18 rfl fl_Tu_19 rfl ?_
  refine ev_vn (ci := 5) de_Tu_image_21 fx_155 kb_Tu_237 ⟨im_Ri_copyFrom, se_Ri_copyFrom⟩ rfl rfl rfl (Nat.le_of_ble_eq_true rfl) (by decide) rfl ?_
  refine ev_aload_n de_Tu_image_24 rfl rfl ?_
  refine ev_getfield de_Tu_image_25 rfl fl_Tu_30 rfl ?_
  refine ev_iload_n de_Tu_image_28 rfl rfl ?_
  refine ev_iconst de_Tu_image_29 ?_
  refine ev_zastore de_Tu_image_30 rfl (by decide) (by decide) (by decide) (by decide) ?_
  refine ev_world (w' := ((((((((((((fw_0.set 30 (ab_ai 2 4 (ab_up (fun _ => 0) (0) (1)))).set 56 (ab_ai 0 7 (ab_cp (fun _ => 0) (fun _ => 0) 0 0 7))).set 57 (ab_ai 0 7 (ab_cp (fun _ => 0) (fun _ => 0) 0 0 7))).set 58 (ab_ai 0 7 (ab_cp (fun _ => 0) (fun _ => 0) 0 0 7))).set 59 (ab_ai 0 35 (ab_cp (fun _ => 0) (fun _ => 0) 0 0 35))).set 60 (ab_al 24 (ab_cp (fun _ => 0) (fun _ => 0) 0 0 24))).set 61 (ab_ai 0 24 (ab_cp (fun _ => 0) (fun _ => 0) 0 0 24))).set 62 (ab_ai 0 12 (ab_cp (fun _ => 0) (fun _ => 0) 0 0 12))).set 64 (ab_ai 0 10 (ab_cp (fun _ => 0) (fun _ => 0) 0 0 10))).set 65 (ab_ai 0 10 (ab_cp (fun _ => 0) (fun _ => 0) 0 0 10))).set 66 (ab_ai 0 10 (ab_cp (fun _ => 0) (fun _ => 0) 0 0 10))).set 67 (ab_ai 0 10 (ab_cp (fun _ => 0) (fun _ => 0) 0 0 10)))) rfl ?_
  refine ev_aload_n de_Tu_image_31 rfl rfl ?_
  refine ev_getfield de_Tu_image_32 rfl fl_Tu_19 rfl ?_
  refine ev_getfield de_Tu_image_35 rfl fl_Tu_180 rfl ?_
  exact ev_ireturn de_Tu_image_38 rfl ⟨rfl, rfl⟩
set_option maxHeartbeats 4000000 in
set_option maxRecDepth 20000 in
theorem fx_159  : ab_Mt g_G g_rs mt_Di_copyFrom 1 0 0 [ab_R (76), ab_R (11)] (((((((fw_0.set 69 (ab_ai 0 7 (ab_cp (fun _ => 0) (fun _ => 0) 0 0 7))).set 70 (ab_ai 0 7 (ab_cp (fun _ => 0) (fun _ => 0) 0 0 7))).set 71 (ab_ai 0 7 (ab_cp (fun _ => 0) (fun _ => 0) 0 0 7))).set 72 (ab_ai 0 35 (ab_cp (fun _ => 0) (fun _ => 0) 0 0 35))).set 73 (ab_al 24 (ab_cp (fun _ => 0) (fun _ => 0) 0 0 24))).set 74 (ab_ai 0 24 (ab_cp (fun _ => 0) (fun _ => 0) 0 0 24))).set 75 (ab_ai 0 12 (ab_cp (fun _ => 0) (fun _ => 0) 0 0 12))) (ab_is none (((((((((((fw_0.set 69 (ab_ai 0 7 (ab_cp (fun _ => 0) (fun _ => 0) 0 0 7))).set 70 (ab_ai 0 7 (ab_cp (fun _ => 0) (fun _ => 0) 0 0 7))).set 71 (ab_ai 0 7 (ab_cp (fun _ => 0) (fun _ => 0) 0 0 7))).set 72 (ab_ai 0 35 (ab_cp (fun _ => 0) (fun _ => 0) 0 0 35))).set 73 (ab_al 24 (ab_cp (fun _ => 0) (fun _ => 0) 0 0 24))).set 74 (ab_ai 0 24 (ab_cp (fun _ => 0) (fun _ => 0) 0 0 24))).set 75 (ab_ai 0 12 (ab_cp (fun _ => 0) (fun _ => 0) 0 0 12))).set 77 (ab_ai 0 10 (ab_cp (fun _ => 0) (fun _ => 0) 0 0 10))).set 78 (ab_ai 0 10 (ab_cp (fun _ => 0) (fun _ => 0) 0 0 10))).set 79 (ab_ai 0 10 (ab_cp (fun _ => 0) (fun _ => 0) 0 0 10))).set 80 (ab_ai 0 10 (ab_cp (fun _ => 0) (fun _ => 0) 0 0 10)))) := by
  refine ab_Mt.of rfl (Nat.le_of_ble_eq_true rfl) ?_
  show ab_Ev g_G g_rs mt_Di_copyFrom _ _ _ 0 [some (ab_R (76)), some (ab_R (11))] [] _ _
  refine ev_aload_n de_Di_copyFrom_0 rfl rfl ?_
  refine ev_aload_n de_Di_copyFrom_1 rfl rfl ?_
  refine ev_getfield de_Di_copyFrom_2 rfl fl_Di_24 rfl ?_
  refine ev_putfield de_Di_copyFrom_5 rfl (fp_Di_24 _) (Nat.le_of_ble_eq_true rfl) trivial ?_
  refine ev_world (w' := (((((((fw_0.set 69 (ab_ai 0 7 (ab_cp (fun _ => 0) (fun _ => 0) 0 0 7))).set 70 (ab_ai 0 7 (ab_cp (fun _ => 0) (fun _ => 0) 0 0 7))).set 71 (ab_ai 0 7 (ab_cp (fun _ => 0) (fun _ => 0) 0 0 7))).set 72 (ab_ai 0 35 (ab_cp (fun _ => 0) (fun _ => 0) 0 0 35))).set 73 (ab_al 24 (ab_cp (fun _ => 0) (fun _ => 0) 0 0 24))).set 74 (ab_ai 0 24 (ab_cp (fun _ => 0) (fun _ => 0) 0 0 24))).set 75 (ab_ai 0 12 (ab_cp (fun _ => 0) (fun _ => 0) 0 0 12)))) rfl ?_
  refine ev_aload_n de_Di_copyFrom_8 rfl rfl ?_
  refine ev_getfield de_Di_copyFrom_9 rfl fl_Di_9 rfl ?_
  refine ev_iconst de_Di_copyFrom_12 ?_
  refine ev_aload_n de_Di_copyFrom_13 rfl rfl ?_
  refine ev_getfield de_Di_copyFrom_14 rfl fl_Di_9 rfl ?_
  refine ev_iconst de_Di_copyFrom_17 ?_
  refine ev_bipush de_Di_copyFrom_18 rfl ?_
  refine ev_copyi (t := 0) de_Di_copyFrom_20 ck_Di_28 (by decide) rfl rfl (by decide) (by decide) (Or.inl rfl) (Nat.le_of_ble_eq_true rfl) (by decide) ?_
  refine ev_world (w' := ((((((((fw_0.set 69 (ab_ai 0 7 (ab_cp (fun _ => 0) (fun _ => 0) 0 0 7))).set 70 (ab_ai 0 7 (ab_cp (fun _ => 0) (fun _ => 0) 0 0 7))).set 71 (ab_ai 0 7 (ab_cp (fun _ => 0) (fun _ => 0) 0 0 7))).set 72 (ab_ai 0 35 (ab_cp (fun _ => 0) (fun _ => 0) 0 0 35))).set 73 (ab_al 24 (ab_cp (fun _ => 0) (fun _ => 0) 0 0 24))).set 74 (ab_ai 0 24 (ab_cp (fun _ => 0) (fun _ => 0) 0 0 24))).set 75 (ab_ai 0 12 (ab_cp (fun _ => 0) (fun _ => 0) 0 0 12))).set 77 (ab_ai 0 10 (ab_cp (fun _ => 0) (fun _ => 0) 0 0 10)))) rfl ?_
  refine ev_aload_n de_Di_copyFrom_23 rfl rfl ?_
  refine ev_getfield de_Di_copyFrom_24 rfl fl_Di_15 rfl ?_
  refine ev_iconst de_Di_copyFrom_27 ?_
  refine ev_aload_n de_Di_copyFrom_28 rfl rfl ?_
  refine ev_getfield de_Di_copyFrom_29 rfl fl_Di_15 rfl ?_
  refine ev_iconst de_Di_copyFrom_32 ?_
  refine ev_bipush de_Di_copyFrom_33 rfl ?_
  refine ev_copyi (t := 0) de_Di_copyFrom_35 ck_Di_28 (by decide) rfl rfl (by decide) (by decide) (Or.inl rfl) (Nat.le_of_ble_eq_true rfl) (by decide) ?_
  refine ev_world (w' := (((((((((fw_0.set 69 (ab_ai 0 7 (ab_cp (fun _ => 0) (fun _ => 0) 0 0 7))).set 70 (ab_ai 0 7 (ab_cp (fun _ => 0) (fun _ => 0) 0 0 7))).set 71 (ab_ai 0 7 (ab_cp (fun _ => 0) (fun _ => 0) 0 0 7))).set 72 (ab_ai 0 35 (ab_cp (fun _ => 0) (fun _ => 0) 0 0 35))).set 73 (ab_al 24 (ab_cp (fun _ => 0) (fun _ => 0) 0 0 24))).set 74 (ab_ai 0 24 (ab_cp (fun _ => 0) (fun _ => 0) 0 0 24))).set 75 (ab_ai 0 12 (ab_cp (fun _ => 0) (fun _ => 0) 0 0 12))).set 77 (ab_ai 0 10 (ab_cp (fun _ => 0) (fun _ => 0) 0 0 10))).set 78 (ab_ai 0 10 (ab_cp (fun _ => 0) (fun _ => 0) 0 0 10)))) rfl ?_
  refine ev_aload_n de_Di_copyFrom_38 rfl rfl ?_
  refine ev_getfield de_Di_copyFrom_39 rfl fl_Di_18 rfl ?_
  refine ev_iconst de_Di_copyFrom_42 ?_
  refine ev_aload_n de_Di_copyFrom_43 rfl rfl ?_
  refine ev_getfield de_Di_copyFrom_44 rfl fl_Di_18 rfl ?_
  refine ev_iconst de_Di_copyFrom_47 ?_
  refine ev_bipush de_Di_copyFrom_48 rfl ?_
  refine ev_copyi (t := 0) de_Di_copyFrom_50 ck_Di_28 (by decide) rfl rfl (by decide) (by decide) (Or.inl rfl) (Nat.le_of_ble_eq_true rfl) (by decide) ?_
  refine ev_world (w' := ((((((((((fw_0.set 69 (ab_ai 0 7 (ab_cp (fun _ => 0) (fun _ => 0) 0 0 7))).set 70 (ab_ai 0 7 (ab_cp (fun _ => 0) (fun _ => 0) 0 0 7))).set 71 (ab_ai 0 7 (ab_cp (fun _ => 0) (fun _ => 0) 0 0 7))).set 72 (ab_ai 0 35 (ab_cp (fun _ => 0) (fun _ => 0) 0 0 35))).set 73 (ab_al 24 (ab_cp (fun _ => 0) (fun _ => 0) 0 0 24))).set 74 (ab_ai 0 24 (ab_cp (fun _ => 0) (fun _ => 0) 0 0 24))).set 75 (ab_ai 0 12 (ab_cp (fun _ => 0) (fun _ => 0) 0 0 12))).set 77 (ab_ai 0 10 (ab_cp (fun _ => 0) (fun _ => 0) 0 0 10))).set 78 (ab_ai 0 10 (ab_cp (fun _ => 0) (fun _ => 0) 0 0 10))).set 79 (ab_ai 0 10 (ab_cp (fun _ => 0) (fun _ => 0) 0 0 10)))) rfl ?_
  refine ev_aload_n de_Di_copyFrom_53 rfl rfl ?_
  refine ev_getfield de_Di_copyFrom_54 rfl fl_Di_21 rfl ?_
  refine ev_iconst de_Di_copyFrom_57 ?_
  refine ev_aload_n de_Di_copyFrom_58 rfl rfl ?_
  refine ev_getfield de_Di_copyFrom_59 rfl fl_Di_21 rfl ?_
  refine ev_iconst de_Di_copyFrom_62 ?_
  refine ev_bipush de_Di_copyFrom_63 rfl ?_
  refine ev_copyi (t := 0) de_Di_copyFrom_65 ck_Di_28 (by decide) rfl rfl (by decide) (by decide) (Or.inl rfl) (Nat.le_of_ble_eq_true rfl) (by decide) ?_
  refine ev_world (w' := (((((((((((fw_0.set 69 (ab_ai 0 7 (ab_cp (fun _ => 0) (fun _ => 0) 0 0 7))).set 70 (ab_ai 0 7 (ab_cp (fun _ => 0) (fun _ => 0) 0 0 7))).set 71 (ab_ai 0 7 (ab_cp (fun _ => 0) (fun _ => 0) 0 0 7))).set 72 (ab_ai 0 35 (ab_cp (fun _ => 0) (fun _ => 0) 0 0 35))).set 73 (ab_al 24 (ab_cp (fun _ => 0) (fun _ => 0) 0 0 24))).set 74 (ab_ai 0 24 (ab_cp (fun _ => 0) (fun _ => 0) 0 0 24))).set 75 (ab_ai 0 12 (ab_cp (fun _ => 0) (fun _ => 0) 0 0 12))).set 77 (ab_ai 0 10 (ab_cp (fun _ => 0) (fun _ => 0) 0 0 10))).set 78 (ab_ai 0 10 (ab_cp (fun _ => 0) (fun _ => 0) 0 0 10))).set 79 (ab_ai 0 10 (ab_cp (fun _ => 0) (fun _ => 0) 0 0 10))).set 80 (ab_ai 0 10 (ab_cp (fun _ => 0) (fun _ => 0) 0 0 10)))) rfl ?_
  exact ev_return de_Di_copyFrom_68 rfl ⟨rfl, rfl⟩
set_option maxHeartbeats 4000000 in
set_option maxRecDepth 20000 in
theorem fx_158  : ab_Mt g_G g_rs mt_Ri_copyFrom 2 0 0 [ab_R (68), ab_R (3)] fw_0 (ab_is none (((((((((((fw_0.set 69 (ab_ai 0 7 (ab_cp (fun _ => 0) (fun _ => 0) 0 0 7))).set 70 (ab_ai 0 7 (ab_cp (fun _ => 0) (fun _ => 0) 0 0 7))).set 71 (ab_ai 0 7 (ab_cp (fun _ => 0) (fun _ => 0) 0 0 7))).set 72 (ab_ai 0 35 (ab_cp (fun _ => 0) (fun _ => 0) 0 0 35))).set 73 (ab_al 24 (ab_cp (fun _ => 0) (fun _ => 0) 0 0 24))).set 74 (ab_ai 0 24 (ab_cp (fun _ => 0) (fun _ => 0) 0 0 24))).set 75 (ab_ai 0 12 (ab_cp (fun _ => 0) (fun _ => 0) 0 0 12))).set 77 (ab_ai 0 10 (ab_cp (fun _ => 0) (fun _ => 0) 0 0 10))).set 78 (ab_ai 0 10 (ab_cp (fun _ => 0) (fun _ => 0) 0 0 10))).set 79 (ab_ai 0 10 (ab_cp (fun _ => 0) (fun _ => 0) 0 0 10))).set 80 (ab_ai 0 10 (ab_cp (fun _ => 0) (fun _ => 0) 0 0 10)))) := by
  refine ab_Mt.of rfl (Nat.le_of_ble_eq_true rfl) ?_
  show ab_Ev g_G g_rs mt_Ri_copyFrom _ _ _ 0 [some (ab_R (68)), some (ab_R (3))] [] _ _
  refine ev_aload_n de_Ri_copyFrom_0 rfl rfl ?_
  refine ev_aload_n de_Ri_copyFrom_1 rfl rfl ?_
  refine ev_getfield de_Ri_copyFrom_2 rfl fl_Ri_41 rfl ?_
  refine ev_putfield de_Ri_copyFrom_5 rfl (fp_Ri_41 _) (Nat.le_of_ble_eq_true rfl) (Or.inl rfl) ?_
  refine ev_world (w' := fw_0) rfl ?_
  refine ev_aload_n de_Ri_copyFrom_8 rfl rfl ?_
  refine ev_aload_n de_Ri_copyFrom_9 rfl rfl ?_
  refine ev_getfield de_Ri_copyFrom_10 rfl fl_Ri_45 rfl ?_
  refine ev_putfield de_Ri_copyFrom_13 rfl (fp_Ri_45 _) (Nat.le_of_ble_eq_true rfl) trivial ?_
  refine ev_world (w' := fw_0) rfl ?_
  refine ev_aload_n de_Ri_copyFrom_16 rfl rfl ?_
  refine ev_aload_n de_Ri_copyFrom_17 rfl rfl ?_
  refine ev_getfield de_Ri_copyFrom_18 rfl fl_Ri_49 rfl ?_
  refine ev_putfield de_Ri_copyFrom_21 rfl (fp_Ri_49 _) (Nat.le_of_ble_eq_true rfl) trivial ?_
  refine ev_world (w' := fw_0) rfl ?_
  refine ev_aload_n de_Ri_copyFrom_24 rfl rfl ?_
  refine ev_aload_n de_Ri_copyFrom_25 rfl rfl ?_
  refine ev_getfield de_Ri_copyFrom_26 rfl fl_Ri_52 rfl ?_
  refine ev_putfield de_Ri_copyFrom_29 rfl (fp_Ri_52 _) (Nat.le_of_ble_eq_true rfl) trivial ?_
  refine ev_world (w' := fw_0) rfl ?_
  refine ev_aload_n de_Ri_copyFrom_32 rfl rfl ?_
  refine ev_aload_n de_Ri_copyFrom_33 rfl rfl ?_
  refine ev_getfield de_Ri_copyFrom_34 rfl fl_Ri_55 rfl ?_
  refine ev_putfield de_Ri_copyFrom_37 rfl (fp_Ri_55 _) (Nat.le_of_ble_eq_true rfl) (Or.inl rfl) ?_
  refine ev_world (w' := fw_0) rfl ?_
  refine ev_aload_n de_Ri_copyFrom_40 rfl rfl ?_
  refine ev_aload_n de_Ri_copyFrom_41 rfl rfl ?_
  refine ev_getfield de_Ri_copyFrom_42 rfl fl_Ri_58 rfl ?_
  refine ev_putfield de_Ri_copyFrom_45 rfl (fp_Ri_58 _) (Nat.le_of_ble_eq_true rfl) trivial ?_
  refine ev_world (w' := fw_0) rfl ?_
  refine ev_aload_n de_Ri_copyFrom_48 rfl rfl ?_
  refine ev_aload_n de_Ri_copyFrom_49 rfl rfl ?_
  refine ev_getfield de_Ri_copyFrom_50 rfl fl_Ri_61 rfl ?_
  refine ev_putfield de_Ri_copyFrom_53 rfl (fp_Ri_61 _) (Nat.le_of_ble_eq_true rfl) trivial ?_
  refine ev_world (w' := fw_0) rfl ?_
  refine ev_aload_n de_Ri_copyFrom_56 rfl rfl ?_
  refine ev_aload_n de_Ri_copyFrom_57 rfl rfl ?_
  refine ev_getfield de_Ri_copyFrom_58 rfl fl_Ri_64 rfl ?_
  refine ev_putfield de_Ri_copyFrom_61 rfl (fp_Ri_64 _) (Nat.le_of_ble_eq_true rfl) trivial ?_
  refine ev_world (w' := fw_0) rfl ?_
  refine ev_aload_n de_Ri_copyFrom_64 rfl rfl ?_
  refine ev_aload_n de_Ri_copyFrom_65 rfl rfl ?_
  refine ev_getfield de_Ri_copyFrom_66 rfl fl_Ri_67 rfl ?_
  refine ev_putfield de_Ri_copyFrom_69 rfl (fp_Ri_67 _) (Nat.le_of_ble_eq_true rfl) trivial ?_
  refine ev_world (w' := fw_0) rfl ?_
  refine ev_aload_n de_Ri_copyFrom_72 rfl rfl ?_
  refine ev_aload_n de_Ri_copyFrom_73 rfl rfl ?_
  refine ev_getfield de_Ri_copyFrom_74 rfl fl_Ri_70 rfl ?_
  refine ev_putfield de_Ri_copyFrom_77 rfl (fp_Ri_70 _) (Nat.le_of_ble_eq_true rfl) trivial ?_
  refine ev_world (w' := fw_0) rfl ?_
  refine ev_aload_n de_Ri_copyFrom_80 rfl rfl ?_
  refine ev_getfield de_Ri_copyFrom_81 rfl fl_Ri_9 rfl ?_
  refine ev_iconst de_Ri_copyFrom_84 ?_
  refine ev_aload_n de_Ri_copyFrom_85 rfl rfl ?_
  refine ev_getfield de_Ri_copyFrom_86 rfl fl_Ri_9 rfl ?_
  refine ev_iconst de_Ri_copyFrom_89 ?_
  refine ev_bipush de_Ri_copyFrom_90 rfl ?_
  refine ev_copyi (t := 0) de_Ri_copyFrom_92 ck_Ri_85 (by decide) rfl rfl (by decide) (by decide) (Or.inl rfl) (Nat.le_of_ble_eq_true rfl) (by decide) ?_
  refine ev_world (w' := (fw_0.set 69 (ab_ai 0 7 (ab_cp (fun _ => 0) (fun _ => 0) 0 0 7)))) rfl ?_
  refine ev_aload_n de_Ri_copyFrom_95 rfl rfl ?_
  refine ev_getfield de_Ri_copyFrom_96 rfl fl_Ri_15 rfl ?_
  refine ev_iconst de_Ri_copyFrom_99 ?_
  refine ev_aload_n de_Ri_copyFrom_100 rfl rfl ?_
  refine ev_getfield de_Ri_copyFrom_101 rfl fl_Ri_15 rfl ?_
  refine ev_iconst de_Ri_copyFrom_104 ?_
  refine ev_bipush de_Ri_copyFrom_105 rfl ?_
  refine ev_copyi (t := 0) de_Ri_copyFrom_107 ck_Ri_85 (by decide) rfl rfl (by decide) (by decide) (Or.inl rfl) (Nat.le_of_ble_eq_true rfl) (by decide) ?_
  refine ev_world (w' := ((fw_0.set 69 (ab_ai 0 7 (ab_cp (fun _ => 0) (fun _ => 0) 0 0 7))).set 70 (ab_ai 0 7 (ab_cp (fun _ => 0) (fun _ => 0) 0 0 7)))) rfl ?_
  refine ev_aload_n de_Ri_copyFrom_110 rfl rfl ?_
  refine ev_getfield de_Ri_copyFrom_111 rfl fl_Ri_18 rfl ?_
  refine ev_iconst de_Ri_copyFrom_114 ?_
  refine ev_aload_n de_Ri_copyFrom_115 rfl rfl ?_
  refine ev_getfield de_Ri_copyFrom_116 rfl fl_Ri_18 rfl ?_
  refine ev_iconst de_Ri_copyFrom_119 ?_
  refine ev_bipush de_Ri_copyFrom_120 rfl ?_
  refine ev_copyi (t := 0) de_Ri_copyFrom_122 ck_Ri_85 (by decide) rfl rfl (by decide) (by decide) (Or.inl rfl) (Nat.le_of_ble_eq_true rfl) (by decide) ?_
  refine ev_world (w' := (((fw_0.set 69 (ab_ai 0 7 (ab_cp (fun _ => 0) (fun _ => 0) 0 0 7))).set 70 (ab_ai 0 7 (ab_cp (fun _ => 0) (fun _ => 0) 0 0 7))).set 71 (ab_ai 0 7 (ab_cp (fun _ => 0) (fun _ => 0) 0 0 7)))) rfl ?_
  refine ev_aload_n de_Ri_copyFrom_125 rfl rfl ?_
  refine ev_getfield de_Ri_copyFrom_126 rfl fl_Ri_21 rfl ?_
  refine ev_iconst de_Ri_copyFrom_129 ?_
  refine ev_aload_n de_Ri_copyFrom_130 rfl rfl ?_
  refine ev_getfield de_Ri_copyFrom_131 rfl fl_Ri_21 rfl ?_
  refine ev_iconst de_Ri_copyFrom_134 ?_
  refine ev_bipush de_Ri_copyFrom_135 rfl ?_
  refine ev_copyi (t := 0) de_Ri_copyFrom_137 ck_Ri_85 (by decide) rfl rfl (by decide) (by decide) (Or.inl rfl) (Nat.le_of_ble_eq_true rfl) (by decide) ?_
  refine ev_world (w' := ((((fw_0.set 69 (ab_ai 0 7 (ab_cp (fun _ => 0) (fun _ => 0) 0 0 7))).set 70 (ab_ai 0 7 (ab_cp (fun _ => 0) (fun _ => 0) 0 0 7))).set 71 (ab_ai 0 7 (ab_cp (fun _ => 0) (fun _ => 0) 0 0 7))).set 72 (ab_ai 0 35 (ab_cp (fun _ => 0) (fun _ => 0) 0 0 35)))) rfl ?_
  refine ev_aload_n de_Ri_copyFrom_140 rfl rfl ?_
  refine ev_getfield de_Ri_copyFrom_141 rfl fl_Ri_24 rfl ?_
  refine ev_iconst de_Ri_copyFrom_144 ?_
  refine ev_aload_n de_Ri_copyFrom_145 rfl rfl ?_
  refine ev_getfield de_Ri_copyFrom_146 rfl fl_Ri_24 rfl ?_
  refine ev_iconst de_Ri_copyFrom_149 ?_
  refine ev_bipush de_Ri_copyFrom_150 rfl ?_
  refine ev_copyl de_Ri_copyFrom_152 ck_Ri_85 rfl rfl (by decide) (by decide) (Nat.le_of_ble_eq_true rfl) (by decide) ?_
  refine ev_world (w' := (((((fw_0.set 69 (ab_ai 0 7 (ab_cp (fun _ => 0) (fun _ => 0) 0 0 7))).set 70 (ab_ai 0 7 (ab_cp (fun _ => 0) (fun _ => 0) 0 0 7))).set 71 (ab_ai 0 7 (ab_cp (fun _ => 0) (fun _ => 0) 0 0 7))).set 72 (ab_ai 0 35 (ab_cp (fun _ => 0) (fun _ => 0) 0 0 35))).set 73 (ab_al 24 (ab_cp (fun _ => 0) (fun _ => 0) 0 0 24)))) rfl ?_
  refine ev_aload_n de_Ri_copyFrom_155 rfl rfl ?_
  refine ev_getfield de_Ri_copyFrom_156 rfl fl_Ri_28 rfl ?_
  refine ev_iconst de_Ri_copyFrom_159 ?_
  refine ev_aload_n de_Ri_copyFrom_160 rfl rfl ?_
  refine ev_getfield de_Ri_copyFrom_161 rfl fl_Ri_28 rfl ?_
  refine ev_iconst de_Ri_copyFrom_164 ?_
  refine ev_bipush de_Ri_copyFrom_165 rfl ?_
  refine ev_copyi (t := 0) de_Ri_copyFrom_167 ck_Ri_85 (by decide) rfl rfl (by decide) (by decide) (Or.inl rfl) (Nat.le_of_ble_eq_true rfl) (by decide) ?_
  refine ev_world (w' := ((((((fw_0.set 69 (ab_ai 0 7 (ab_cp (fun _ => 0) (fun _ => 0) 0 0 7))).set 70 (ab_ai 0 7 (ab_cp (fun _ => 0) (fun _ => 0) 0 0 7))).set 71 (ab_ai 0 7 (ab_cp (fun _ => 0) (fun _ => 0) 0 0 7))).set 72 (ab_ai 0 35 (ab_cp (fun _ => 0) (fun _ => 0) 0 0 35))).set 73 (ab_al 24 (ab_cp (fun _ => 0) (fun _ => 0) 0 0 24))).set 74 (ab_ai 0 24 (ab_cp (fun _ => 0) (fun _ => 0) 0 0 24)))) rfl ?_
  refine ev_aload_n de_Ri_copyFrom_170 rfl rfl ?_
  refine ev_getfield de_Ri_copyFrom_171 rfl fl_Ri_31 rfl ?_
  refine ev_iconst de_Ri_copyFrom_174 ?_
  refine ev_aload_n de_Ri_copyFrom_175 rfl rfl ?_
  refine ev_getfield de_Ri_copyFrom_176 rfl fl_Ri_31 rfl ?_
  refine ev_iconst de_Ri_copyFrom_179 ?_
  refine ev_bipush de_Ri_copyFrom_180 rfl ?_
  refine ev_copyi (t := 0) de_Ri_copyFrom_182 ck_Ri_85 (by decide) rfl rfl (by decide) (by decide) (Or.inl rfl) (Nat.le_of_ble_eq_true rfl) (by decide) ?_
  refine ev_world (w' := (((((((fw_0.set 69 (ab_ai 0 7 (ab_cp (fun _ => 0) (fun _ => 0) 0 0 7))).set 70 (ab_ai 0 7 (ab_cp (fun _ => 0) (fun _ => 0) 0 0 7))).set 71 (ab_ai 0 7 (ab_cp (fun _ => 0) (fun _ => 0) 0 0 7))).set 72 (ab_ai 0 35 (ab_cp (fun _ => 0) (fun _ => 0) 0 0 35))).set 73 (ab_al 24 (ab_cp (fun _ => 0) (fun _ => 0) 0 0 24))).set 74 (ab_ai 0 24 (ab_cp (fun _ => 0) (fun _ => 0) 0 0 24))).set 75 (ab_ai 0 12 (ab_cp (fun _ => 0) (fun _ => 0) 0 0 12)))) rfl ?_
  refine ev_aload_n de_Ri_copyFrom_185 rfl rfl ?_
  refine ev_getfield de_Ri_copyFrom_186 rfl fl_Ri_37 rfl ?_
  refine ev_aload_n de_Ri_copyFrom_189 rfl rfl ?_
  refine ev_getfield de_Ri_copyFrom_190 rfl fl_Ri_37 rfl ?_
  refine ev_vn (ci := 1) de_Ri_copyFrom_193 fx_159 kb_Ri_91 ⟨im_Di_copyFrom, se_Di_copyFrom⟩ rfl rfl rfl (Nat.le_of_ble_eq_true rfl) (by decide) rfl ?_
  exact ev_return de_Ri_copyFrom_196 rfl ⟨rfl, rfl⟩
set_option maxHeartbeats 4000000 in
set_option maxRecDepth 20000 in
theorem xx_image_1  : ab_Mt g_G g_rs mt_Tu_image 3 0 0 [ab_R (0), ab_I (1)] fw_0 (ab_is (some (ab_I (0))) ((((((((((((fw_0.set 30 (ab_ai 2 4 (ab_up (fun _ => 0) (1) (1)))).set 69 (ab_ai 0 7 (ab_cp (fun _ => 0) (fun _ => 0) 0 0 7))).set 70 (ab_ai 0 7 (ab_cp (fun _ => 0) (fun _ => 0) 0 0 7))).set 71 (ab_ai 0 7 (ab_cp (fun _ => 0) (fun _ => 0) 0 0 7))).set 72 (ab_ai 0 35 (ab_cp (fun _ => 0) (fun _ => 0) 0 0 35))).set 73 (ab_al 24 (ab_cp (fun _ => 0) (fun _ => 0) 0 0 24))).set 74 (ab_ai 0 24 (ab_cp (fun _ => 0) (fun _ => 0) 0 0 24))).set 75 (ab_ai 0 12 (ab_cp (fun _ => 0) (fun _ => 0) 0 0 12))).set 77 (ab_ai 0 10 (ab_cp (fun _ => 0) (fun _ => 0) 0 0 10))).set 78 (ab_ai 0 10 (ab_cp (fun _ => 0) (fun _ => 0) 0 0 10))).set 79 (ab_ai 0 10 (ab_cp (fun _ => 0) (fun _ => 0) 0 0 10))).set 80 (ab_ai 0 10 (ab_cp (fun _ => 0) (fun _ => 0) 0 0 10)))) := by
  refine ab_Mt.of rfl (Nat.le_of_ble_eq_true rfl) ?_
  show ab_Ev g_G g_rs mt_Tu_image _ _ _ 0 [some (ab_R (0)), some (ab_I (1))] [] _ _
  refine ev_iload_n de_Tu_image_0 rfl rfl ?_
  refine ev_if_lt (tgt := 9) de_Tu_image_1 (by decide) (by decide) (fun h => absurd h (by decide)) (fun _ => ?_)
  refine ev_iload_n de_Tu_image_4 rfl rfl ?_
  refine ev_iconst de_Tu_image_5 ?_
  refine ev_icmp_lt (tgt := 11) de_Tu_image_6 (by decide) (by decide) (by decide) (fun _ => ?_) (fun h => absurd h (by decide))
  refine ev_aload_n de_Tu_image_11 rfl rfl ?_
  refine ev_getfield de_Tu_image_12 rfl fl_Tu_26 rfl ?_
  refine ev_iload_n de_Tu_image_15 rfl rfl ?_
  refine ev_aaload (t := 0) de_Tu_image_16 rfl rfl (by decide) (by decide) (by decide) rfl ?_
  refine ev_aload_n de_Tu_image_17 rfl rfl ?_
  refine ev_getfield de_Tu_image_18 rfl fl_Tu_19 rfl ?_
  refine ev_vn (ci := 5) de_Tu_image_21 fx_158 kb_Tu_237 ⟨im_Ri_copyFrom, se_Ri_copyFrom⟩ rfl rfl rfl (Nat.le_of_ble_eq_true rfl) (by decide) rfl ?_
  refine ev_aload_n de_Tu_image_24 rfl rfl ?_
  refine ev_getfield de_Tu_image_25 rfl fl_Tu_30 rfl ?_
  refine ev_iload_n de_Tu_image_28 rfl rfl ?_
  refine ev_iconst de_Tu_image_29 ?_
  refine ev_zastore de_Tu_image_30 rfl (by decide) (by decide) (by decide) (by decide) ?_
  refine ev_world (w' := ((((((((((((fw_0.set 30 (ab_ai 2 4 (ab_up (fun _ => 0) (1) (1)))).set 69 (ab_ai 0 7 (ab_cp (fun _ => 0) (fun _ => 0) 0 0 7))).set 70 (ab_ai 0 7 (ab_cp (fun _ => 0) (fun _ => 0) 0 0 7))).set 71 (ab_ai 0 7 (ab_cp (fun _ => 0) (fun _ => 0) 0 0 7))).set 72 (ab_ai 0 35 (ab_cp (fun _ => 0) (fun _ => 0) 0 0 35))).set 73 (ab_al 24 (ab_cp (fun _ => 0) (fun _ => 0) 0 0 24))).set 74 (ab_ai 0 24 (ab_cp (fun _ => 0) (fun _ => 0) 0 0 24))).set 75 (ab_ai 0 12 (ab_cp (fun _ => 0) (fun _ => 0) 0 0 12))).set 77 (ab_ai 0 10 (ab_cp (fun _ => 0) (fun _ => 0) 0 0 10))).set 78 (ab_ai 0 10 (ab_cp (fun _ => 0) (fun _ => 0) 0 0 10))).set 79 (ab_ai 0 10 (ab_cp (fun _ => 0) (fun _ => 0) 0 0 10))).set 80 (ab_ai 0 10 (ab_cp (fun _ => 0) (fun _ => 0) 0 0 10)))) rfl ?_
  refine ev_aload_n de_Tu_image_31 rfl rfl ?_
  refine ev_getfield de_Tu_image_32 rfl fl_Tu_19 rfl ?_
  refine ev_getfield de_Tu_image_35 rfl fl_Tu_180 rfl ?_
  exact ev_ireturn de_Tu_image_38 rfl ⟨rfl, rfl⟩
set_option maxHeartbeats 4000000 in
set_option maxRecDepth 20000 in
theorem fx_162  : ab_Mt g_G g_rs mt_Di_copyFrom 1 0 0 [ab_R (89), ab_R (11)] (((((((fw_0.set 82 (ab_ai 0 7 (ab_cp (fun _ => 0) (fun _ => 0) 0 0 7))).set 83 (ab_ai 0 7 (ab_cp (fun _ => 0) (fun _ => 0) 0 0 7))).set 84 (ab_ai 0 7 (ab_cp (fun _ => 0) (fun _ => 0) 0 0 7))).set 85 (ab_ai 0 35 (ab_cp (fun _ => 0) (fun _ => 0) 0 0 35))).set 86 (ab_al 24 (ab_cp (fun _ => 0) (fun _ => 0) 0 0 24))).set 87 (ab_ai 0 24 (ab_cp (fun _ => 0) (fun _ => 0) 0 0 24))).set 88 (ab_ai 0 12 (ab_cp (fun _ => 0) (fun _ => 0) 0 0 12))) (ab_is none (((((((((((fw_0.set 82 (ab_ai 0 7 (ab_cp (fun _ => 0) (fun _ => 0) 0 0 7))).set 83 (ab_ai 0 7 (ab_cp (fun _ => 0) (fun _ => 0) 0 0 7))).set 84 (ab_ai 0 7 (ab_cp (fun _ => 0) (fun _ => 0) 0 0 7))).set 85 (ab_ai 0 35 (ab_cp (fun _ => 0) (fun _ => 0) 0 0 35))).set 86 (ab_al 24 (ab_cp (fun _ => 0) (fun _ => 0) 0 0 24))).set 87 (ab_ai 0 24 (ab_cp (fun _ => 0) (fun _ => 0) 0 0 24))).set 88 (ab_ai 0 12 (ab_cp (fun _ => 0) (fun _ => 0) 0 0 12))).set 90 (ab_ai 0 10 (ab_cp (fun _ => 0) (fun _ => 0) 0 0 10))).set 91 (ab_ai 0 10 (ab_cp (fun _ => 0) (fun _ => 0) 0 0 10))).set 92 (ab_ai 0 10 (ab_cp (fun _ => 0) (fun _ => 0) 0 0 10))).set 93 (ab_ai 0 10 (ab_cp (fun _ => 0) (fun _ => 0) 0 0 10)))) := by
  refine ab_Mt.of rfl (Nat.le_of_ble_eq_true rfl) ?_
  show ab_Ev g_G g_rs mt_Di_copyFrom _ _ _ 0 [some (ab_R (89)), some (ab_R (11))] [] _ _
  refine ev_aload_n de_Di_copyFrom_0 rfl rfl ?_
  refine ev_aload_n de_Di_copyFrom_1 rfl rfl ?_
  refine ev_getfield de_Di_copyFrom_2 rfl fl_Di_24 rfl ?_
  refine ev_putfield de_Di_copyFrom_5 rfl (fp_Di_24 _) (Nat.le_of_ble_eq_true rfl) trivial ?_
  refine ev_world (w' := (((((((fw_0.set 82 (ab_ai 0 7 (ab_cp (fun _ => 0) (fun _ => 0) 0 0 7))).set 83 (ab_ai 0 7 (ab_cp (fun _ => 0) (fun _ => 0) 0 0 7))).set 84 (ab_ai 0 7 (ab_cp (fun _ => 0) (fun _ => 0) 0 0 7))).set 85 (ab_ai 0 35 (ab_cp (fun _ => 0) (fun _ => 0) 0 0 35))).set 86 (ab_al 24 (ab_cp (fun _ => 0) (fun _ => 0) 0 0 24))).set 87 (ab_ai 0 24 (ab_cp (fun _ => 0) (fun _ => 0) 0 0 24))).set 88 (ab_ai 0 12 (ab_cp (fun _ => 0) (fun _ => 0) 0 0 12)))) rfl ?_
  refine ev_aload_n de_Di_copyFrom_8 rfl rfl ?_
  refine ev_getfield de_Di_copyFrom_9 rfl fl_Di_9 rfl ?_
  refine ev_iconst de_Di_copyFrom_12 ?_
  refine ev_aload_n de_Di_copyFrom_13 rfl rfl ?_
  refine ev_getfield de_Di_copyFrom_14 rfl fl_Di_9 rfl ?_
  refine ev_iconst de_Di_copyFrom_17 ?_
  refine ev_bipush de_Di_copyFrom_18 rfl ?_
  refine ev_copyi (t := 0) de_Di_copyFrom_20 ck_Di_28 (by decide) rfl rfl (by decide) (by decide) (Or.inl rfl) (Nat.le_of_ble_eq_true rfl) (by decide) ?_
  refine ev_world (w' := ((((((((fw_0.set 82 (ab_ai 0 7 (ab_cp (fun _ => 0) (fun _ => 0) 0 0 7))).set 83 (ab_ai 0 7 (ab_cp (fun _ => 0) (fun _ => 0) 0 0 7))).set 84 (ab_ai 0 7 (ab_cp (fun _ => 0) (fun _ => 0) 0 0 7))).set 85 (ab_ai 0 35 (ab_cp (fun _ => 0) (fun _ => 0) 0 0 35))).set 86 (ab_al 24 (ab_cp (fun _ => 0) (fun _ => 0) 0 0 24))).set 87 (ab_ai 0 24 (ab_cp (fun _ => 0) (fun _ => 0) 0 0 24))).set 88 (ab_ai 0 12 (ab_cp (fun _ => 0) (fun _ => 0) 0 0 12))).set 90 (ab_ai 0 10 (ab_cp (fun _ => 0) (fun _ => 0) 0 0 10)))) rfl ?_
  refine ev_aload_n de_Di_copyFrom_23 rfl rfl ?_
  refine ev_getfield de_Di_copyFrom_24 rfl fl_Di_15 rfl ?_
  refine ev_iconst de_Di_copyFrom_27 ?_
  refine ev_aload_n de_Di_copyFrom_28 rfl rfl ?_
  refine ev_getfield de_Di_copyFrom_29 rfl fl_Di_15 rfl ?_
  refine ev_iconst de_Di_copyFrom_32 ?_
  refine ev_bipush de_Di_copyFrom_33 rfl ?_
  refine ev_copyi (t := 0) de_Di_copyFrom_35 ck_Di_28 (by decide) rfl rfl (by decide) (by decide) (Or.inl rfl) (Nat.le_of_ble_eq_true rfl) (by decide) ?_
  refine ev_world (w' := (((((((((fw_0.set 82 (ab_ai 0 7 (ab_cp (fun _ => 0) (fun _ => 0) 0 0 7))).set 83 (ab_ai 0 7 (ab_cp (fun _ => 0) (fun _ => 0) 0 0 7))).set 84 (ab_ai 0 7 (ab_cp (fun _ => 0) (fun _ => 0) 0 0 7))).set 85 (ab_ai 0 35 (ab_cp (fun _ => 0) (fun _ => 0) 0 0 35))).set 86 (ab_al 24 (ab_cp (fun _ => 0) (fun _ => 0) 0 0 24))).set 87 (ab_ai 0 24 (ab_cp (fun _ => 0) (fun _ => 0) 0 0 24))).set 88 (ab_ai 0 12 (ab_cp (fun _ => 0) (fun _ => 0) 0 0 12))).set 90 (ab_ai 0 10 (ab_cp (fun _ => 0) (fun _ => 0) 0 0 10))).set 91 (ab_ai 0 10 (ab_cp (fun _ => 0) (fun _ => 0) 0 0 10)))) rfl ?_
  refine ev_aload_n de_Di_copyFrom_38 rfl rfl ?_
  refine ev_getfield de_Di_copyFrom_39 rfl fl_Di_18 rfl ?_
  refine ev_iconst de_Di_copyFrom_42 ?_
  refine ev_aload_n de_Di_copyFrom_43 rfl rfl ?_
  refine ev_getfield de_Di_copyFrom_44 rfl fl_Di_18 rfl ?_
  refine ev_iconst de_Di_copyFrom_47 ?_
  refine ev_bipush de_Di_copyFrom_48 rfl ?_
  refine ev_copyi (t := 0) de_Di_copyFrom_50 ck_Di_28 (by decide) rfl rfl (by decide) (by decide) (Or.inl rfl) (Nat.le_of_ble_eq_true rfl) (by decide) ?_
  refine ev_world (w' := ((((((((((fw_0.set 82 (ab_ai 0 7 (ab_cp (fun _ => 0) (fun _ => 0) 0 0 7))).set 83 (ab_ai 0 7 (ab_cp (fun _ => 0) (fun _ => 0) 0 0 7))).set 84 (ab_ai 0 7 (ab_cp (fun _ => 0) (fun _ => 0) 0 0 7))).set 85 (ab_ai 0 35 (ab_cp (fun _ => 0) (fun _ => 0) 0 0 35))).set 86 (ab_al 24 (ab_cp (fun _ => 0) (fun _ => 0) 0 0 24))).set 87 (ab_ai 0 24 (ab_cp (fun _ => 0) (fun _ => 0) 0 0 24))).set 88 (ab_ai 0 12 (ab_cp (fun _ => 0) (fun _ => 0) 0 0 12))).set 90 (ab_ai 0 10 (ab_cp (fun _ => 0) (fun _ => 0) 0 0 10))).set 91 (ab_ai 0 10 (ab_cp (fun _ => 0) (fun _ => 0) 0 0 10))).set 92 (ab_ai 0 10 (ab_cp (fun _ => 0) (fun _ => 0) 0 0 10)))) rfl ?_
  refine ev_aload_n de_Di_copyFrom_53 rfl rfl ?_
  refine ev_getfield de_Di_copyFrom_54 rfl fl_Di_21 rfl ?_
  refine ev_iconst de_Di_copyFrom_57 ?_
  refine ev_aload_n de_Di_copyFrom_58 rfl rfl ?_
  refine ev_getfield de_Di_copyFrom_59 rfl fl_Di_21 rfl ?_
  refine ev_iconst de_Di_copyFrom_62 ?_
  refine ev_bipush de_Di_copyFrom_63 rfl ?_
  refine ev_copyi (t := 0) de_Di_copyFrom_65 ck_Di_28 (by decide) rfl rfl (by decide) (by decide) (Or.inl rfl) (Nat.le_of_ble_eq_true rfl) (by decide) ?_
  refine ev_world (w' := (((((((((((fw_0.set 82 (ab_ai 0 7 (ab_cp (fun _ => 0) (fun _ => 0) 0 0 7))).set 83 (ab_ai 0 7 (ab_cp (fun _ => 0) (fun _ => 0) 0 0 7))).set 84 (ab_ai 0 7 (ab_cp (fun _ => 0) (fun _ => 0) 0 0 7))).set 85 (ab_ai 0 35 (ab_cp (fun _ => 0) (fun _ => 0) 0 0 35))).set 86 (ab_al 24 (ab_cp (fun _ => 0) (fun _ => 0) 0 0 24))).set 87 (ab_ai 0 24 (ab_cp (fun _ => 0) (fun _ => 0) 0 0 24))).set 88 (ab_ai 0 12 (ab_cp (fun _ => 0) (fun _ => 0) 0 0 12))).set 90 (ab_ai 0 10 (ab_cp (fun _ => 0) (fun _ => 0) 0 0 10))).set 91 (ab_ai 0 10 (ab_cp (fun _ => 0) (fun _ => 0) 0 0 10))).set 92 (ab_ai 0 10 (ab_cp (fun _ => 0) (fun _ => 0) 0 0 10))).set 93 (ab_ai 0 10 (ab_cp (fun _ => 0) (fun _ => 0) 0 0 10)))) rfl ?_
  exact ev_return de_Di_copyFrom_68 rfl ⟨rfl, rfl⟩
set_option maxHeartbeats 4000000 in
set_option maxRecDepth 20000 in
theorem fx_161  : ab_Mt g_G g_rs mt_Ri_copyFrom 2 0 0 [ab_R (81), ab_R (3)] fw_0 (ab_is none (((((((((((fw_0.set 82 (ab_ai 0 7 (ab_cp (fun _ => 0) (fun _ => 0) 0 0 7))).set 83 (ab_ai 0 7 (ab_cp (fun _ => 0) (fun _ => 0) 0 0 7))).set 84 (ab_ai 0 7 (ab_cp (fun _ => 0) (fun _ => 0) 0 0 7))).set 85 (ab_ai 0 35 (ab_cp (fun _ => 0) (fun _ => 0) 0 0 35))).set 86 (ab_al 24 (ab_cp (fun _ => 0) (fun _ => 0) 0 0 24))).set 87 (ab_ai 0 24 (ab_cp (fun _ => 0) (fun _ => 0) 0 0 24))).set 88 (ab_ai 0 12 (ab_cp (fun _ => 0) (fun _ => 0) 0 0 12))).set 90 (ab_ai 0 10 (ab_cp (fun _ => 0) (fun _ => 0) 0 0 10))).set 91 (ab_ai 0 10 (ab_cp (fun _ => 0) (fun _ => 0) 0 0 10))).set 92 (ab_ai 0 10 (ab_cp (fun _ => 0) (fun _ => 0) 0 0 10))).set 93 (ab_ai 0 10 (ab_cp (fun _ => 0) (fun _ => 0) 0 0 10)))) := by
  refine ab_Mt.of rfl (Nat.le_of_ble_eq_true rfl) ?_
  show ab_Ev g_G g_rs mt_Ri_copyFrom _ _ _ 0 [some (ab_R (81)), some (ab_R (3))] [] _ _
  refine ev_aload_n de_Ri_copyFrom_0 rfl rfl ?_
  refine ev_aload_n de_Ri_copyFrom_1 rfl rfl ?_
  refine ev_getfield de_Ri_copyFrom_2 rfl fl_Ri_41 rfl ?_
  refine ev_putfield de_Ri_copyFrom_5 rfl (fp_Ri_41 _) (Nat.le_of_ble_eq_true rfl) (Or.inl rfl) ?_
  refine ev_world (w' := fw_0) rfl ?_
  refine ev_aload_n de_Ri_copyFrom_8 rfl rfl ?_
  refine ev_aload_n de_Ri_copyFrom_9 rfl rfl ?_
  refine ev_getfield de_Ri_copyFrom_10 rfl fl_Ri_45 rfl ?_
  refine ev_putfield de_Ri_copyFrom_13 rfl (fp_Ri_45 _) (Nat.le_of_ble_eq_true rfl) trivial ?_
  refine ev_world (w' := fw_0) rfl ?_
  refine ev_aload_n de_Ri_copyFrom_16 rfl rfl ?_
  refine ev_aload_n de_Ri_copyFrom_17 rfl rfl ?_
  refine ev_getfield de_Ri_copyFrom_18 rfl fl_Ri_49 rfl ?_
  refine ev_putfield de_Ri_copyFrom_21 rfl (fp_Ri_49 _) (Nat.le_of_ble_eq_true rfl) trivial ?_
  refine ev_world (w' := fw_0) rfl ?_
  refine ev_aload_n de_Ri_copyFrom_24 rfl rfl ?_
  refine ev_aload_n de_Ri_copyFrom_25 rfl rfl ?_
  refine ev_getfield de_Ri_copyFrom_26 rfl fl_Ri_52 rfl ?_
  refine ev_putfield de_Ri_copyFrom_29 rfl (fp_Ri_52 _) (Nat.le_of_ble_eq_true rfl) trivial ?_
  refine ev_world (w' := fw_0) rfl ?_
  refine ev_aload_n de_Ri_copyFrom_32 rfl rfl ?_
  refine ev_aload_n de_Ri_copyFrom_33 rfl rfl ?_
  refine ev_getfield de_Ri_copyFrom_34 rfl fl_Ri_55 rfl ?_
  refine ev_putfield de_Ri_copyFrom_37 rfl (fp_Ri_55 _) (Nat.le_of_ble_eq_true rfl) (Or.inl rfl) ?_
  refine ev_world (w' := fw_0) rfl ?_
  refine ev_aload_n de_Ri_copyFrom_40 rfl rfl ?_
  refine ev_aload_n de_Ri_copyFrom_41 rfl rfl ?_
  refine ev_getfield de_Ri_copyFrom_42 rfl fl_Ri_58 rfl ?_
  refine ev_putfield de_Ri_copyFrom_45 rfl (fp_Ri_58 _) (Nat.le_of_ble_eq_true rfl) trivial ?_
  refine ev_world (w' := fw_0) rfl ?_
  refine ev_aload_n de_Ri_copyFrom_48 rfl rfl ?_
  refine ev_aload_n de_Ri_copyFrom_49 rfl rfl ?_
  refine ev_getfield de_Ri_copyFrom_50 rfl fl_Ri_61 rfl ?_
  refine ev_putfield de_Ri_copyFrom_53 rfl (fp_Ri_61 _) (Nat.le_of_ble_eq_true rfl) trivial ?_
  refine ev_world (w' := fw_0) rfl ?_
  refine ev_aload_n de_Ri_copyFrom_56 rfl rfl ?_
  refine ev_aload_n de_Ri_copyFrom_57 rfl rfl ?_
  refine ev_getfield de_Ri_copyFrom_58 rfl fl_Ri_64 rfl ?_
  refine ev_putfield de_Ri_copyFrom_61 rfl (fp_Ri_64 _) (Nat.le_of_ble_eq_true rfl) trivial ?_
  refine ev_world (w' := fw_0) rfl ?_
  refine ev_aload_n de_Ri_copyFrom_64 rfl rfl ?_
  refine ev_aload_n de_Ri_copyFrom_65 rfl rfl ?_
  refine ev_getfield de_Ri_copyFrom_66 rfl fl_Ri_67 rfl ?_
  refine ev_putfield de_Ri_copyFrom_69 rfl (fp_Ri_67 _) (Nat.le_of_ble_eq_true rfl) trivial ?_
  refine ev_world (w' := fw_0) rfl ?_
  refine ev_aload_n de_Ri_copyFrom_72 rfl rfl ?_
  refine ev_aload_n de_Ri_copyFrom_73 rfl rfl ?_
  refine ev_getfield de_Ri_copyFrom_74 rfl fl_Ri_70 rfl ?_
  refine ev_putfield de_Ri_copyFrom_77 rfl (fp_Ri_70 _) (Nat.le_of_ble_eq_true rfl) trivial ?_
  refine ev_world (w' := fw_0) rfl ?_
  refine ev_aload_n de_Ri_copyFrom_80 rfl rfl ?_
  refine ev_getfield de_Ri_copyFrom_81 rfl fl_Ri_9 rfl ?_
  refine ev_iconst de_Ri_copyFrom_84 ?_
  refine ev_aload_n de_Ri_copyFrom_85 rfl rfl ?_
  refine ev_getfield de_Ri_copyFrom_86 rfl fl_Ri_9 rfl ?_
  refine ev_iconst de_Ri_copyFrom_89 ?_
  refine ev_bipush de_Ri_copyFrom_90 rfl ?_
  refine ev_copyi (t := 0) de_Ri_copyFrom_92 ck_Ri_85 (by decide) rfl rfl (by decide) (by decide) (Or.inl rfl) (Nat.le_of_ble_eq_true rfl) (by decide) ?_
  refine ev_world (w' := (fw_0.set 82 (ab_ai 0 7 (ab_cp (fun _ => 0) (fun _ => 0) 0 0 7)))) rfl ?_
  refine ev_aload_n de_Ri_copyFrom_95 rfl rfl ?_
  refine ev_getfield de_Ri_copyFrom_96 rfl fl_Ri_15 rfl ?_
  refine ev_iconst de_Ri_copyFrom_99 ?_
  refine ev_aload_n de_Ri_copyFrom_100 rfl rfl ?_
  refine ev_getfield de_Ri_copyFrom_101 rfl fl_Ri_15 rfl ?_
  refine ev_iconst de_Ri_copyFrom_104 ?_
  refine ev_bipush de_Ri_copyFrom_105 rfl ?_
  refine ev_copyi (t := 0) de_Ri_copyFrom_107 ck_Ri_85 (by decide) rfl rfl (by decide) (by decide) (Or.inl rfl) (Nat.le_of_ble_eq_true rfl) (by decide) ?_
  refine ev_world (w' := ((fw_0.set 82 (ab_ai 0 7 (ab_cp (fun _ => 0) (fun _ => 0) 0 0 7))).set 83 (ab_ai 0 7 (ab_cp (fun _ => 0) (fun _ => 0) 0 0 7)))) rfl ?_
  refine ev_aload_n de_Ri_copyFrom_110 rfl rfl ?_
  refine ev_getfield de_Ri_copyFrom_111 rfl fl_Ri_18 rfl ?_
  refine ev_iconst de_Ri_copyFrom_114 ?_
  refine ev_aload_n de_Ri_copyFrom_115 rfl rfl ?_
  refine ev_getfield de_Ri_copyFrom_116 rfl fl_Ri_18 rfl ?_
  refine ev_iconst de_Ri_copyFrom_119 ?_
  refine ev_bipush de_Ri_copyFrom_120 rfl ?_
  refine ev_copyi (t := 0) de_Ri_copyFrom_122 ck_Ri_85 (by decide) rfl rfl (by decide) (by decide) (Or.inl rfl) (Nat.le_of_ble_eq_true rfl) (by decide) ?_
  refine ev_world (w' := (((fw_0.set 82 (ab_ai 0 7 (ab_cp (fun _ => 0) (fun _ => 0) 0 0 7))).set 83 (ab_ai 0 7 (ab_cp (fun _ => 0) (fun _ => 0) 0 0 7))).set 84 (ab_ai 0 7 (ab_cp (fun _ => 0) (fun _ => 0) 0 0 7)))) rfl ?_
  refine ev_aload_n de_Ri_copyFrom_125 rfl rfl ?_
  refine ev_getfield de_Ri_copyFrom_126 rfl fl_Ri_21 rfl ?_
  refine ev_iconst de_Ri_copyFrom_129 ?_
  refine ev_aload_n de_Ri_copyFrom_130 rfl rfl ?_
  refine ev_getfield de_Ri_copyFrom_131 rfl fl_Ri_21 rfl ?_
  refine ev_iconst de_Ri_copyFrom_134 ?_
  refine ev_bipush de_Ri_copyFrom_135 rfl ?_
  refine ev_copyi (t := 0) de_Ri_copyFrom_137 ck_Ri_85 (by decide) rfl rfl (by decide) (by decide) (Or.inl rfl) (Nat.le_of_ble_eq_true rfl) (by decide) ?_
  refine ev_world (w' := ((((fw_0.set 82 (ab_ai 0 7 (ab_cp (fun _ => 0) (fun _ => 0) 0 0 7))).set 83 (ab_ai 0 7 (ab_cp (fun _ => 0) (fun _ => 0) 0 0 7))).set 84 (ab_ai 0 7 (ab_cp (fun _ => 0) (fun _ => 0) 0 0 7))).set 85 (ab_ai 0 35 (ab_cp (fun _ => 0) (fun _ => 0) 0 0 35)))) rfl ?_
  refine ev_aload_n de_Ri_copyFrom_140 rfl rfl ?_
  refine ev_getfield de_Ri_copyFrom_141 rfl fl_Ri_24 rfl ?_
  refine ev_iconst de_Ri_copyFrom_144 ?_
  refine ev_aload_n de_Ri_copyFrom_145 rfl rfl ?_
  refine ev_getfield de_Ri_copyFrom_146 rfl fl_Ri_24 rfl ?_
  refine ev_iconst de_Ri_copyFrom_149 ?_
  refine ev_bipush de_Ri_copyFrom_150 rfl ?_
  refine ev_copyl de_Ri_copyFrom_152 ck_Ri_85 rfl rfl (by decide) (by decide) (Nat.le_of_ble_eq_true rfl) (by decide) ?_
  refine ev_world (w' := (((((fw_0.set 82 (ab_ai 0 7 (ab_cp (fun _ => 0) (fun _ => 0) 0 0 7))).set 83 (ab_ai 0 7 (ab_cp (fun _ => 0) (fun _ => 0) 0 0 7))).set 84 (ab_ai 0 7 (ab_cp (fun _ => 0) (fun _ => 0) 0 0 7))).set 85 (ab_ai 0 35 (ab_cp (fun _ => 0) (fun _ => 0) 0 0 35))).set 86 (ab_al 24 (ab_cp (fun _ => 0) (fun _ => 0) 0 0 24)))) rfl ?_
  refine ev_aload_n de_Ri_copyFrom_155 rfl rfl ?_
  refine ev_getfield de_Ri_copyFrom_156 rfl fl_Ri_28 rfl ?_
  refine ev_iconst de_Ri_copyFrom_159 ?_
  refine ev_aload_n de_Ri_copyFrom_160 rfl rfl ?_
  refine ev_getfield de_Ri_copyFrom_161 rfl fl_Ri_28 rfl ?_
  refine ev_iconst de_Ri_copyFrom_164 ?_
  refine ev_bipush de_Ri_copyFrom_165 rfl ?_
  refine ev_copyi (t := 0) de_Ri_copyFrom_167 ck_Ri_85 (by decide) rfl rfl (by decide) (by decide) (Or.inl rfl) (Nat.le_of_ble_eq_true rfl) (by decide) ?_
  refine ev_world (w' := ((((((fw_0.set 82 (ab_ai 0 7 (ab_cp (fun _ => 0) (fun _ => 0) 0 0 7))).set 83 (ab_ai 0 7 (ab_cp (fun _ => 0) (fun _ => 0) 0 0 7))).set 84 (ab_ai 0 7 (ab_cp (fun _ => 0) (fun _ => 0) 0 0 7))).set 85 (ab_ai 0 35 (ab_cp (fun _ => 0) (fun _ => 0) 0 0 35))).set 86 (ab_al 24 (ab_cp (fun _ => 0) (fun _ => 0) 0 0 24))).set 87 (ab_ai 0 24 (ab_cp (fun _ => 0) (fun _ => 0) 0 0 24)))) rfl ?_
  refine ev_aload_n de_Ri_copyFrom_170 rfl rfl ?_
  refine ev_getfield de_Ri_copyFrom_171 rfl fl_Ri_31 rfl ?_
  refine ev_iconst de_Ri_copyFrom_174 ?_
  refine ev_aload_n de_Ri_copyFrom_175 rfl rfl ?_
  refine ev_getfield de_Ri_copyFrom_176 rfl fl_Ri_31 rfl ?_
  refine ev_iconst de_Ri_copyFrom_179 ?_
  refine ev_bipush de_Ri_copyFrom_180 rfl ?_
  refine ev_copyi (t := 0) de_Ri_copyFrom_182 ck_Ri_85 (by decide) rfl rfl (by decide) (by decide) (Or.inl rfl) (Nat.le_of_ble_eq_true rfl) (by decide) ?_
  refine ev_world (w' := (((((((fw_0.set 82 (ab_ai 0 7 (ab_cp (fun _ => 0) (fun _ => 0) 0 0 7))).set 83 (ab_ai 0 7 (ab_cp (fun _ => 0) (fun _ => 0) 0 0 7))).set 84 (ab_ai 0 7 (ab_cp (fun _ => 0) (fun _ => 0) 0 0 7))).set 85 (ab_ai 0 35 (ab_cp (fun _ => 0) (fun _ => 0) 0 0 35))).set 86 (ab_al 24 (ab_cp (fun _ => 0) (fun _ => 0) 0 0 24))).set 87 (ab_ai 0 24 (ab_cp (fun _ => 0) (fun _ => 0) 0 0 24))).set 88 (ab_ai 0 12 (ab_cp (fun _ => 0) (fun _ => 0) 0 0 12)))) rfl ?_
  refine ev_aload_n de_Ri_copyFrom_185 rfl rfl ?_
  refine ev_getfield de_Ri_copyFrom_186 rfl fl_Ri_37 rfl ?_
  refine ev_aload_n de_Ri_copyFrom_189 rfl rfl ?_
  refine ev_getfield de_Ri_copyFrom_190 rfl fl_Ri_37 rfl ?_
  refine ev_vn (ci := 1) de_Ri_copyFrom_193 fx_162 kb_Ri_91 ⟨im_Di_copyFrom, se_Di_copyFrom⟩ rfl rfl rfl (Nat.le_of_ble_eq_true rfl) (by decide) rfl ?_
  exact ev_return de_Ri_copyFrom_196 rfl ⟨rfl, rfl⟩
set_option maxHeartbeats 4000000 in
set_option maxRecDepth 20000 in
theorem xx_image_2  : ab_Mt g_G g_rs mt_Tu_image 3 0 0 [ab_R (0), ab_I (2)] fw_0 (ab_is (some (ab_I (0))) ((((((((((((fw_0.set 30 (ab_ai 2 4 (ab_up (fun _ => 0) (2) (1)))).set 82 (ab_ai 0 7 (ab_cp (fun _ => 0) (fun _ => 0) 0 0 7))).set 83 (ab_ai 0 7 (ab_cp (fun _ => 0) (fun _ => 0) 0 0 7))).set 84 (ab_ai 0 7 (ab_cp (fun _ => 0) (fun _ => 0) 0 0 7))).set 85 (ab_ai 0 35 (ab_cp (fun _ => 0) (fun _ => 0) 0 0 35))).set 86 (ab_al 24 (ab_cp (fun _ => 0) (fun _ => 0) 0 0 24))).set 87 (ab_ai 0 24 (ab_cp (fun _ => 0) (fun _ => 0) 0 0 24))).set 88 (ab_ai 0 12 (ab_cp (fun _ => 0) (fun _ => 0) 0 0 12))).set 90 (ab_ai 0 10 (ab_cp (fun _ => 0) (fun _ => 0) 0 0 10))).set 91 (ab_ai 0 10 (ab_cp (fun _ => 0) (fun _ => 0) 0 0 10))).set 92 (ab_ai 0 10 (ab_cp (fun _ => 0) (fun _ => 0) 0 0 10))).set 93 (ab_ai 0 10 (ab_cp (fun _ => 0) (fun _ => 0) 0 0 10)))) := by
  refine ab_Mt.of rfl (Nat.le_of_ble_eq_true rfl) ?_
  show ab_Ev g_G g_rs mt_Tu_image _ _ _ 0 [some (ab_R (0)), some (ab_I (2))] [] _ _
  refine ev_iload_n de_Tu_image_0 rfl rfl ?_
  refine ev_if_lt (tgt := 9) de_Tu_image_1 (by decide) (by decide) (fun h => absurd h (by decide)) (fun _ => ?_)
  refine ev_iload_n de_Tu_image_4 rfl rfl ?_
  refine ev_iconst de_Tu_image_5 ?_
  refine ev_icmp_lt (tgt := 11) de_Tu_image_6 (by decide) (by decide) (by decide) (fun _ => ?_) (fun h => absurd h (by decide))
  refine ev_aload_n de_Tu_image_11 rfl rfl ?_
  refine ev_getfield de_Tu_image_12 rfl fl_Tu_26 rfl ?_
  refine ev_iload_n de_Tu_image_15 rfl rfl ?_
  refine ev_aaload (t := 0) de_Tu_image_16 rfl rfl (by decide) (by decide) (by decide) rfl ?_
  refine ev_aload_n de_Tu_image_17 rfl rfl ?_
  refine ev_getfield de_Tu_image_18 rfl fl_Tu_19 rfl ?_
  refine ev_vn (ci := 5) de_Tu_image_21 fx_161 kb_Tu_237 ⟨im_Ri_copyFrom, se_Ri_copyFrom⟩ rfl rfl rfl (Nat.le_of_ble_eq_true rfl) (by decide) rfl ?_
  refine ev_aload_n de_Tu_image_24 rfl rfl ?_
  refine ev_getfield de_Tu_image_25 rfl fl_Tu_30 rfl ?_
  refine ev_iload_n de_Tu_image_28 rfl rfl ?_
  refine ev_iconst de_Tu_image_29 ?_
  refine ev_zastore de_Tu_image_30 rfl (by decide) (by decide) (by decide) (by decide) ?_
  refine ev_world (w' := ((((((((((((fw_0.set 30 (ab_ai 2 4 (ab_up (fun _ => 0) (2) (1)))).set 82 (ab_ai 0 7 (ab_cp (fun _ => 0) (fun _ => 0) 0 0 7))).set 83 (ab_ai 0 7 (ab_cp (fun _ => 0) (fun _ => 0) 0 0 7))).set 84 (ab_ai 0 7 (ab_cp (fun _ => 0) (fun _ => 0) 0 0 7))).set 85 (ab_ai 0 35 (ab_cp (fun _ => 0) (fun _ => 0) 0 0 35))).set 86 (ab_al 24 (ab_cp (fun _ => 0) (fun _ => 0) 0 0 24))).set 87 (ab_ai 0 24 (ab_cp (fun _ => 0) (fun _ => 0) 0 0 24))).set 88 (ab_ai 0 12 (ab_cp (fun _ => 0) (fun _ => 0) 0 0 12))).set 90 (ab_ai 0 10 (ab_cp (fun _ => 0) (fun _ => 0) 0 0 10))).set 91 (ab_ai 0 10 (ab_cp (fun _ => 0) (fun _ => 0) 0 0 10))).set 92 (ab_ai 0 10 (ab_cp (fun _ => 0) (fun _ => 0) 0 0 10))).set 93 (ab_ai 0 10 (ab_cp (fun _ => 0) (fun _ => 0) 0 0 10)))) rfl ?_
  refine ev_aload_n de_Tu_image_31 rfl rfl ?_
  refine ev_getfield de_Tu_image_32 rfl fl_Tu_19 rfl ?_
  refine ev_getfield de_Tu_image_35 rfl fl_Tu_180 rfl ?_
  exact ev_ireturn de_Tu_image_38 rfl ⟨rfl, rfl⟩
set_option maxHeartbeats 4000000 in
set_option maxRecDepth 20000 in
theorem fx_165  : ab_Mt g_G g_rs mt_Di_copyFrom 1 0 0 [ab_R (102), ab_R (11)] (((((((fw_0.set 95 (ab_ai 0 7 (ab_cp (fun _ => 0) (fun _ => 0) 0 0 7))).set 96 (ab_ai 0 7 (ab_cp (fun _ => 0) (fun _ => 0) 0 0 7))).set 97 (ab_ai 0 7 (ab_cp (fun _ => 0) (fun _ => 0) 0 0 7))).set 98 (ab_ai 0 35 (ab_cp (fun _ => 0) (fun _ => 0) 0 0 35))).set 99 (ab_al 24 (ab_cp (fun _ => 0) (fun _ => 0) 0 0 24))).set 100 (ab_ai 0 24 (ab_cp (fun _ => 0) (fun _ => 0) 0 0 24))).set 101 (ab_ai 0 12 (ab_cp (fun _ => 0) (fun _ => 0) 0 0 12))) (ab_is none (((((((((((fw_0.set 95 (ab_ai 0 7 (ab_cp (fun _ => 0) (fun _ => 0) 0 0 7))).set 96 (ab_ai 0 7 (ab_cp (fun _ => 0) (fun _ => 0) 0 0 7))).set 97 (ab_ai 0 7 (ab_cp (fun _ => 0) (fun _ => 0) 0 0 7))).set 98 (ab_ai 0 35 (ab_cp (fun _ => 0) (fun _ => 0) 0 0 35))).set 99 (ab_al 24 (ab_cp (fun _ => 0) (fun _ => 0) 0 0 24))).set 100 (ab_ai 0 24 (ab_cp (fun _ => 0) (fun _ => 0) 0 0 24))).set 101 (ab_ai 0 12 (ab_cp (fun _ => 0) (fun _ => 0) 0 0 12))).set 103 (ab_ai 0 10 (ab_cp (fun _ => 0) (fun _ => 0) 0 0 10))).set 104 (ab_ai 0 10 (ab_cp (fun _ => 0) (fun _ => 0) 0 0 10))).set 105 (ab_ai 0 10 (ab_cp (fun _ => 0) (fun _ => 0) 0 0 10))).set 106 (ab_ai 0 10 (ab_cp (fun _ => 0) (fun _ => 0) 0 0 10)))) := by
  refine ab_Mt.of rfl (Nat.le_of_ble_eq_true rfl) ?_
  show ab_Ev g_G g_rs mt_Di_copyFrom _ _ _ 0 [some (ab_R (102)), some (ab_R (11))] [] _ _
  refine ev_aload_n de_Di_copyFrom_0 rfl rfl ?_
  refine ev_aload_n de_Di_copyFrom_1 rfl rfl ?_
  refine ev_getfield de_Di_copyFrom_2 rfl fl_Di_24 rfl ?_
  refine ev_putfield de_Di_copyFrom_5 rfl (fp_Di_24 _) (Nat.le_of_ble_eq_true rfl) trivial ?_
  refine ev_world (w' := (((((((fw_0.set 95 (ab_ai 0 7 (ab_cp (fun _ => 0) (fun _ => 0) 0 0 7))).set 96 (ab_ai 0 7 (ab_cp (fun _ => 0) (fun _ => 0) 0 0 7))).set 97 (ab_ai 0 7 (ab_cp (fun _ => 0) (fun _ => 0) 0 0 7))).set 98 (ab_ai 0 35 (ab_cp (fun _ => 0) (fun _ => 0) 0 0 35))).set 99 (ab_al 24 (ab_cp (fun _ => 0) (fun _ => 0) 0 0 24))).set 100 (ab_ai 0 24 (ab_cp (fun _ => 0) (fun _ => 0) 0 0 24))).set 101 (ab_ai 0 12 (ab_cp (fun _ => 0) (fun _ => 0) 0 0 12)))) rfl ?_
  refine ev_aload_n de_Di_copyFrom_8 rfl rfl ?_
  refine ev_getfield de_Di_copyFrom_9 rfl fl_Di_9 rfl ?_
  refine ev_iconst de_Di_copyFrom_12 ?_
  refine ev_aload_n de_Di_copyFrom_13 rfl rfl ?_
  refine ev_getfield de_Di_copyFrom_14 rfl fl_Di_9 rfl ?_
  refine ev_iconst de_Di_copyFrom_17 ?_
  refine ev_bipush de_Di_copyFrom_18 rfl ?_
  refine ev_copyi (t := 0) de_Di_copyFrom_20 ck_Di_28 (by decide) rfl rfl (by decide) (by decide) (Or.inl rfl) (Nat.le_of_ble_eq_true rfl) (by decide) ?_
  refine ev_world (w' := ((((((((fw_0.set 95 (ab_ai 0 7 (ab_cp (fun _ => 0) (fun _ => 0) 0 0 7))).set 96 (ab_ai 0 7 (ab_cp (fun _ => 0) (fun _ => 0) 0 0 7))).set 97 (ab_ai 0 7 (ab_cp (fun _ => 0) (fun _ => 0) 0 0 7))).set 98 (ab_ai 0 35 (ab_cp (fun _ => 0) (fun _ => 0) 0 0 35))).set 99 (ab_al 24 (ab_cp (fun _ => 0) (fun _ => 0) 0 0 24))).set 100 (ab_ai 0 24 (ab_cp (fun _ => 0) (fun _ => 0) 0 0 24))).set 101 (ab_ai 0 12 (ab_cp (fun _ => 0) (fun _ => 0) 0 0 12))).set 103 (ab_ai 0 10 (ab_cp (fun _ => 0) (fun _ => 0) 0 0 10)))) rfl ?_
  refine ev_aload_n de_Di_copyFrom_23 rfl rfl ?_
  refine ev_getfield de_Di_copyFrom_24 rfl fl_Di_15 rfl ?_
  refine ev_iconst de_Di_copyFrom_27 ?_
  refine ev_aload_n de_Di_copyFrom_28 rfl rfl ?_
  refine ev_getfield de_Di_copyFrom_29 rfl fl_Di_15 rfl ?_
  refine ev_iconst de_Di_copyFrom_32 ?_
  refine ev_bipush de_Di_copyFrom_33 rfl ?_
  refine ev_copyi (t := 0) de_Di_copyFrom_35 ck_Di_28 (by decide) rfl rfl (by decide) (by decide) (Or.inl rfl) (Nat.le_of_ble_eq_true rfl) (by decide) ?_
  refine ev_world (w' := (((((((((fw_0.set 95 (ab_ai 0 7 (ab_cp (fun _ => 0) (fun _ => 0) 0 0 7))).set 96 (ab_ai 0 7 (ab_cp (fun _ => 0) (fun _ => 0) 0 0 7))).set 97 (ab_ai 0 7 (ab_cp (fun _ => 0) (fun _ => 0) 0 0 7))).set 98 (ab_ai 0 35 (ab_cp (fun _ => 0) (fun _ => 0) 0 0 35))).set 99 (ab_al 24 (ab_cp (fun _ => 0) (fun _ => 0) 0 0 24))).set 100 (ab_ai 0 24 (ab_cp (fun _ => 0) (fun _ => 0) 0 0 24))).set 101 (ab_ai 0 12 (ab_cp (fun _ => 0) (fun _ => 0) 0 0 12))).set 103 (ab_ai 0 10 (ab_cp (fun _ => 0) (fun _ => 0) 0 0 10))).set 104 (ab_ai 0 10 (ab_cp (fun _ => 0) (fun _ => 0) 0 0 10)))) rfl ?_
  refine ev_aload_n de_Di_copyFrom_38 rfl rfl ?_
  refine ev_getfield de_Di_copyFrom_39 rfl fl_Di_18 rfl ?_
  refine ev_iconst de_Di_copyFrom_42 ?_
  refine ev_aload_n de_Di_copyFrom_43 rfl rfl ?_
  refine ev_getfield de_Di_copyFrom_44 rfl fl_Di_18 rfl ?_
  refine ev_iconst de_Di_copyFrom_47 ?_
  refine ev_bipush de_Di_copyFrom_48 rfl ?_
  refine ev_copyi (t := 0) de_Di_copyFrom_50 ck_Di_28 (by decide) rfl rfl (by decide) (by decide) (Or.inl rfl) (Nat.le_of_ble_eq_true rfl) (by decide) ?_
  refine ev_world (w' := ((((((((((fw_0.set 95 (ab_ai 0 7 (ab_cp (fun _ => 0) (fun _ => 0) 0 0 7))).set 96 (ab_ai 0 7 (ab_cp (fun _ => 0) (fun _ => 0) 0 0 7))).set 97 (ab_ai 0 7 (ab_cp (fun _ => 0) (fun _ => 0) 0 0 7))).set 98 (ab_ai 0 35 (ab_cp (fun _ => 0) (fun _ => 0) 0 0 35))).set 99 (ab_al 24 (ab_cp (fun _ => 0) (fun _ => 0) 0 0 24))).set 100 (ab_ai 0 24 (ab_cp (fun _ => 0) (fun _ => 0) 0 0 24))).set 101 (ab_ai 0 12 (ab_cp (fun _ => 0) (fun _ => 0) 0 0 12))).set 103 (ab_ai 0 10 (ab_cp (fun _ => 0) (fun _ => 0) 0 0 10))).set 104 (ab_ai 0 10 (ab_cp (fun _ => 0) (fun _ => 0) 0 0 10))).set 105 (ab_ai 0 10 (ab_cp (fun _ => 0) (fun _ => 0) 0 0 10)))) rfl ?_
  refine ev_aload_n de_Di_copyFrom_53 rfl rfl ?_
  refine ev_getfield de_Di_copyFrom_54 rfl fl_Di_21 rfl ?_
  refine ev_iconst de_Di_copyFrom_57 ?_
  refine ev_aload_n de_Di_copyFrom_58 rfl rfl ?_
  refine ev_getfield de_Di_copyFrom_59 rfl fl_Di_21 rfl ?_
  refine ev_iconst de_Di_copyFrom_62 ?_
  refine ev_bipush de_Di_copyFrom_63 rfl ?_
  refine ev_copyi (t := 0) de_Di_copyFrom_65 ck_Di_28 (by decide) rfl rfl (by decide) (by decide) (Or.inl rfl) (Nat.le_of_ble_eq_true rfl) (by decide) ?_
  refine ev_world (w' := (((((((((((fw_0.set 95 (ab_ai 0 7 (ab_cp (fun _ => 0) (fun _ => 0) 0 0 7))).set 96 (ab_ai 0 7 (ab_cp (fun _ => 0) (fun _ => 0) 0 0 7))).set 97 (ab_ai 0 7 (ab_cp (fun _ => 0) (fun _ => 0) 0 0 7))).set 98 (ab_ai 0 35 (ab_cp (fun _ => 0) (fun _ => 0) 0 0 35))).set 99 (ab_al 24 (ab_cp (fun _ => 0) (fun _ => 0) 0 0 24))).set 100 (ab_ai 0 24 (ab_cp (fun _ => 0) (fun _ => 0) 0 0 24))).set 101 (ab_ai 0 12 (ab_cp (fun _ => 0) (fun _ => 0) 0 0 12))).set 103 (ab_ai 0 10 (ab_cp (fun _ => 0) (fun _ => 0) 0 0 10))).set 104 (ab_ai 0 10 (ab_cp (fun _ => 0) (fun _ => 0) 0 0 10))).set 105 (ab_ai 0 10 (ab_cp (fun _ => 0) (fun _ => 0) 0 0 10))).set 106 (ab_ai 0 10 (ab_cp (fun _ => 0) (fun _ => 0) 0 0 10)))) rfl ?_
  exact ev_return de_Di_copyFrom_68 rfl ⟨rfl, rfl⟩
set_option maxHeartbeats 4000000 in
set_option maxRecDepth 20000 in
theorem fx_164  : ab_Mt g_G g_rs mt_Ri_copyFrom 2 0 0 [ab_R (94), ab_R (3)] fw_0 (ab_is none (((((((((((fw_0.set 95 (ab_ai 0 7 (ab_cp (fun _ => 0) (fun _ => 0) 0 0 7))).set 96 (ab_ai 0 7 (ab_cp (fun _ => 0) (fun _ => 0) 0 0 7))).set 97 (ab_ai 0 7 (ab_cp (fun _ => 0) (fun _ => 0) 0 0 7))).set 98 (ab_ai 0 35 (ab_cp (fun _ => 0) (fun _ => 0) 0 0 35))).set 99 (ab_al 24 (ab_cp (fun _ => 0) (fun _ => 0) 0 0 24))).set 100 (ab_ai 0 24 (ab_cp (fun _ => 0) (fun _ => 0) 0 0 24))).set 101 (ab_ai 0 12 (ab_cp (fun _ => 0) (fun _ => 0) 0 0 12))).set 103 (ab_ai 0 10 (ab_cp (fun _ => 0) (fun _ => 0) 0 0 10))).set 104 (ab_ai 0 10 (ab_cp (fun _ => 0) (fun _ => 0) 0 0 10))).set 105 (ab_ai 0 10 (ab_cp (fun _ => 0) (fun _ => 0) 0 0 10))).set 106 (ab_ai 0 10 (ab_cp (fun _ => 0) (fun _ => 0) 0 0 10)))) := by
  refine ab_Mt.of rfl (Nat.le_of_ble_eq_true rfl) ?_
  show ab_Ev g_G g_rs mt_Ri_copyFrom _ _ _ 0 [some (ab_R (94)), some (ab_R (3))] [] _ _
  refine ev_aload_n de_Ri_copyFrom_0 rfl rfl ?_
  refine ev_aload_n de_Ri_copyFrom_1 rfl rfl ?_
  refine ev_getfield de_Ri_copyFrom_2 rfl fl_Ri_41 rfl ?_
  refine ev_putfield de_Ri_copyFrom_5 rfl (fp_Ri_41 _) (Nat.le_of_ble_eq_true rfl) (Or.inl rfl) ?_
  refine ev_world (w' := fw_0) rfl ?_
  refine ev_aload_n de_Ri_copyFrom_8 rfl rfl ?_
  refine ev_aload_n de_Ri_copyFrom_9 rfl rfl ?_
  refine ev_getfield de_Ri_copyFrom_10 rfl fl_Ri_45 rfl ?_
  refine ev_putfield de_Ri_copyFrom_13 rfl (fp_Ri_45 _) (Nat.le_of_ble_eq_true rfl) trivial ?_
  refine ev_world (w' := fw_0) rfl ?_
  refine ev_aload_n de_Ri_copyFrom_16 rfl rfl ?_
  refine ev_aload_n de_Ri_copyFrom_17 rfl rfl ?_
  refine ev_getfield de_Ri_copyFrom_18 rfl fl_Ri_49 rfl ?_
  refine ev_putfield de_Ri_copyFrom_21 rfl (fp_Ri_49 _) (Nat.le_of_ble_eq_true rfl) trivial ?_
  refine ev_world (w' := fw_0) rfl ?_
  refine ev_aload_n de_Ri_copyFrom_24 rfl rfl ?_
  refine ev_aload_n de_Ri_copyFrom_25 rfl rfl ?_
  refine ev_getfield de_Ri_copyFrom_26 rfl fl_Ri_52 rfl ?_
  refine ev_putfield de_Ri_copyFrom_29 rfl (fp_Ri_52 _) (Nat.le_of_ble_eq_true rfl) trivial ?_
  refine ev_world (w' := fw_0) rfl ?_
  refine ev_aload_n de_Ri_copyFrom_32 rfl rfl ?_
  refine ev_aload_n de_Ri_copyFrom_33 rfl rfl ?_
  refine ev_getfield de_Ri_copyFrom_34 rfl fl_Ri_55 rfl ?_
  refine ev_putfield de_Ri_copyFrom_37 rfl (fp_Ri_55 _) (Nat.le_of_ble_eq_true rfl) (Or.inl rfl) ?_
  refine ev_world (w' := fw_0) rfl ?_
  refine ev_aload_n de_Ri_copyFrom_40 rfl rfl ?_
  refine ev_aload_n de_Ri_copyFrom_41 rfl rfl ?_
  refine ev_getfield de_Ri_copyFrom_42 rfl fl_Ri_58 rfl ?_
  refine ev_putfield de_Ri_copyFrom_45 rfl (fp_Ri_58 _) (Nat.le_of_ble_eq_true rfl) trivial ?_
  refine ev_world (w' := fw_0) rfl ?_
  refine ev_aload_n de_Ri_copyFrom_48 rfl rfl ?_
  refine ev_aload_n de_Ri_copyFrom_49 rfl rfl ?_
  refine ev_getfield de_Ri_copyFrom_50 rfl fl_Ri_61 rfl ?_
  refine ev_putfield de_Ri_copyFrom_53 rfl (fp_Ri_61 _) (Nat.le_of_ble_eq_true rfl) trivial ?_
  refine ev_world (w' := fw_0) rfl ?_
  refine ev_aload_n de_Ri_copyFrom_56 rfl rfl ?_
  refine ev_aload_n de_Ri_copyFrom_57 rfl rfl ?_
  refine ev_getfield de_Ri_copyFrom_58 rfl fl_Ri_64 rfl ?_
  refine ev_putfield de_Ri_copyFrom_61 rfl (fp_Ri_64 _) (Nat.le_of_ble_eq_true rfl) trivial ?_
  refine ev_world (w' := fw_0) rfl ?_
  refine ev_aload_n de_Ri_copyFrom_64 rfl rfl ?_
  refine ev_aload_n de_Ri_copyFrom_65 rfl rfl ?_
  refine ev_getfield de_Ri_copyFrom_66 rfl fl_Ri_67 rfl ?_
  refine ev_putfield de_Ri_copyFrom_69 rfl (fp_Ri_67 _) (Nat.le_of_ble_eq_true rfl) trivial ?_
  refine ev_world (w' := fw_0) rfl ?_
  refine ev_aload_n de_Ri_copyFrom_72 rfl rfl ?_
  refine ev_aload_n de_Ri_copyFrom_73 rfl rfl ?_
  refine ev_getfield de_Ri_copyFrom_74 rfl fl_Ri_70 rfl ?_
  refine ev_putfield de_Ri_copyFrom_77 rfl (fp_Ri_70 _) (Nat.le_of_ble_eq_true rfl) trivial ?_
  refine ev_world (w' := fw_0) rfl ?_
  refine ev_aload_n de_Ri_copyFrom_80 rfl rfl ?_
  refine ev_getfield de_Ri_copyFrom_81 rfl fl_Ri_9 rfl ?_
  refine ev_iconst de_Ri_copyFrom_84 ?_
  refine ev_aload_n de_Ri_copyFrom_85 rfl rfl ?_
  refine ev_getfield de_Ri_copyFrom_86 rfl fl_Ri_9 rfl ?_
  refine ev_iconst de_Ri_copyFrom_89 ?_
  refine ev_bipush de_Ri_copyFrom_90 rfl ?_
  refine ev_copyi (t := 0) de_Ri_copyFrom_92 ck_Ri_85 (by decide) rfl rfl (by decide) (by decide) (Or.inl rfl) (Nat.le_of_ble_eq_true rfl) (by decide) ?_
  refine ev_world (w' := (fw_0.set 95 (ab_ai 0 7 (ab_cp (fun _ => 0) (fun _ => 0) 0 0 7)))) rfl ?_
  refine ev_aload_n de_Ri_copyFrom_95 rfl rfl ?_
  refine ev_getfield de_Ri_copyFrom_96 rfl fl_Ri_15 rfl ?_
  refine ev_iconst de_Ri_copyFrom_99 ?_
  refine ev_aload_n de_Ri_copyFrom_100 rfl rfl ?_
  refine ev_getfield de_Ri_copyFrom_101 rfl fl_Ri_15 rfl ?_
  refine ev_iconst de_Ri_copyFrom_104 ?_
  refine ev_bipush de_Ri_copyFrom_105 rfl ?_
  refine ev_copyi (t := 0) de_Ri_copyFrom_107 ck_Ri_85 (by decide) rfl rfl (by decide) (by decide) (Or.inl rfl) (Nat.le_of_ble_eq_true rfl) (by decide) ?_
  refine ev_world (w' := ((fw_0.set 95 (ab_ai 0 7 (ab_cp (fun _ => 0) (fun _ => 0) 0 0 7))).set 96 (ab_ai 0 7 (ab_cp (fun _ => 0) (fun _ => 0) 0 0 7)))) rfl ?_
  refine ev_aload_n de_Ri_copyFrom_110 rfl rfl ?_
  refine ev_getfield de_Ri_copyFrom_111 rfl fl_Ri_18 rfl ?_
  refine ev_iconst de_Ri_copyFrom_114 ?_
  refine ev_aload_n de_Ri_copyFrom_115 rfl rfl ?_
  refine ev_getfield de_Ri_copyFrom_116 rfl fl_Ri_18 rfl ?_
  refine ev_iconst de_Ri_copyFrom_119 ?_
  refine ev_bipush de_Ri_copyFrom_120 rfl ?_
  refine ev_copyi (t := 0) de_Ri_copyFrom_122 ck_Ri_85 (by decide) rfl rfl (by decide) (by decide) (Or.inl rfl) (Nat.le_of_ble_eq_true rfl) (by decide) ?_
  refine ev_world (w' := (((fw_0.set 95 (ab_ai 0 7 (ab_cp (fun _ => 0) (fun _ => 0) 0 0 7))).set 96 (ab_ai 0 7 (ab_cp (fun _ => 0) (fun _ => 0) 0 0 7))).set 97 (ab_ai 0 7 (ab_cp (fun _ => 0) (fun _ => 0) 0 0 7)))) rfl ?_
  refine ev_aload_n de_Ri_copyFrom_125 rfl rfl ?_
  refine ev_getfield de_Ri_copyFrom_126 rfl fl_Ri_21 rfl ?_
  refine ev_iconst de_Ri_copyFrom_129 ?_
  refine ev_aload_n de_Ri_copyFrom_130 rfl rfl ?_
  refine ev_getfield de_Ri_copyFrom_131 rfl fl_Ri_21 rfl ?_
  refine ev_iconst de_Ri_copyFrom_134 ?_
  refine ev_bipush de_Ri_copyFrom_135 rfl ?_
  refine ev_copyi (t := 0) de_Ri_copyFrom_137 ck_Ri_85 (by decide) rfl rfl (by decide) (by decide) (Or.inl rfl) (Nat.le_of_ble_eq_true rfl) (by decide) ?_
  refine ev_world (w' := ((((fw_0.set 95 (ab_ai 0 7 (ab_cp (fun _ => 0) (fun _ => 0) 0 0 7))).set 96 (ab_ai 0 7 (ab_cp (fun _ => 0) (fun _ => 0) 0 0 7))).set 97 (ab_ai 0 7 (ab_cp (fun _ => 0) (fun _ => 0) 0 0 7))).set 98 (ab_ai 0 35 (ab_cp (fun _ => 0) (fun _ => 0) 0 0 35)))) rfl ?_
  refine ev_aload_n de_Ri_copyFrom_140 rfl rfl ?_
  refine ev_getfield de_Ri_copyFrom_141 rfl fl_Ri_24 rfl ?_
  refine ev_iconst de_Ri_copyFrom_144 ?_
  refine ev_aload_n de_Ri_copyFrom_145 rfl rfl ?_
  refine ev_getfield de_Ri_copyFrom_146 rfl fl_Ri_24 rfl ?_
  refine ev_iconst de_Ri_copyFrom_149 ?_
  refine ev_bipush de_Ri_copyFrom_150 rfl ?_
  refine ev_copyl de_Ri_copyFrom_152 ck_Ri_85 rfl rfl (by decide) (by decide) (Nat.le_of_ble_eq_true rfl) (by decide) ?_
  refine ev_world (w' := (((((fw_0.set 95 (ab_ai 0 7 (ab_cp (fun _ => 0) (fun _ => 0) 0 0 7))).set 96 (ab_ai 0 7 (ab_cp (fun _ => 0) (fun _ => 0) 0 0 7))).set 97 (ab_ai 0 7 (ab_cp (fun _ => 0) (fun _ => 0) 0 0 7))).set 98 (ab_ai 0 35 (ab_cp (fun _ => 0) (fun _ => 0) 0 0 35))).set 99 (ab_al 24 (ab_cp (fun _ => 0) (fun _ => 0) 0 0 24)))) rfl ?_
  refine ev_aload_n de_Ri_copyFrom_155 rfl rfl ?_
  refine ev_getfield de_Ri_copyFrom_156 rfl fl_Ri_28 rfl ?_
  refine ev_iconst de_Ri_copyFrom_159 ?_
  refine ev_aload_n de_Ri_copyFrom_160 rfl rfl ?_
  refine ev_getfield de_Ri_copyFrom_161 rfl fl_Ri_28 rfl ?_
  refine ev_iconst de_Ri_copyFrom_164 ?_
  refine ev_bipush de_Ri_copyFrom_165 rfl ?_
  refine ev_copyi (t := 0) de_Ri_copyFrom_167 ck_Ri_85 (by decide) rfl rfl (by decide) (by decide) (Or.inl rfl) (Nat.le_of_ble_eq_true rfl) (by decide) ?_
  refine ev_world (w' := ((((((fw_0.set 95 (ab_ai 0 7 (ab_cp (fun _ => 0) (fun _ => 0) 0 0 7))).set 96 (ab_ai 0 7 (ab_cp (fun _ => 0) (fun _ => 0) 0 0 7))).set 97 (ab_ai 0 7 (ab_cp (fun _ => 0) (fun _ => 0) 0 0 7))).set 98 (ab_ai 0 35 (ab_cp (fun _ => 0) (fun _ => 0) 0 0 35))).set 99 (ab_al 24 (ab_cp (fun _ => 0) (fun _ => 0) 0 0 24))).set 100 (ab_ai 0 24 (ab_cp (fun _ => 0) (fun _ => 0) 0 0 24)))) rfl ?_
  refine ev_aload_n de_Ri_copyFrom_170 rfl rfl ?_
  refine ev_getfield de_Ri_copyFrom_171 rfl fl_Ri_31 rfl ?_
  refine ev_iconst de_Ri_copyFrom_174 ?_
  refine ev_aload_n de_Ri_copyFrom_175 rfl rfl ?_
  refine ev_getfield de_Ri_copyFrom_176 rfl fl_Ri_31 rfl ?_
  refine ev_iconst de_Ri_copyFrom_179 ?_
  refine ev_bipush de_Ri_copyFrom_180 rfl ?_
  refine ev_copyi (t := 0) de_Ri_copyFrom_182 ck_Ri_85 (by decide) rfl rfl (by decide) (by decide) (Or.inl rfl) (Nat.le_of_ble_eq_true rfl) (by decide) ?_
  refine ev_world (w' := (((((((fw_0.set 95 (ab_ai 0 7 (ab_cp (fun _ => 0) (fun _ => 0) 0 0 7))).set 96 (ab_ai 0 7 (ab_cp (fun _ => 0) (fun _ => 0) 0 0 7))).set 97 (ab_ai 0 7 (ab_cp (fun _ => 0) (fun _ => 0) 0 0 7))).set 98 (ab_ai 0 35 (ab_cp (fun _ => 0) (fun _ => 0) 0 0 35))).set 99 (ab_al 24 (ab_cp (fun _ => 0) (fun _ => 0) 0 0 24))).set 100 (ab_ai 0 24 (ab_cp (fun _ => 0) (fun _ => 0) 0 0 24))).set 101 (ab_ai 0 12 (ab_cp (fun _ => 0) (fun _ => 0) 0 0 12)))) rfl ?_
  refine ev_aload_n de_Ri_copyFrom_185 rfl rfl ?_
  refine ev_getfield de_Ri_copyFrom_186 rfl fl_Ri_37 rfl ?_
  refine ev_aload_n de_Ri_copyFrom_189 rfl rfl ?_
  refine ev_getfield de_Ri_copyFrom_190 rfl fl_Ri_37 rfl ?_
  refine ev_vn (ci := 1) de_Ri_copyFrom_193 fx_165 kb_Ri_91 ⟨im_Di_copyFrom, se_Di_copyFrom⟩ rfl rfl rfl (Nat.le_of_ble_eq_true rfl) (by decide) rfl ?_
  exact ev_return de_Ri_copyFrom_196 rfl ⟨rfl, rfl⟩
set_option maxHeartbeats 4000000 in
set_option maxRecDepth 20000 in
theorem xx_image_3  : ab_Mt g_G g_rs mt_Tu_image 3 0 0 [ab_R (0), ab_I (3)] fw_0 (ab_is (some (ab_I (0))) ((((((((((((fw_0.set 30 (ab_ai 2 4 (ab_up (fun _ => 0) (3) (1)))).set 95 (ab_ai 0 7 (ab_cp (fun _ => 0) (fun _ => 0) 0 0 7))).set 96 (ab_ai 0 7 (ab_cp (fun _ => 0) (fun _ => 0) 0 0 7))).set 97 (ab_ai 0 7 (ab_cp (fun _ => 0) (fun _ => 0) 0 0 7))).set 98 (ab_ai 0 35 (ab_cp (fun _ => 0) (fun _ => 0) 0 0 35))).set 99 (ab_al 24 (ab_cp (fun _ => 0) (fun _ => 0) 0 0 24))).set 100 (ab_ai 0 24 (ab_cp (fun _ => 0) (fun _ => 0) 0 0 24))).set 101 (ab_ai 0 12 (ab_cp (fun _ => 0) (fun _ => 0) 0 0 12))).set 103 (ab_ai 0 10 (ab_cp (fun _ => 0) (fun _ => 0) 0 0 10))).set 104 (ab_ai 0 10 (ab_cp (fun _ => 0) (fun _ => 0) 0 0 10))).set 105 (ab_ai 0 10 (ab_cp (fun _ => 0) (fun _ => 0) 0 0 10))).set 106 (ab_ai 0 10 (ab_cp (fun _ => 0) (fun _ => 0) 0 0 10)))) := by
  refine ab_Mt.of rfl (Nat.le_of_ble_eq_true rfl) ?_
  show ab_Ev g_G g_rs mt_Tu_image _ _ _ 0 [some (ab_R (0)), some (ab_I (3))] [] _ _
  refine ev_iload_n de_Tu_image_0 rfl rfl ?_
  refine ev_if_lt (tgt := 9) de_Tu_image_1 (by decide) (by decide) (fun h => absurd h (by decide)) (fun _ => ?_)
  refine ev_iload_n de_Tu_image_4 rfl rfl ?_
  refine ev_iconst de_Tu_image_5 ?_
  refine ev_icmp_lt (tgt := 11) de_Tu_image_6 (by decide) (by decide) (by decide) (fun _ => ?_) (fun h => absurd h (by decide))
  refine ev_aload_n de_Tu_image_11 rfl rfl ?_
  refine ev_getfield de_Tu_image_12 rfl fl_Tu_26 rfl ?_
  refine ev_iload_n de_Tu_image_15 rfl rfl ?_
  refine ev_aaload (t := 0) de_Tu_image_16 rfl rfl (by decide) (by decide) (by decide) rfl ?_
  refine ev_aload_n de_Tu_image_17 rfl rfl ?_
  refine ev_getfield de_Tu_image_18 rfl fl_Tu_19 rfl ?_
  refine ev_vn (ci := 5) de_Tu_image_21 fx_164 kb_Tu_237 ⟨im_Ri_copyFrom, se_Ri_copyFrom⟩ rfl rfl rfl (Nat.le_of_ble_eq_true rfl) (by decide) rfl ?_
  refine ev_aload_n de_Tu_image_24 rfl rfl ?_
  refine ev_getfield de_Tu_image_25 rfl fl_Tu_30 rfl ?_
  refine ev_iload_n de_Tu_image_28 rfl rfl ?_
  refine ev_iconst de_Tu_image_29 ?_
  refine ev_zastore de_Tu_image_30 rfl (by decide) (by decide) (by decide) (by decide) ?_
  refine ev_world (w' := ((((((((((((fw_0.set 30 (ab_ai 2 4 (ab_up (fun _ => 0) (3) (1)))).set 95 (ab_ai 0 7 (ab_cp (fun _ => 0) (fun _ => 0) 0 0 7))).set 96 (ab_ai 0 7 (ab_cp (fun _ => 0) (fun _ => 0) 0 0 7))).set 97 (ab_ai 0 7 (ab_cp (fun _ => 0) (fun _ => 0) 0 0 7))).set 98 (ab_ai 0 35 (ab_cp (fun _ => 0) (fun _ => 0) 0 0 35))).set 99 (ab_al 24 (ab_cp (fun _ => 0) (fun _ => 0) 0 0 24))).set 100 (ab_ai 0 24 (ab_cp (fun _ => 0) (fun _ => 0) 0 0 24))).set 101 (ab_ai 0 12 (ab_cp (fun _ => 0) (fun _ => 0) 0 0 12))).set 103 (ab_ai 0 10 (ab_cp (fun _ => 0) (fun _ => 0) 0 0 10))).set 104 (ab_ai 0 10 (ab_cp (fun _ => 0) (fun _ => 0) 0 0 10))).set 105 (ab_ai 0 10 (ab_cp (fun _ => 0) (fun _ => 0) 0 0 10))).set 106 (ab_ai 0 10 (ab_cp (fun _ => 0) (fun _ => 0) 0 0 10)))) rfl ?_
  refine ev_aload_n de_Tu_image_31 rfl rfl ?_
  refine ev_getfield de_Tu_image_32 rfl fl_Tu_19 rfl ?_
  refine ev_getfield de_Tu_image_35 rfl fl_Tu_180 rfl ?_
  exact ev_ireturn de_Tu_image_38 rfl ⟨rfl, rfl⟩
theorem de_Tu_image_9 : decode prog_1_method_18_code 9 = .ok (.iconst (-1), 1) := by decide +kernel
theorem de_Tu_image_10 : decode prog_1_method_18_code 10 = .ok (.ireturn, 1) := by decide +kernel
set_option maxHeartbeats 4000000 in
set_option maxRecDepth 20000 in
theorem xx_image_4 (v0 : Int) (hv0 : ab_in v0) (hc0 : (v0 ≤ (-1)) ∨ (4 ≤ v0)) : ab_Mt g_G g_rs mt_Tu_image 1 0 0 [ab_R (0), ab_I (v0)] fw_0 (ab_is (some (ab_I ((-1)))) fw_0) := by
  refine ab_Mt.of rfl (Nat.le_of_ble_eq_true rfl) ?_
  show ab_Ev g_G g_rs mt_Tu_image _ _ _ 0 [some (ab_R (0)), some (ab_I (v0))] [] _ _
  refine ev_iload_n de_Tu_image_0 rfl rfl ?_
  refine ev_if_lt (tgt := 9) de_Tu_image_1 (by decide) (by omega) (fun h1 => ?_) (fun h1 => ?_)
  · skip
    refine ev_iconst de_Tu_image_9 ?_
    exact ev_ireturn de_Tu_image_10 rfl ⟨rfl, rfl⟩
  · skip
    refine ev_iload_n de_Tu_image_4 rfl rfl ?_
    refine ev_iconst de_Tu_image_5 ?_
    refine ev_icmp_lt (tgt := 11) de_Tu_image_6 (by decide) (by omega) (by decide) (fun h => absurd h (by omega)) (fun h6 => ?_)
    refine ev_iconst de_Tu_image_9 ?_
    exact ev_ireturn de_Tu_image_10 rfl ⟨rfl, rfl⟩
theorem de_Mo_image_0 : decode prog_14_method_115_code 0 = .ok (.iload_n 1, 1) := by decide +kernel
theorem de_Mo_image_1 : decode prog_14_method_115_code 1 = .ok (.i2l, 1) := by decide +kernel
theorem de_Mo_image_2 : decode prog_14_method_115_code 2 = .ok (.lconst 0, 1) := by decide +kernel
theorem de_Mo_image_3 : decode prog_14_method_115_code 3 = .ok (.ldc2_w 352, 3) := by decide +kernel
theorem de_Mo_image_6 : decode prog_14_method_115_code 6 = .ok (.invokestatic 115, 3) := by decide +kernel
theorem de_Mo_image_9 : decode prog_14_method_115_code 9 = .ok (.ifCond .ne 5, 3) := by decide +kernel
theorem de_Mo_image_12 : decode prog_14_method_115_code 12 = .ok (.iconst (-1), 1) := by decide +kernel
theorem de_Mo_image_13 : decode prog_14_method_115_code 13 = .ok (.ireturn, 1) := by decide +kernel
set_option maxHeartbeats 4000000 in
set_option maxRecDepth 20000 in
theorem yy_image_4 (v0 : Int) (hv0 : ab_in v0) (hc0 : (v0 ≤ (-1)) ∨ (4 ≤ v0)) : ab_Mt g_G g_rs mt_Mo_image 1 0 0 [ab_R (107), ab_I (v0)] fw_0 (ab_is (some (ab_I ((-1)))) fw_0) := by
  refine ab_Mt.of rfl (Nat.le_of_ble_eq_true rfl) ?_
  show ab_Ev g_G g_rs mt_Mo_image _ _ _ 0 [some (ab_R (107)), some (ab_I (v0)), none] [] _ _
  refine ev_iload_n de_Mo_image_0 rfl rfl ?_
  refine ev_i2l de_Mo_image_1 (by omega) ?_
  refine ev_lconsti (n := 0) de_Mo_image_2 (by decide) ?_
  refine ev_ldc2i (n := 3) de_Mo_image_3 cn_Mo_352 (by decide) ?_
  refine ev_sv de_Mo_image_6 (co_Mo_in _ ((v0)) (0) (3) (by first | decide | omega) (by decide) (by decide)) kb_Mo_115 sc_Mo_in rfl (Nat.le_of_ble_eq_true rfl) (by decide) rfl ?_
  refine ev_top (b := ab_I 0) (congrArg Sum.inl (if_neg (by first | decide | omega))) ?_
  refine ev_if_ne (tgt := 14) de_Mo_image_9 (by decide) (by decide) (fun h => absurd h (by decide)) (fun _ => ?_)
  refine ev_iconst de_Mo_image_12 ?_
  exact ev_ireturn de_Mo_image_13 rfl ⟨rfl, rfl⟩
theorem de_Tu_back_0 : decode prog_1_method_19_code 0 = .ok (.iload_n 1, 1) := by decide +kernel
theorem de_Tu_back_1 : decode prog_1_method_19_code 1 = .ok (.ifCond .lt 17, 3) := by decide +kernel
theorem de_Tu_back_4 : decode prog_1_method_19_code 4 = .ok (.iload_n 1, 1) := by decide +kernel
theorem de_Tu_back_5 : decode prog_1_method_19_code 5 = .ok (.iconst 4, 1) := by decide +kernel
theorem de_Tu_back_6 : decode prog_1_method_19_code 6 = .ok (.if_icmp .ge 12, 3) := by decide +kernel
theorem de_Tu_back_9 : decode prog_1_method_19_code 9 = .ok (.aload_n 0, 1) := by decide +kernel
theorem de_Tu_back_10 : decode prog_1_method_19_code 10 = .ok (.getfield 30, 3) := by decide +kernel
theorem de_Tu_back_13 : decode prog_1_method_19_code 13 = .ok (.iload_n 1, 1) := by decide +kernel
theorem de_Tu_back_14 : decode prog_1_method_19_code 14 = .ok (.baload, 1) := by decide +kernel
theorem de_Tu_back_15 : decode prog_1_method_19_code 15 = .ok (.ifCond .ne 5, 3) := by decide +kernel
theorem de_Tu_back_18 : decode prog_1_method_19_code 18 = .ok (.iconst (-1), 1) := by decide +kernel
theorem de_Tu_back_19 : decode prog_1_method_19_code 19 = .ok (.ireturn, 1) := by decide +kernel
set_option maxHeartbeats 4000000 in
set_option maxRecDepth 20000 in
theorem xx_back_0  : ab_Mt g_G g_rs mt_Tu_back 1 0 0 [ab_R (0), ab_I (0)] fw_0 (ab_is (some (ab_I ((-1)))) fw_0) := by
  refine ab_Mt.of rfl (Nat.le_of_ble_eq_true rfl) ?_
  show ab_Ev g_G g_rs mt_Tu_back _ _ _ 0 [some (ab_R (0)), some (ab_I (0))] [] _ _
  refine ev_iload_n de_Tu_back_0 rfl rfl ?_
  refine ev_if_lt (tgt := 18) de_Tu_back_1 (by decide) (by decide) (fun h => absurd h (by decide)) (fun _ => ?_)
  refine ev_iload_n de_Tu_back_4 rfl rfl ?_
  refine ev_iconst de_Tu_back_5 ?_
  refine ev_icmp_ge (tgt := 18) de_Tu_back_6 (by decide) (by decide) (by decide) (fun h => absurd h (by decide)) (fun _ => ?_)
  refine ev_aload_n de_Tu_back_9 rfl rfl ?_
  refine ev_getfield de_Tu_back_10 rfl fl_Tu_30 rfl ?_
  refine ev_iload_n de_Tu_back_13 rfl rfl ?_
  refine ev_zaload de_Tu_back_14 rfl (by decide) (by decide) (by decide) ?_
  refine ev_top (b := ab_I (0)) rfl ?_
  refine ev_if_ne (tgt := 20) de_Tu_back_15 (by decide) (by decide) (fun h => absurd h (by decide)) (fun _ => ?_)
  refine ev_iconst de_Tu_back_18 ?_
  exact ev_ireturn de_Tu_back_19 rfl ⟨rfl, rfl⟩
theorem de_Mo_back_0 : decode prog_14_method_116_code 0 = .ok (.iload_n 1, 1) := by decide +kernel
theorem de_Mo_back_1 : decode prog_14_method_116_code 1 = .ok (.i2l, 1) := by decide +kernel
theorem de_Mo_back_2 : decode prog_14_method_116_code 2 = .ok (.lconst 0, 1) := by decide +kernel
theorem de_Mo_back_3 : decode prog_14_method_116_code 3 = .ok (.ldc2_w 352, 3) := by decide +kernel
theorem de_Mo_back_6 : decode prog_14_method_116_code 6 = .ok (.invokestatic 115, 3) := by decide +kernel
theorem de_Mo_back_9 : decode prog_14_method_116_code 9 = .ok (.ifCond .eq 12, 3) := by decide +kernel
theorem de_Mo_back_12 : decode prog_14_method_116_code 12 = .ok (.aload_n 0, 1) := by decide +kernel
theorem de_Mo_back_13 : decode prog_14_method_116_code 13 = .ok (.getfield 72, 3) := by decide +kernel
theorem de_Mo_back_16 : decode prog_14_method_116_code 16 = .ok (.iload_n 1, 1) := by decide +kernel
theorem de_Mo_back_17 : decode prog_14_method_116_code 17 = .ok (.baload, 1) := by decide +kernel
theorem de_Mo_back_18 : decode prog_14_method_116_code 18 = .ok (.ifCond .ne 5, 3) := by decide +kernel
theorem de_Mo_back_21 : decode prog_14_method_116_code 21 = .ok (.iconst (-1), 1) := by decide +kernel
theorem de_Mo_back_22 : decode prog_14_method_116_code 22 = .ok (.ireturn, 1) := by decide +kernel
set_option maxHeartbeats 4000000 in
set_option maxRecDepth 20000 in
theorem yy_back_0  : ab_Mt g_G g_rs mt_Mo_back 1 0 0 [ab_R (107), ab_I (0)] fw_0 (ab_is (some (ab_I ((-1)))) fw_0) := by
  refine ab_Mt.of rfl (Nat.le_of_ble_eq_true rfl) ?_
  show ab_Ev g_G g_rs mt_Mo_back _ _ _ 0 [some (ab_R (107)), some (ab_I (0)), none] [] _ _
  refine ev_iload_n de_Mo_back_0 rfl rfl ?_
  refine ev_i2l de_Mo_back_1 (by decide) ?_
  refine ev_lconsti (n := 0) de_Mo_back_2 (by decide) ?_
  refine ev_ldc2i (n := 3) de_Mo_back_3 cn_Mo_352 (by decide) ?_
  refine ev_sv de_Mo_back_6 (co_Mo_in _ ((0)) (0) (3) (by first | decide | omega) (by decide) (by decide)) kb_Mo_115 sc_Mo_in rfl (Nat.le_of_ble_eq_true rfl) (by decide) rfl ?_
  refine ev_top (b := ab_I 1) (congrArg Sum.inl (if_pos (by first | decide | omega))) ?_
  refine ev_if_eq (tgt := 21) de_Mo_back_9 (by decide) (by decide) (fun h => absurd h (by decide)) (fun _ => ?_)
  refine ev_aload_n de_Mo_back_12 rfl rfl ?_
  refine ev_getfield de_Mo_back_13 rfl fl_Mo_72 rfl ?_
  refine ev_iload_n de_Mo_back_16 rfl rfl ?_
  refine ev_zaload de_Mo_back_17 rfl (by decide) (by decide) (by decide) ?_
  refine ev_top (b := ab_I (0)) rfl ?_
  refine ev_if_ne (tgt := 23) de_Mo_back_18 (by decide) (by decide) (fun h => absurd h (by decide)) (fun _ => ?_)
  refine ev_iconst de_Mo_back_21 ?_
  exact ev_ireturn de_Mo_back_22 rfl ⟨rfl, rfl⟩
set_option maxHeartbeats 4000000 in
set_option maxRecDepth 20000 in
theorem xx_back_1  : ab_Mt g_G g_rs mt_Tu_back 1 0 0 [ab_R (0), ab_I (1)] fw_0 (ab_is (some (ab_I ((-1)))) fw_0) := by
  refine ab_Mt.of rfl (Nat.le_of_ble_eq_true rfl) ?_
  show ab_Ev g_G g_rs mt_Tu_back _ _ _ 0 [some (ab_R (0)), some (ab_I (1))] [] _ _
  refine ev_iload_n de_Tu_back_0 rfl rfl ?_
  refine ev_if_lt (tgt := 18) de_Tu_back_1 (by decide) (by decide) (fun h => absurd h (by decide)) (fun _ => ?_)
  refine ev_iload_n de_Tu_back_4 rfl rfl ?_
  refine ev_iconst de_Tu_back_5 ?_
  refine ev_icmp_ge (tgt := 18) de_Tu_back_6 (by decide) (by decide) (by decide) (fun h => absurd h (by decide)) (fun _ => ?_)
  refine ev_aload_n de_Tu_back_9 rfl rfl ?_
  refine ev_getfield de_Tu_back_10 rfl fl_Tu_30 rfl ?_
  refine ev_iload_n de_Tu_back_13 rfl rfl ?_
  refine ev_zaload de_Tu_back_14 rfl (by decide) (by decide) (by decide) ?_
  refine ev_top (b := ab_I (0)) rfl ?_
  refine ev_if_ne (tgt := 20) de_Tu_back_15 (by decide) (by decide) (fun h => absurd h (by decide)) (fun _ => ?_)
  refine ev_iconst de_Tu_back_18 ?_
  exact ev_ireturn de_Tu_back_19 rfl ⟨rfl, rfl⟩
set_option maxHeartbeats 4000000 in
set_option maxRecDepth 20000 in
theorem yy_back_1  : ab_Mt g_G g_rs mt_Mo_back 1 0 0 [ab_R (107), ab_I (1)] fw_0 (ab_is (some (ab_I ((-1)))) fw_0) := by
  refine ab_Mt.of rfl (Nat.le_of_ble_eq_true rfl) ?_
  show ab_Ev g_G g_rs mt_Mo_back _ _ _ 0 [some (ab_R (107)), some (ab_I (1)), none] [] _ _
  refine ev_iload_n de_Mo_back_0 rfl rfl ?_
  refine ev_i2l de_Mo_back_1 (by decide) ?_
  refine ev_lconsti (n := 0) de_Mo_back_2 (by decide) ?_
  refine ev_ldc2i (n := 3) de_Mo_back_3 cn_Mo_352 (by decide) ?_
  refine ev_sv de_Mo_back_6 (co_Mo_in _ ((1)) (0) (3) (by first | decide | omega) (by decide) (by decide)) kb_Mo_115 sc_Mo_in rfl (Nat.le_of_ble_eq_true rfl) (by decide) rfl ?_
  refine ev_top (b := ab_I 1) (congrArg Sum.inl (if_pos (by first | decide | omega))) ?_
  refine ev_if_eq (tgt := 21) de_Mo_back_9 (by decide) (by decide) (fun h => absurd h (by decide)) (fun _ => ?_)
  refine ev_aload_n de_Mo_back_12 rfl rfl ?_
  refine ev_getfield de_Mo_back_13 rfl fl_Mo_72 rfl ?_
  refine ev_iload_n de_Mo_back_16 rfl rfl ?_
  refine ev_zaload de_Mo_back_17 rfl (by decide) (by decide) (by decide) ?_
  refine ev_top (b := ab_I (0)) rfl ?_
  refine ev_if_ne (tgt := 23) de_Mo_back_18 (by decide) (by decide) (fun h => absurd h (by decide)) (fun _ => ?_)
  refine ev_iconst de_Mo_back_21 ?_
  exact ev_ireturn de_Mo_back_22 rfl ⟨rfl, rfl⟩
set_option maxHeartbeats 4000000 in
set_option maxRecDepth 20000 in
theorem xx_back_2  : ab_Mt g_G g_rs mt_Tu_back 1 0 0 [ab_R (0), ab_I (2)] fw_0 (ab_is (some (ab_I ((-1)))) fw_0) := by
  refine ab_Mt.of rfl (Nat.le_of_ble_eq_true rfl) ?_
  show ab_Ev g_G g_rs mt_Tu_back _ _ _ 0 [some (ab_R (0)), some (ab_I (2))] [] _ _
  refine ev_iload_n de_Tu_back_0 rfl rfl ?_
  refine ev_if_lt (tgt := 18) de_Tu_back_1 (by decide) (by decide) (fun h => absurd h (by decide)) (fun _ => ?_)
  refine ev_iload_n de_Tu_back_4 rfl rfl ?_
  refine ev_iconst de_Tu_back_5 ?_
  refine ev_icmp_ge (tgt := 18) de_Tu_back_6 (by decide) (by decide) (by decide) (fun h => absurd h (by decide)) (fun _ => ?_)
  refine ev_aload_n de_Tu_back_9 rfl rfl ?_
  refine ev_getfield de_Tu_back_10 rfl fl_Tu_30 rfl ?_
  refine ev_iload_n de_Tu_back_13 rfl rfl ?_
  refine ev_zaload de_Tu_back_14 rfl (by decide) (by decide) (by decide) ?_
  refine ev_top (b := ab_I (0)) rfl ?_
  refine ev_if_ne (tgt := 20) de_Tu_back_15 (by decide) (by decide) (fun h => absurd h (by decide)) (fun _ => ?_)
  refine ev_iconst de_Tu_back_18 ?_
  exact ev_ireturn de_Tu_back_19 rfl ⟨rfl, rfl⟩
set_option maxHeartbeats 4000000 in
set_option maxRecDepth 20000 in
theorem yy_back_2  : ab_Mt g_G g_rs mt_Mo_back 1 0 0 [ab_R (107), ab_I (2)] fw_0 (ab_is (some (ab_I ((-1)))) fw_0) := by
  refine ab_Mt.of rfl (Nat.le_of_ble_eq_true rfl) ?_
  show ab_Ev g_G g_rs mt_Mo_back _ _ _ 0 [some (ab_R (107)), some (ab_I (2)), none] [] _ _
  refine ev_iload_n de_Mo_back_0 rfl rfl ?_
  refine ev_i2l de_Mo_back_1 (by decide) ?_
  refine ev_lconsti (n := 0) de_Mo_back_2 (by decide) ?_
  refine ev_ldc2i (n := 3) de_Mo_back_3 cn_Mo_352 (by decide) ?_
  refine ev_sv de_Mo_back_6 (co_Mo_in _ ((2)) (0) (3) (by first | decide | omega) (by decide) (by decide)) kb_Mo_115 sc_Mo_in rfl (Nat.le_of_ble_eq_true rfl) (by decide) rfl ?_
  refine ev_top (b := ab_I 1) (congrArg Sum.inl (if_pos (by first | decide | omega))) ?_
  refine ev_if_eq (tgt := 21) de_Mo_back_9 (by decide) (by decide) (fun h => absurd h (by decide)) (fun _ => ?_)
  refine ev_aload_n de_Mo_back_12 rfl rfl ?_
  refine ev_getfield de_Mo_back_13 rfl fl_Mo_72 rfl ?_
  refine ev_iload_n de_Mo_back_16 rfl rfl ?_
  refine ev_zaload de_Mo_back_17 rfl (by decide) (by decide) (by decide) ?_
  refine ev_top (b := ab_I (0)) rfl ?_
  refine ev_if_ne (tgt := 23) de_Mo_back_18 (by decide) (by decide) (fun h => absurd h (by decide)) (fun _ => ?_)
  refine ev_iconst de_Mo_back_21 ?_
  exact ev_ireturn de_Mo_back_22 rfl ⟨rfl, rfl⟩
set_option maxHeartbeats 4000000 in
set_option maxRecDepth 20000 in
theorem xx_back_3  : ab_Mt g_G g_rs mt_Tu_back 1 0 0 [ab_R (0), ab_I (3)] fw_0 (ab_is (some (ab_I ((-1)))) fw_0) := by
  refine ab_Mt.of rfl (Nat.le_of_ble_eq_true rfl) ?_
  show ab_Ev g_G g_rs mt_Tu_back _ _ _ 0 [some (ab_R (0)), some (ab_I (3))] [] _ _
  refine ev_iload_n de_Tu_back_0 rfl rfl ?_
  refine ev_if_lt (tgt := 18) de_Tu_back_1 (by decide) (by decide) (fun h => absurd h (by decide)) (fun _ => ?_)
  refine ev_iload_n de_Tu_back_4 rfl rfl ?_
  refine ev_iconst de_Tu_back_5 ?_
  refine ev_icmp_ge (tgt := 18) de_Tu_back_6 (by decide) (by decide) (by decide) (fun h => absurd h (by decide)) (fun _ => ?_)
  refine ev_aload_n de_Tu_back_9 rfl rfl ?_
  refine ev_getfield de_Tu_back_10 rfl fl_Tu_30 rfl ?_
  refine ev_iload_n de_Tu_back_13 rfl rfl ?_
  refine ev_zaload de_Tu_back_14 rfl (by decide) (by decide) (by decide) ?_
  refine ev_top (b := ab_I (0)) rfl ?_
  refine ev_if_ne (tgt := 20) de_Tu_back_15 (by decide) (by decide) (fun h => absurd h (by decide)) (fun _ => ?_)
  refine ev_iconst de_Tu_back_18 ?_
  exact ev_ireturn de_Tu_back_19 rfl ⟨rfl, rfl⟩
set_option maxHeartbeats 4000000 in
set_option maxRecDepth 20000 in
theorem yy_back_3  : ab_Mt g_G g_rs mt_Mo_back 1 0 0 [ab_R (107), ab_I (3)] fw_0 (ab_is (some (ab_I ((-1)))) fw_0) := by
  refine ab_Mt.of rfl (Nat.le_of_ble_eq_true rfl) ?_
  show ab_Ev g_G g_rs mt_Mo_back _ _ _ 0 [some (ab_R (107)), some (ab_I (3)), none] [] _ _
  refine ev_iload_n de_Mo_back_0 rfl rfl ?_
  refine ev_i2l de_Mo_back_1 (by decide) ?_
  refine ev_lconsti (n := 0) de_Mo_back_2 (by decide) ?_
  refine ev_ldc2i (n := 3) de_Mo_back_3 cn_Mo_352 (by decide) ?_
  refine ev_sv de_Mo_back_6 (co_Mo_in _ ((3)) (0) (3) (by first | decide | omega) (by decide) (by decide)) kb_Mo_115 sc_Mo_in rfl (Nat.le_of_ble_eq_true rfl) (by decide) rfl ?_
  refine ev_top (b := ab_I 1) (congrArg Sum.inl (if_pos (by first | decide | omega))) ?_
  refine ev_if_eq (tgt := 21) de_Mo_back_9 (by decide) (by decide) (fun h => absurd h (by decide)) (fun _ => ?_)
  refine ev_aload_n de_Mo_back_12 rfl rfl ?_
  refine ev_getfield de_Mo_back_13 rfl fl_Mo_72 rfl ?_
  refine ev_iload_n de_Mo_back_16 rfl rfl ?_
  refine ev_zaload de_Mo_back_17 rfl (by decide) (by decide) (by decide) ?_
  refine ev_top (b := ab_I (0)) rfl ?_
  refine ev_if_ne (tgt := 23) de_Mo_back_18 (by decide) (by decide) (fun h => absurd h (by decide)) (fun _ => ?_)
  refine ev_iconst de_Mo_back_21 ?_
  exact ev_ireturn de_Mo_back_22 rfl ⟨rfl, rfl⟩
set_option maxHeartbeats 4000000 in
set_option maxRecDepth 20000 in
theorem xx_back_4 (v0 : Int) (hv0 : ab_in v0) (hc0 : (v0 ≤ (-1)) ∨ (4 ≤ v0)) : ab_Mt g_G g_rs mt_Tu_back 1 0 0 [ab_R (0), ab_I (v0)] fw_0 (ab_is (some (ab_I ((-1)))) fw_0) := by
  refine ab_Mt.of rfl (Nat.le_of_ble_eq_true rfl) ?_
  show ab_Ev g_G g_rs mt_Tu_back _ _ _ 0 [some (ab_R (0)), some (ab_I (v0))] [] _ _
  refine ev_iload_n de_Tu_back_0 rfl rfl ?_
  refine ev_if_lt (tgt := 18) de_Tu_back_1 (by decide) (by omega) (fun h1 => ?_) (fun h1 => ?_)
  · skip
    refine ev_iconst de_Tu_back_18 ?_
    exact ev_ireturn de_Tu_back_19 rfl ⟨rfl, rfl⟩
  · skip
    refine ev_iload_n de_Tu_back_4 rfl rfl ?_
    refine ev_iconst de_Tu_back_5 ?_
    refine ev_icmp_ge (tgt := 18) de_Tu_back_6 (by decide) (by omega) (by decide) (fun h6 => ?_) (fun h => absurd h (by omega))
    refine ev_iconst de_Tu_back_18 ?_
    exact ev_ireturn de_Tu_back_19 rfl ⟨rfl, rfl⟩
set_option maxHeartbeats 4000000 in
set_option maxRecDepth 20000 in
theorem yy_back_4 (v0 : Int) (hv0 : ab_in v0) (hc0 : (v0 ≤ (-1)) ∨ (4 ≤ v0)) : ab_Mt g_G g_rs mt_Mo_back 1 0 0 [ab_R (107), ab_I (v0)] fw_0 (ab_is (some (ab_I ((-1)))) fw_0) := by
  refine ab_Mt.of rfl (Nat.le_of_ble_eq_true rfl) ?_
  show ab_Ev g_G g_rs mt_Mo_back _ _ _ 0 [some (ab_R (107)), some (ab_I (v0)), none] [] _ _
  refine ev_iload_n de_Mo_back_0 rfl rfl ?_
  refine ev_i2l de_Mo_back_1 (by omega) ?_
  refine ev_lconsti (n := 0) de_Mo_back_2 (by decide) ?_
  refine ev_ldc2i (n := 3) de_Mo_back_3 cn_Mo_352 (by decide) ?_
  refine ev_sv de_Mo_back_6 (co_Mo_in _ ((v0)) (0) (3) (by first | decide | omega) (by decide) (by decide)) kb_Mo_115 sc_Mo_in rfl (Nat.le_of_ble_eq_true rfl) (by decide) rfl ?_
  refine ev_top (b := ab_I 0) (congrArg Sum.inl (if_neg (by first | decide | omega))) ?_
  refine ev_if_eq (tgt := 21) de_Mo_back_9 (by decide) (by decide) (fun _ => ?_) (fun h => absurd h (by decide))
  refine ev_iconst de_Mo_back_21 ?_
  exact ev_ireturn de_Mo_back_22 rfl ⟨rfl, rfl⟩
