theorem dt_Tu_wrapped_0 : decode prog_1_method_43_code 0 = .ok (.iload_n 0, 1) := by decide +kernel
theorem dt_Tu_wrapped_1 : decode prog_1_method_43_code 1 = .ok (.bipush 12, 2) := by decide +kernel
theorem dt_Tu_wrapped_3 : decode prog_1_method_43_code 3 = .ok (.irem, 1) := by decide +kernel
theorem dt_Tu_wrapped_4 : decode prog_1_method_43_code 4 = .ok (.istore_n 1, 1) := by decide +kernel
theorem dt_Tu_wrapped_5 : decode prog_1_method_43_code 5 = .ok (.iload_n 1, 1) := by decide +kernel
theorem dt_Tu_wrapped_6 : decode prog_1_method_43_code 6 = .ok (.ifCond .ge 10, 3) := by decide +kernel
theorem dt_Tu_wrapped_9 : decode prog_1_method_43_code 9 = .ok (.iload_n 1, 1) := by decide +kernel
theorem dt_Tu_wrapped_10 : decode prog_1_method_43_code 10 = .ok (.bipush 12, 2) := by decide +kernel
theorem dt_Tu_wrapped_12 : decode prog_1_method_43_code 12 = .ok (.iadd, 1) := by decide +kernel
theorem dt_Tu_wrapped_13 : decode prog_1_method_43_code 13 = .ok (.goto 4, 3) := by decide +kernel
theorem dt_Tu_wrapped_16 : decode prog_1_method_43_code 16 = .ok (.iload_n 1, 1) := by decide +kernel
theorem dt_Tu_wrapped_17 : decode prog_1_method_43_code 17 = .ok (.ireturn, 1) := by decide +kernel
set_option maxHeartbeats 4000000 in
set_option maxRecDepth 10000 in
theorem tm_Tu_wrapped {N : Nat} {T : Nat → tm_S} {w : ab_W} (hW : tm_W N T w) (a : Int) (l_a : (-2147483648) ≤ a) (u_a : a ≤ 2147483647) : ab_Mt g_G g_rs mt_Tu_wrapped 0 0 0 [ab_I a] w (tm_P w (fun v => 0 ≤ v ∧ v ≤ 11)) := by
  refine ab_Mt.of rfl (Nat.le_of_ble_eq_true rfl) ?_
  show ab_Ev g_G g_rs mt_Tu_wrapped _ _ _ 0 [some (ab_I a), none] [] _ _
  refine ev_iload_n dt_Tu_wrapped_0 rfl rfl ?_
  refine ev_bipush dt_Tu_wrapped_1 rfl ?_
  refine tm_irem dt_Tu_wrapped_3 (by omega) (by omega) (by omega) (fun v1 x1 x2 x3 x4 => ?_)
  have hv1 : (-11) ≤ v1 ∧ v1 ≤ 11 := by omega
  clear x1 x2 x3 x4
  refine ev_istore_n (l' := [_, _]) dt_Tu_wrapped_4 rfl (Nat.le_of_ble_eq_true rfl) rfl ?_
  refine ev_iload_n dt_Tu_wrapped_5 rfl rfl ?_
  refine ev_if_ge (tgt := 16) dt_Tu_wrapped_6 (by decide) (by omega) (fun h2 => ?_) (fun h2 => ?_)
  · skip
    refine ev_iload_n dt_Tu_wrapped_16 rfl rfl ?_
    exact ev_ireturn dt_Tu_wrapped_17 rfl ⟨rfl, _, rfl, by omega⟩
  · skip
    refine ev_iload_n dt_Tu_wrapped_9 rfl rfl ?_
    refine ev_bipush dt_Tu_wrapped_10 rfl ?_
    refine ev_iadd dt_Tu_wrapped_12 ?_
    refine ev_goto (tgt := 17) dt_Tu_wrapped_13 (by decide) ?_
    exact ev_ireturn dt_Tu_wrapped_17 rfl ⟨rfl, _, rfl, by omega⟩
theorem dt_Tu_facedBy_0 : decode prog_1_method_44_code 0 = .ok (.iload_n 0, 1) := by decide +kernel
theorem dt_Tu_facedBy_1 : decode prog_1_method_44_code 1 = .ok (.iload_n 1, 1) := by decide +kernel
theorem dt_Tu_facedBy_2 : decode prog_1_method_44_code 2 = .ok (.iadd, 1) := by decide +kernel
theorem dt_Tu_facedBy_3 : decode prog_1_method_44_code 3 = .ok (.istore_n 2, 1) := by decide +kernel
theorem dt_Tu_facedBy_4 : decode prog_1_method_44_code 4 = .ok (.iload_n 2, 1) := by decide +kernel
theorem dt_Tu_facedBy_5 : decode prog_1_method_44_code 5 = .ok (.bipush 12, 2) := by decide +kernel
theorem dt_Tu_facedBy_7 : decode prog_1_method_44_code 7 = .ok (.if_icmp .ge 7, 3) := by decide +kernel
theorem dt_Tu_facedBy_10 : decode prog_1_method_44_code 10 = .ok (.iload_n 2, 1) := by decide +kernel
theorem dt_Tu_facedBy_11 : decode prog_1_method_44_code 11 = .ok (.goto 7, 3) := by decide +kernel
theorem dt_Tu_facedBy_14 : decode prog_1_method_44_code 14 = .ok (.iload_n 2, 1) := by decide +kernel
theorem dt_Tu_facedBy_15 : decode prog_1_method_44_code 15 = .ok (.bipush 12, 2) := by decide +kernel
theorem dt_Tu_facedBy_17 : decode prog_1_method_44_code 17 = .ok (.isub, 1) := by decide +kernel
theorem dt_Tu_facedBy_18 : decode prog_1_method_44_code 18 = .ok (.ireturn, 1) := by decide +kernel
set_option maxHeartbeats 4000000 in
set_option maxRecDepth 10000 in
theorem tm_Tu_facedBy {N : Nat} {T : Nat → tm_S} {w : ab_W} (hW : tm_W N T w) (a : Int) (l_a : 0 ≤ a) (u_a : a ≤ 11) (b : Int) (l_b : 0 ≤ b) (u_b : b ≤ 11) : ab_Mt g_G g_rs mt_Tu_facedBy 0 0 0 [ab_I a, ab_I b] w (tm_P w (fun v => 0 ≤ v ∧ v ≤ 11)) := by
  refine ab_Mt.of rfl (Nat.le_of_ble_eq_true rfl) ?_
  show ab_Ev g_G g_rs mt_Tu_facedBy _ _ _ 0 [some (ab_I a), some (ab_I b), none] [] _ _
  refine ev_iload_n dt_Tu_facedBy_0 rfl rfl ?_
  refine ev_iload_n dt_Tu_facedBy_1 rfl rfl ?_
  refine ev_iadd dt_Tu_facedBy_2 ?_
  refine ev_istore_n (l' := [_, _, _]) dt_Tu_facedBy_3 rfl (Nat.le_of_ble_eq_true rfl) rfl ?_
  refine ev_iload_n dt_Tu_facedBy_4 rfl rfl ?_
  refine ev_bipush dt_Tu_facedBy_5 rfl ?_
  refine ev_icmp_ge (tgt := 14) dt_Tu_facedBy_7 (by decide) (by omega) (by omega) (fun h3 => ?_) (fun h3 => ?_)
  · skip
    refine ev_iload_n dt_Tu_facedBy_14 rfl rfl ?_
    refine ev_bipush dt_Tu_facedBy_15 rfl ?_
    refine ev_isub dt_Tu_facedBy_17 ?_
    exact ev_ireturn dt_Tu_facedBy_18 rfl ⟨rfl, _, rfl, by omega⟩
  · skip
    refine ev_iload_n dt_Tu_facedBy_10 rfl rfl ?_
    refine ev_goto (tgt := 18) dt_Tu_facedBy_11 (by decide) ?_
    exact ev_ireturn dt_Tu_facedBy_18 rfl ⟨rfl, _, rfl, by omega⟩
theorem dt_Tu_wayBetween_0 : decode prog_1_method_24_code 0 = .ok (.iload_n 0, 1) := by decide +kernel
theorem dt_Tu_wayBetween_1 : decode prog_1_method_24_code 1 = .ok (.iload_n 1, 1) := by decide +kernel
theorem dt_Tu_wayBetween_2 : decode prog_1_method_24_code 2 = .ok (.isub, 1) := by decide +kernel
theorem dt_Tu_wayBetween_3 : decode prog_1_method_24_code 3 = .ok (.invokestatic 259, 3) := by decide +kernel
theorem dt_Tu_wayBetween_6 : decode prog_1_method_24_code 6 = .ok (.istore_n 2, 1) := by decide +kernel
theorem dt_Tu_wayBetween_7 : decode prog_1_method_24_code 7 = .ok (.iload_n 2, 1) := by decide +kernel
theorem dt_Tu_wayBetween_8 : decode prog_1_method_24_code 8 = .ok (.bipush 12, 2) := by decide +kernel
theorem dt_Tu_wayBetween_10 : decode prog_1_method_24_code 10 = .ok (.iload_n 2, 1) := by decide +kernel
theorem dt_Tu_wayBetween_11 : decode prog_1_method_24_code 11 = .ok (.isub, 1) := by decide +kernel
theorem dt_Tu_wayBetween_12 : decode prog_1_method_24_code 12 = .ok (.invokestatic 264, 3) := by decide +kernel
theorem dt_Tu_wayBetween_15 : decode prog_1_method_24_code 15 = .ok (.ireturn, 1) := by decide +kernel
set_option maxHeartbeats 4000000 in
set_option maxRecDepth 10000 in
theorem tm_Tu_wayBetween {N : Nat} {T : Nat → tm_S} {w : ab_W} (hW : tm_W N T w) (a : Int) (l_a : 0 ≤ a) (u_a : a ≤ 11) (b : Int) (l_b : 0 ≤ b) (u_b : b ≤ 11) : ab_Mt g_G g_rs mt_Tu_wayBetween 1 0 0 [ab_I a, ab_I b] w (tm_P w (fun v => 0 ≤ v ∧ v ≤ 11)) := by
  refine ab_Mt.of rfl (Nat.le_of_ble_eq_true rfl) ?_
  show ab_Ev g_G g_rs mt_Tu_wayBetween _ _ _ 0 [some (ab_I a), some (ab_I b), none] [] _ _
  refine ev_iload_n dt_Tu_wayBetween_0 rfl rfl ?_
  refine ev_iload_n dt_Tu_wayBetween_1 rfl rfl ?_
  refine ev_isub dt_Tu_wayBetween_2 ?_
  refine tm_abs (by omega) dt_Tu_wayBetween_3 mk_Tu_259 (Nat.le_of_ble_eq_true rfl) (by decide) (fun v4 x1 x2 => ?_)
  have hv4 : 0 ≤ v4 ∧ v4 ≤ 11 := by omega
  clear x1 x2
  refine ev_istore_n (l' := [_, _, _]) dt_Tu_wayBetween_6 rfl (Nat.le_of_ble_eq_true rfl) rfl ?_
  refine ev_iload_n dt_Tu_wayBetween_7 rfl rfl ?_
  refine ev_bipush dt_Tu_wayBetween_8 rfl ?_
  refine ev_iload_n dt_Tu_wayBetween_10 rfl rfl ?_
  refine ev_isub dt_Tu_wayBetween_11 ?_
  refine tm_min (by omega) (by omega) dt_Tu_wayBetween_12 mk_Tu_264 (Nat.le_of_ble_eq_true rfl) (by decide) (fun v5 x1 x2 x3 => ?_)
  have hv5 : 0 ≤ v5 ∧ v5 ≤ 11 := by omega
  clear x1 x2 x3
  exact ev_ireturn dt_Tu_wayBetween_15 rfl ⟨rfl, _, rfl, by omega⟩
theorem dt_Tu_nextDraw_0 : decode prog_1_method_36_code 0 = .ok (.iload_n 0, 1) := by decide +kernel
theorem dt_Tu_nextDraw_1 : decode prog_1_method_36_code 1 = .ok (.i2l, 1) := by decide +kernel
theorem dt_Tu_nextDraw_2 : decode prog_1_method_36_code 2 = .ok (.ldc2_w 342, 3) := by decide +kernel
theorem dt_Tu_nextDraw_5 : decode prog_1_method_36_code 5 = .ok (.lmul, 1) := by decide +kernel
theorem dt_Tu_nextDraw_6 : decode prog_1_method_36_code 6 = .ok (.ldc2_w 344, 3) := by decide +kernel
theorem dt_Tu_nextDraw_9 : decode prog_1_method_36_code 9 = .ok (.ladd, 1) := by decide +kernel
theorem dt_Tu_nextDraw_10 : decode prog_1_method_36_code 10 = .ok (.ldc2_w 346, 3) := by decide +kernel
theorem dt_Tu_nextDraw_13 : decode prog_1_method_36_code 13 = .ok (.lrem, 1) := by decide +kernel
theorem dt_Tu_nextDraw_14 : decode prog_1_method_36_code 14 = .ok (.l2i, 1) := by decide +kernel
theorem dt_Tu_nextDraw_15 : decode prog_1_method_36_code 15 = .ok (.ireturn, 1) := by decide +kernel
set_option maxHeartbeats 4000000 in
set_option maxRecDepth 10000 in
theorem tm_Tu_nextDraw {N : Nat} {T : Nat → tm_S} {w : ab_W} (hW : tm_W N T w) (a : Int) (l_a : (-2147483648) ≤ a) (u_a : a ≤ 2147483647) : ab_Mt g_G g_rs mt_Tu_nextDraw 0 0 0 [ab_I a] w (tm_P w (fun v => (-2147483648) ≤ v ∧ v ≤ 2147483647)) := by
  refine ab_Mt.of rfl (Nat.le_of_ble_eq_true rfl) ?_
  show ab_Ev g_G g_rs mt_Tu_nextDraw _ _ _ 0 [some (ab_I a)] [] _ _
  refine ev_iload_n dt_Tu_nextDraw_0 rfl rfl ?_
  refine ev_i2l dt_Tu_nextDraw_1 (by omega) ?_
  refine ev_ldc2i (n := 1103515245) dt_Tu_nextDraw_2 cn_Tu_342 (by decide) ?_
  refine ev_lmul dt_Tu_nextDraw_5 ?_
  refine ev_ldc2i (n := 12345) dt_Tu_nextDraw_6 cn_Tu_344 (by decide) ?_
  refine ev_ladd dt_Tu_nextDraw_9 ?_
  refine ev_ldc2i (n := 2147483648) dt_Tu_nextDraw_10 cn_Tu_346 (by decide) ?_
  refine ev_lrem dt_Tu_nextDraw_13 (by first | assumption | decide) ?_
  refine tm_l2i dt_Tu_nextDraw_14 (fun v6 hv6 => ?_)
  exact ev_ireturn dt_Tu_nextDraw_15 rfl ⟨rfl, _, rfl, by omega⟩
theorem dt_Tu_lastHour_0 : decode prog_1_method_42_code 0 = .ok (.sipush 23999, 3) := by decide +kernel
theorem dt_Tu_lastHour_3 : decode prog_1_method_42_code 3 = .ok (.ireturn, 1) := by decide +kernel
set_option maxHeartbeats 4000000 in
set_option maxRecDepth 10000 in
theorem tm_Tu_lastHour {N : Nat} {T : Nat → tm_S} {w : ab_W} (hW : tm_W N T w) : ab_Mt g_G g_rs mt_Tu_lastHour 0 0 0 [] w (tm_P w (fun v => 23999 ≤ v ∧ v ≤ 23999)) := by
  refine ab_Mt.of rfl (Nat.le_of_ble_eq_true rfl) ?_
  show ab_Ev g_G g_rs mt_Tu_lastHour _ _ _ 0 [] [] _ _
  refine ev_sipush dt_Tu_lastHour_0 rfl ?_
  exact ev_ireturn dt_Tu_lastHour_3 rfl ⟨rfl, _, rfl, by omega⟩
theorem dt_Tu_isDirection_0 : decode prog_1_method_39_code 0 = .ok (.iload_n 0, 1) := by decide +kernel
theorem dt_Tu_isDirection_1 : decode prog_1_method_39_code 1 = .ok (.ifCond .lt 13, 3) := by decide +kernel
theorem dt_Tu_isDirection_4 : decode prog_1_method_39_code 4 = .ok (.iload_n 0, 1) := by decide +kernel
theorem dt_Tu_isDirection_5 : decode prog_1_method_39_code 5 = .ok (.bipush 12, 2) := by decide +kernel
theorem dt_Tu_isDirection_7 : decode prog_1_method_39_code 7 = .ok (.if_icmp .ge 7, 3) := by decide +kernel
theorem dt_Tu_isDirection_10 : decode prog_1_method_39_code 10 = .ok (.iconst 1, 1) := by decide +kernel
theorem dt_Tu_isDirection_11 : decode prog_1_method_39_code 11 = .ok (.goto 4, 3) := by decide +kernel
theorem dt_Tu_isDirection_14 : decode prog_1_method_39_code 14 = .ok (.iconst 0, 1) := by decide +kernel
theorem dt_Tu_isDirection_15 : decode prog_1_method_39_code 15 = .ok (.ireturn, 1) := by decide +kernel
set_option maxHeartbeats 4000000 in
set_option maxRecDepth 10000 in
theorem tm_Tu_isDirection {N : Nat} {T : Nat → tm_S} {w : ab_W} (hW : tm_W N T w) (a : Int) (l_a : (-2147483648) ≤ a) (u_a : a ≤ 2147483647) : ab_Mt g_G g_rs mt_Tu_isDirection 0 0 0 [ab_I a] w (tm_P w (fun v => 0 ≤ v ∧ v ≤ 1 ∧ (¬ v = 0 → 0 ≤ a ∧ a ≤ 11))) := by
  refine ab_Mt.of rfl (Nat.le_of_ble_eq_true rfl) ?_
  show ab_Ev g_G g_rs mt_Tu_isDirection _ _ _ 0 [some (ab_I a)] [] _ _
  refine ev_iload_n dt_Tu_isDirection_0 rfl rfl ?_
  refine ev_if_lt (tgt := 14) dt_Tu_isDirection_1 (by decide) (by omega) (fun h7 => ?_) (fun h7 => ?_)
  · skip
    refine ev_iconst dt_Tu_isDirection_14 ?_
    exact ev_zreturn dt_Tu_isDirection_15 rfl (by omega) ⟨rfl, _, rfl, by omega⟩
  · skip
    refine ev_iload_n dt_Tu_isDirection_4 rfl rfl ?_
    refine ev_bipush dt_Tu_isDirection_5 rfl ?_
    refine ev_icmp_ge (tgt := 14) dt_Tu_isDirection_7 (by decide) (by omega) (by omega) (fun h8 => ?_) (fun h8 => ?_)
    · skip
      refine ev_iconst dt_Tu_isDirection_14 ?_
      exact ev_zreturn dt_Tu_isDirection_15 rfl (by omega) ⟨rfl, _, rfl, by omega⟩
    · skip
      refine ev_iconst dt_Tu_isDirection_10 ?_
      refine ev_goto (tgt := 15) dt_Tu_isDirection_11 (by decide) ?_
      exact ev_zreturn dt_Tu_isDirection_15 rfl (by omega) ⟨rfl, _, rfl, by omega⟩
theorem dt_Tu_isHour_0 : decode prog_1_method_40_code 0 = .ok (.iload_n 0, 1) := by decide +kernel
theorem dt_Tu_isHour_1 : decode prog_1_method_40_code 1 = .ok (.ifCond .lt 13, 3) := by decide +kernel
theorem dt_Tu_isHour_4 : decode prog_1_method_40_code 4 = .ok (.iload_n 0, 1) := by decide +kernel
theorem dt_Tu_isHour_5 : decode prog_1_method_40_code 5 = .ok (.bipush 24, 2) := by decide +kernel
theorem dt_Tu_isHour_7 : decode prog_1_method_40_code 7 = .ok (.if_icmp .ge 7, 3) := by decide +kernel
theorem dt_Tu_isHour_10 : decode prog_1_method_40_code 10 = .ok (.iconst 1, 1) := by decide +kernel
theorem dt_Tu_isHour_11 : decode prog_1_method_40_code 11 = .ok (.goto 4, 3) := by decide +kernel
theorem dt_Tu_isHour_14 : decode prog_1_method_40_code 14 = .ok (.iconst 0, 1) := by decide +kernel
theorem dt_Tu_isHour_15 : decode prog_1_method_40_code 15 = .ok (.ireturn, 1) := by decide +kernel
set_option maxHeartbeats 4000000 in
set_option maxRecDepth 10000 in
theorem tm_Tu_isHour {N : Nat} {T : Nat → tm_S} {w : ab_W} (hW : tm_W N T w) (a : Int) (l_a : (-2147483648) ≤ a) (u_a : a ≤ 2147483647) : ab_Mt g_G g_rs mt_Tu_isHour 0 0 0 [ab_I a] w (tm_P w (fun v => 0 ≤ v ∧ v ≤ 1 ∧ (¬ v = 0 → 0 ≤ a ∧ a ≤ 23))) := by
  refine ab_Mt.of rfl (Nat.le_of_ble_eq_true rfl) ?_
  show ab_Ev g_G g_rs mt_Tu_isHour _ _ _ 0 [some (ab_I a)] [] _ _
  refine ev_iload_n dt_Tu_isHour_0 rfl rfl ?_
  refine ev_if_lt (tgt := 14) dt_Tu_isHour_1 (by decide) (by omega) (fun h9 => ?_) (fun h9 => ?_)
  · skip
    refine ev_iconst dt_Tu_isHour_14 ?_
    exact ev_zreturn dt_Tu_isHour_15 rfl (by omega) ⟨rfl, _, rfl, by omega⟩
  · skip
    refine ev_iload_n dt_Tu_isHour_4 rfl rfl ?_
    refine ev_bipush dt_Tu_isHour_5 rfl ?_
    refine ev_icmp_ge (tgt := 14) dt_Tu_isHour_7 (by decide) (by omega) (by omega) (fun h10 => ?_) (fun h10 => ?_)
    · skip
      refine ev_iconst dt_Tu_isHour_14 ?_
      exact ev_zreturn dt_Tu_isHour_15 rfl (by omega) ⟨rfl, _, rfl, by omega⟩
    · skip
      refine ev_iconst dt_Tu_isHour_10 ?_
      refine ev_goto (tgt := 15) dt_Tu_isHour_11 (by decide) ?_
      exact ev_zreturn dt_Tu_isHour_15 rfl (by omega) ⟨rfl, _, rfl, by omega⟩
theorem dt_Tu_isSort_0 : decode prog_1_method_41_code 0 = .ok (.iload_n 0, 1) := by decide +kernel
theorem dt_Tu_isSort_1 : decode prog_1_method_41_code 1 = .ok (.ifCond .lt 12, 3) := by decide +kernel
theorem dt_Tu_isSort_4 : decode prog_1_method_41_code 4 = .ok (.iload_n 0, 1) := by decide +kernel
theorem dt_Tu_isSort_5 : decode prog_1_method_41_code 5 = .ok (.iconst 5, 1) := by decide +kernel
theorem dt_Tu_isSort_6 : decode prog_1_method_41_code 6 = .ok (.if_icmp .ge 7, 3) := by decide +kernel
theorem dt_Tu_isSort_9 : decode prog_1_method_41_code 9 = .ok (.iconst 1, 1) := by decide +kernel
theorem dt_Tu_isSort_10 : decode prog_1_method_41_code 10 = .ok (.goto 4, 3) := by decide +kernel
theorem dt_Tu_isSort_13 : decode prog_1_method_41_code 13 = .ok (.iconst 0, 1) := by decide +kernel
theorem dt_Tu_isSort_14 : decode prog_1_method_41_code 14 = .ok (.ireturn, 1) := by decide +kernel
set_option maxHeartbeats 4000000 in
set_option maxRecDepth 10000 in
theorem tm_Tu_isSort {N : Nat} {T : Nat → tm_S} {w : ab_W} (hW : tm_W N T w) (a : Int) (l_a : (-2147483648) ≤ a) (u_a : a ≤ 2147483647) : ab_Mt g_G g_rs mt_Tu_isSort 0 0 0 [ab_I a] w (tm_P w (fun v => 0 ≤ v ∧ v ≤ 1 ∧ (¬ v = 0 → 0 ≤ a ∧ a ≤ 4))) := by
  refine ab_Mt.of rfl (Nat.le_of_ble_eq_true rfl) ?_
  show ab_Ev g_G g_rs mt_Tu_isSort _ _ _ 0 [some (ab_I a)] [] _ _
  refine ev_iload_n dt_Tu_isSort_0 rfl rfl ?_
  refine ev_if_lt (tgt := 13) dt_Tu_isSort_1 (by decide) (by omega) (fun h11 => ?_) (fun h11 => ?_)
  · skip
    refine ev_iconst dt_Tu_isSort_13 ?_
    exact ev_zreturn dt_Tu_isSort_14 rfl (by omega) ⟨rfl, _, rfl, by omega⟩
  · skip
    refine ev_iload_n dt_Tu_isSort_4 rfl rfl ?_
    refine ev_iconst dt_Tu_isSort_5 ?_
    refine ev_icmp_ge (tgt := 13) dt_Tu_isSort_6 (by decide) (by omega) (by omega) (fun h12 => ?_) (fun h12 => ?_)
    · skip
      refine ev_iconst dt_Tu_isSort_13 ?_
      exact ev_zreturn dt_Tu_isSort_14 rfl (by omega) ⟨rfl, _, rfl, by omega⟩
    · skip
      refine ev_iconst dt_Tu_isSort_9 ?_
      refine ev_goto (tgt := 14) dt_Tu_isSort_10 (by decide) ?_
      exact ev_zreturn dt_Tu_isSort_14 rfl (by omega) ⟨rfl, _, rfl, by omega⟩
theorem dt_Ri_slotTaken_0 : decode prog_7_method_4_code 0 = .ok (.iconst 0, 1) := by decide +kernel
theorem dt_Ri_slotTaken_1 : decode prog_7_method_4_code 1 = .ok (.istore_n 2, 1) := by decide +kernel
theorem dt_Ri_slotTaken_2 : decode prog_7_method_4_code 2 = .ok (.iload_n 2, 1) := by decide +kernel
theorem dt_Ri_slotTaken_3 : decode prog_7_method_4_code 3 = .ok (.aload_n 0, 1) := by decide +kernel
theorem dt_Ri_slotTaken_4 : decode prog_7_method_4_code 4 = .ok (.getfield 64, 3) := by decide +kernel
theorem dt_Ri_slotTaken_7 : decode prog_7_method_4_code 7 = .ok (.if_icmp .ge 21, 3) := by decide +kernel
theorem dt_Ri_slotTaken_10 : decode prog_7_method_4_code 10 = .ok (.aload_n 0, 1) := by decide +kernel
theorem dt_Ri_slotTaken_11 : decode prog_7_method_4_code 11 = .ok (.getfield 9, 3) := by decide +kernel
theorem dt_Ri_slotTaken_14 : decode prog_7_method_4_code 14 = .ok (.iload_n 2, 1) := by decide +kernel
theorem dt_Ri_slotTaken_15 : decode prog_7_method_4_code 15 = .ok (.iaload, 1) := by decide +kernel
theorem dt_Ri_slotTaken_16 : decode prog_7_method_4_code 16 = .ok (.iload_n 1, 1) := by decide +kernel
theorem dt_Ri_slotTaken_17 : decode prog_7_method_4_code 17 = .ok (.if_icmp .ne 5, 3) := by decide +kernel
theorem dt_Ri_slotTaken_20 : decode prog_7_method_4_code 20 = .ok (.iconst 1, 1) := by decide +kernel
theorem dt_Ri_slotTaken_21 : decode prog_7_method_4_code 21 = .ok (.ireturn, 1) := by decide +kernel
theorem dt_Ri_slotTaken_22 : decode prog_7_method_4_code 22 = .ok (.iinc 2 1, 3) := by decide +kernel
theorem dt_Ri_slotTaken_25 : decode prog_7_method_4_code 25 = .ok (.goto (-23), 3) := by decide +kernel
theorem dt_Ri_slotTaken_28 : decode prog_7_method_4_code 28 = .ok (.iconst 0, 1) := by decide +kernel
theorem dt_Ri_slotTaken_29 : decode prog_7_method_4_code 29 = .ok (.ireturn, 1) := by decide +kernel
set_option maxHeartbeats 4000000 in
set_option maxRecDepth 10000 in
theorem tm_Ri_slotTaken {N : Nat} {T : Nat → tm_S} {w : ab_W} {o : Nat} (hW : tm_W N T w) (h_o : is_Ri T o) (a : Int) (l_a : (-2147483648) ≤ a) (u_a : a ≤ 2147483647) : ab_Mt g_G g_rs mt_Ri_slotTaken 0 0 0 [ab_R o, ab_I a] w (tm_P w (fun v => 0 ≤ v ∧ v ≤ 1)) := by
  obtain ⟨ot0, ot1, ot2, ot3, ot4, ot5, ot6, ot7, ot8, ot9, ot10, ot11, ot12⟩ := id h_o
  have od := is_Ri.d h_o
  refine ab_Mt.of rfl (Nat.le_of_ble_eq_true rfl) ?_
  show ab_Ev g_G g_rs mt_Ri_slotTaken _ _ _ 0 [some (ab_R o), some (ab_I a), none] [] _ _
  refine ev_iconst dt_Ri_slotTaken_0 ?_
  refine ev_istore_n (l' := [_, _, _]) dt_Ri_slotTaken_1 rfl (Nat.le_of_ble_eq_true rfl) rfl ?_
  have L13 : ∀ (n : Nat) (i14 : Int) , 0 ≤ i14 → i14 ≤ 7 → 7 - i14 < (n : Int) → ab_Ev g_G g_rs mt_Ri_slotTaken 0 0 0 2 [some (ab_R o), some (ab_I a), some (ab_I i14)] [] w (tm_P w (fun v => 0 ≤ v ∧ v ≤ 1)) := by
    intro n
    induction n with
    | zero =>
      intro i14  li14 ui14 mL13
      exfalso
      omega
    | succ nL13 ihL13 =>
      intro i14  li14 ui14 mL13
      refine ev_iload_n dt_Ri_slotTaken_2 rfl rfl ?_
      refine ev_aload_n dt_Ri_slotTaken_3 rfl rfl ?_
      refine tm_getI (K := 7) dt_Ri_slotTaken_4 hW ot0 fl_Ri_64 rfl rfl (fun v15 kv15 lv15 uv15 => ?_)
      refine ev_icmp_ge (tgt := 28) dt_Ri_slotTaken_7 (by decide) (by omega) (by omega) (fun h16 => ?_) (fun h16 => ?_)
      · skip
        refine ev_iconst dt_Ri_slotTaken_28 ?_
        exact ev_zreturn dt_Ri_slotTaken_29 rfl (by omega) ⟨rfl, _, rfl, by omega⟩
      · skip
        refine ev_aload_n dt_Ri_slotTaken_10 rfl rfl ?_
        refine tm_getR dt_Ri_slotTaken_11 hW ot0 fl_Ri_9 rfl ?_
        refine ev_iload_n dt_Ri_slotTaken_14 rfl rfl ?_
        refine tm_iaload dt_Ri_slotTaken_15 hW ot1 (by omega) (by omega) (by omega) (fun v17 kv17 lv17 uv17 => ?_)
        refine ev_iload_n dt_Ri_slotTaken_16 rfl rfl ?_
        refine ev_icmp_ne (tgt := 22) dt_Ri_slotTaken_17 (by decide) (by omega) (by omega) (fun h18 => ?_) (fun h18 => ?_)
        · skip
          refine ev_iinc (l' := [_, _, _]) dt_Ri_slotTaken_22 rfl rfl ?_
          refine ev_goto (tgt := 2) dt_Ri_slotTaken_25 (by decide) ?_
          exact tm_loc (tm_le_s (tm_le_s (tm_le_s tm_le_0))) (ihL13 ((i14 + 1)) (by omega) (by omega) (by omega))
        · skip
          refine ev_iconst dt_Ri_slotTaken_20 ?_
          exact ev_zreturn dt_Ri_slotTaken_21 rfl (by omega) ⟨rfl, _, rfl, by omega⟩
  exact tm_loc (tm_le_s (tm_le_s (tm_le_s tm_le_0))) (L13 (7 - (0) + 1 : Int).toNat (0)  (by omega) (by omega) (by omega))
theorem dt_Ri_isGate_0 : decode prog_7_method_8_code 0 = .ok (.aload_n 0, 1) := by decide +kernel
theorem dt_Ri_isGate_1 : decode prog_7_method_8_code 1 = .ok (.getfield 70, 3) := by decide +kernel
theorem dt_Ri_isGate_4 : decode prog_7_method_8_code 4 = .ok (.iload_n 1, 1) := by decide +kernel
theorem dt_Ri_isGate_5 : decode prog_7_method_8_code 5 = .ok (.ishr, 1) := by decide +kernel
theorem dt_Ri_isGate_6 : decode prog_7_method_8_code 6 = .ok (.iconst 1, 1) := by decide +kernel
theorem dt_Ri_isGate_7 : decode prog_7_method_8_code 7 = .ok (.iand, 1) := by decide +kernel
theorem dt_Ri_isGate_8 : decode prog_7_method_8_code 8 = .ok (.ifCond .eq 7, 3) := by decide +kernel
theorem dt_Ri_isGate_11 : decode prog_7_method_8_code 11 = .ok (.iconst 1, 1) := by decide +kernel
theorem dt_Ri_isGate_12 : decode prog_7_method_8_code 12 = .ok (.goto 4, 3) := by decide +kernel
theorem dt_Ri_isGate_15 : decode prog_7_method_8_code 15 = .ok (.iconst 0, 1) := by decide +kernel
theorem dt_Ri_isGate_16 : decode prog_7_method_8_code 16 = .ok (.ireturn, 1) := by decide +kernel
set_option maxHeartbeats 4000000 in
set_option maxRecDepth 10000 in
theorem tm_Ri_isGate {N : Nat} {T : Nat → tm_S} {w : ab_W} {o : Nat} (hW : tm_W N T w) (h_o : is_Ri T o) (a : Int) (l_a : 0 ≤ a) (u_a : a ≤ 31) : ab_Mt g_G g_rs mt_Ri_isGate 0 0 0 [ab_R o, ab_I a] w (tm_P w (fun v => 0 ≤ v ∧ v ≤ 1)) := by
  obtain ⟨ot0, ot1, ot2, ot3, ot4, ot5, ot6, ot7, ot8, ot9, ot10, ot11, ot12⟩ := id h_o
  have od := is_Ri.d h_o
  refine ab_Mt.of rfl (Nat.le_of_ble_eq_true rfl) ?_
  show ab_Ev g_G g_rs mt_Ri_isGate _ _ _ 0 [some (ab_R o), some (ab_I a)] [] _ _
  refine ev_aload_n dt_Ri_isGate_0 rfl rfl ?_
  refine tm_getI (K := 9) dt_Ri_isGate_1 hW ot0 fl_Ri_70 rfl rfl (fun v19 kv19 lv19 uv19 => ?_)
  refine ev_iload_n dt_Ri_isGate_4 rfl rfl ?_
  refine tm_ishr dt_Ri_isGate_5 (by omega) (by omega) (by omega) (fun v20 x1 x2 => ?_)
  have hv20 : (-2147483648) ≤ v20 ∧ v20 ≤ 2147483647 := by omega
  clear x1 x2
  refine ev_iconst dt_Ri_isGate_6 ?_
  refine tm_iand dt_Ri_isGate_7 (by omega) (by omega) (fun v21 x1 x2 x3 => ?_)
  have hv21 : 0 ≤ v21 ∧ v21 ≤ 1 := by omega
  clear x1 x2 x3
  refine ev_if_eq (tgt := 15) dt_Ri_isGate_8 (by decide) (by omega) (fun h22 => ?_) (fun h22 => ?_)
  · skip
    refine ev_iconst dt_Ri_isGate_15 ?_
    exact ev_zreturn dt_Ri_isGate_16 rfl (by omega) ⟨rfl, _, rfl, by omega⟩
  · skip
    refine ev_iconst dt_Ri_isGate_11 ?_
    refine ev_goto (tgt := 16) dt_Ri_isGate_12 (by decide) ?_
    exact ev_zreturn dt_Ri_isGate_16 rfl (by omega) ⟨rfl, _, rfl, by omega⟩
theorem dt_Ri_facing_0 : decode prog_7_method_9_code 0 = .ok (.aload_n 0, 1) := by decide +kernel
theorem dt_Ri_facing_1 : decode prog_7_method_9_code 1 = .ok (.getfield 9, 3) := by decide +kernel
theorem dt_Ri_facing_4 : decode prog_7_method_9_code 4 = .ok (.iload_n 1, 1) := by decide +kernel
theorem dt_Ri_facing_5 : decode prog_7_method_9_code 5 = .ok (.iaload, 1) := by decide +kernel
theorem dt_Ri_facing_6 : decode prog_7_method_9_code 6 = .ok (.aload_n 0, 1) := by decide +kernel
theorem dt_Ri_facing_7 : decode prog_7_method_9_code 7 = .ok (.getfield 45, 3) := by decide +kernel
theorem dt_Ri_facing_10 : decode prog_7_method_9_code 10 = .ok (.invokestatic 95, 3) := by decide +kernel
theorem dt_Ri_facing_13 : decode prog_7_method_9_code 13 = .ok (.ireturn, 1) := by decide +kernel
set_option maxHeartbeats 4000000 in
set_option maxRecDepth 10000 in
theorem tm_Ri_facing {N : Nat} {T : Nat → tm_S} {w : ab_W} {o : Nat} (hW : tm_W N T w) (h_o : is_Ri T o) (a : Int) (l_a : 0 ≤ a) (u_a : a ≤ 6) : ab_Mt g_G g_rs mt_Ri_facing 1 0 0 [ab_R o, ab_I a] w (tm_P w (fun v => 0 ≤ v ∧ v ≤ 11)) := by
  obtain ⟨ot0, ot1, ot2, ot3, ot4, ot5, ot6, ot7, ot8, ot9, ot10, ot11, ot12⟩ := id h_o
  have od := is_Ri.d h_o
  refine ab_Mt.of rfl (Nat.le_of_ble_eq_true rfl) ?_
  show ab_Ev g_G g_rs mt_Ri_facing _ _ _ 0 [some (ab_R o), some (ab_I a)] [] _ _
  refine ev_aload_n dt_Ri_facing_0 rfl rfl ?_
  refine tm_getR dt_Ri_facing_1 hW ot0 fl_Ri_9 rfl ?_
  refine ev_iload_n dt_Ri_facing_4 rfl rfl ?_
  refine tm_iaload dt_Ri_facing_5 hW ot1 (by omega) (by omega) (by omega) (fun v23 kv23 lv23 uv23 => ?_)
  refine ev_aload_n dt_Ri_facing_6 rfl rfl ?_
  refine tm_getI (K := 1) dt_Ri_facing_7 hW ot0 fl_Ri_45 rfl rfl (fun v24 kv24 lv24 uv24 => ?_)
  refine tm_sp dt_Ri_facing_10 (tm_Tu_facedBy hW (v23) (by omega) (by omega) (v24) (by omega) (by omega)) kb_Ri_95 sc_Tu_facedBy rfl (Nat.le_of_ble_eq_true rfl) (by decide) (fun v25 hv25 => ?_)
  exact ev_ireturn dt_Ri_facing_13 rfl ⟨rfl, _, rfl, by omega⟩
theorem dt_Ri_sortsAt_0 : decode prog_7_method_11_code 0 = .ok (.aload_n 0, 1) := by decide +kernel
theorem dt_Ri_sortsAt_1 : decode prog_7_method_11_code 1 = .ok (.getfield 24, 3) := by decide +kernel
theorem dt_Ri_sortsAt_4 : decode prog_7_method_11_code 4 = .ok (.iload_n 2, 1) := by decide +kernel
theorem dt_Ri_sortsAt_5 : decode prog_7_method_11_code 5 = .ok (.laload, 1) := by decide +kernel
theorem dt_Ri_sortsAt_6 : decode prog_7_method_11_code 6 = .ok (.iload_n 1, 1) := by decide +kernel
theorem dt_Ri_sortsAt_7 : decode prog_7_method_11_code 7 = .ok (.iconst 5, 1) := by decide +kernel
theorem dt_Ri_sortsAt_8 : decode prog_7_method_11_code 8 = .ok (.imul, 1) := by decide +kernel
theorem dt_Ri_sortsAt_9 : decode prog_7_method_11_code 9 = .ok (.lushr, 1) := by decide +kernel
theorem dt_Ri_sortsAt_10 : decode prog_7_method_11_code 10 = .ok (.l2i, 1) := by decide +kernel
theorem dt_Ri_sortsAt_11 : decode prog_7_method_11_code 11 = .ok (.bipush 31, 2) := by decide +kernel
theorem dt_Ri_sortsAt_13 : decode prog_7_method_11_code 13 = .ok (.iand, 1) := by decide +kernel
theorem dt_Ri_sortsAt_14 : decode prog_7_method_11_code 14 = .ok (.ireturn, 1) := by decide +kernel
set_option maxHeartbeats 4000000 in
set_option maxRecDepth 10000 in
theorem tm_Ri_sortsAt {N : Nat} {T : Nat → tm_S} {w : ab_W} {o : Nat} (hW : tm_W N T w) (h_o : is_Ri T o) (a : Int) (l_a : 0 ≤ a) (u_a : a ≤ 11) (b : Int) (l_b : 0 ≤ b) (u_b : b ≤ 23) : ab_Mt g_G g_rs mt_Ri_sortsAt 0 0 0 [ab_R o, ab_I a, ab_I b] w (tm_P w (fun v => 0 ≤ v ∧ v ≤ 31)) := by
  obtain ⟨ot0, ot1, ot2, ot3, ot4, ot5, ot6, ot7, ot8, ot9, ot10, ot11, ot12⟩ := id h_o
  have od := is_Ri.d h_o
  refine ab_Mt.of rfl (Nat.le_of_ble_eq_true rfl) ?_
  show ab_Ev g_G g_rs mt_Ri_sortsAt _ _ _ 0 [some (ab_R o), some (ab_I a), some (ab_I b)] [] _ _
  refine ev_aload_n dt_Ri_sortsAt_0 rfl rfl ?_
  refine tm_getR dt_Ri_sortsAt_1 hW ot0 fl_Ri_24 rfl ?_
  refine ev_iload_n dt_Ri_sortsAt_4 rfl rfl ?_
  refine tm_laload dt_Ri_sortsAt_5 hW ot5 (by omega) (by omega) (by omega) (fun j32 => ?_)
  refine ev_iload_n dt_Ri_sortsAt_6 rfl rfl ?_
  refine ev_iconst dt_Ri_sortsAt_7 ?_
  refine ev_imul dt_Ri_sortsAt_8 ?_
  refine ev_lushr dt_Ri_sortsAt_9 ?_
  refine tm_l2i dt_Ri_sortsAt_10 (fun v33 hv33 => ?_)
  refine ev_bipush dt_Ri_sortsAt_11 rfl ?_
  refine tm_iand dt_Ri_sortsAt_13 (by omega) (by omega) (fun v34 x1 x2 x3 => ?_)
  have hv34 : 0 ≤ v34 ∧ v34 ≤ 31 := by omega
  clear x1 x2 x3
  exact ev_ireturn dt_Ri_sortsAt_14 rfl ⟨rfl, _, rfl, by omega⟩
theorem dt_Ri_likesIn_0 : decode prog_7_method_12_code 0 = .ok (.aload_n 0, 1) := by decide +kernel
theorem dt_Ri_likesIn_1 : decode prog_7_method_12_code 1 = .ok (.iload_n 2, 1) := by decide +kernel
theorem dt_Ri_likesIn_2 : decode prog_7_method_12_code 2 = .ok (.iload_n 3, 1) := by decide +kernel
theorem dt_Ri_likesIn_3 : decode prog_7_method_12_code 3 = .ok (.invokestatic 95, 3) := by decide +kernel
theorem dt_Ri_likesIn_6 : decode prog_7_method_12_code 6 = .ok (.iload 4, 2) := by decide +kernel
theorem dt_Ri_likesIn_8 : decode prog_7_method_12_code 8 = .ok (.invokevirtual 103, 3) := by decide +kernel
theorem dt_Ri_likesIn_11 : decode prog_7_method_12_code 11 = .ok (.istore 5, 2) := by decide +kernel
theorem dt_Ri_likesIn_13 : decode prog_7_method_12_code 13 = .ok (.iconst 0, 1) := by decide +kernel
theorem dt_Ri_likesIn_14 : decode prog_7_method_12_code 14 = .ok (.istore 6, 2) := by decide +kernel
theorem dt_Ri_likesIn_16 : decode prog_7_method_12_code 16 = .ok (.iconst 0, 1) := by decide +kernel
theorem dt_Ri_likesIn_17 : decode prog_7_method_12_code 17 = .ok (.istore 7, 2) := by decide +kernel
theorem dt_Ri_likesIn_19 : decode prog_7_method_12_code 19 = .ok (.iload 5, 2) := by decide +kernel
theorem dt_Ri_likesIn_21 : decode prog_7_method_12_code 21 = .ok (.ifCond .eq 44, 3) := by decide +kernel
theorem dt_Ri_likesIn_24 : decode prog_7_method_12_code 24 = .ok (.iload 7, 2) := by decide +kernel
theorem dt_Ri_likesIn_26 : decode prog_7_method_12_code 26 = .ok (.iconst 5, 1) := by decide +kernel
theorem dt_Ri_likesIn_27 : decode prog_7_method_12_code 27 = .ok (.if_icmp .ge 38, 3) := by decide +kernel
theorem dt_Ri_likesIn_30 : decode prog_7_method_12_code 30 = .ok (.iload 5, 2) := by decide +kernel
theorem dt_Ri_likesIn_32 : decode prog_7_method_12_code 32 = .ok (.iconst 1, 1) := by decide +kernel
theorem dt_Ri_likesIn_33 : decode prog_7_method_12_code 33 = .ok (.iand, 1) := by decide +kernel
theorem dt_Ri_likesIn_34 : decode prog_7_method_12_code 34 = .ok (.ifCond .eq 19, 3) := by decide +kernel
theorem dt_Ri_likesIn_37 : decode prog_7_method_12_code 37 = .ok (.iload 6, 2) := by decide +kernel
theorem dt_Ri_likesIn_39 : decode prog_7_method_12_code 39 = .ok (.aload_n 0, 1) := by decide +kernel
theorem dt_Ri_likesIn_40 : decode prog_7_method_12_code 40 = .ok (.getfield 21, 3) := by decide +kernel
theorem dt_Ri_likesIn_43 : decode prog_7_method_12_code 43 = .ok (.iload_n 1, 1) := by decide +kernel
theorem dt_Ri_likesIn_44 : decode prog_7_method_12_code 44 = .ok (.iconst 5, 1) := by decide +kernel
theorem dt_Ri_likesIn_45 : decode prog_7_method_12_code 45 = .ok (.imul, 1) := by decide +kernel
theorem dt_Ri_likesIn_46 : decode prog_7_method_12_code 46 = .ok (.iload 7, 2) := by decide +kernel
theorem dt_Ri_likesIn_48 : decode prog_7_method_12_code 48 = .ok (.iadd, 1) := by decide +kernel
theorem dt_Ri_likesIn_49 : decode prog_7_method_12_code 49 = .ok (.iaload, 1) := by decide +kernel
theorem dt_Ri_likesIn_50 : decode prog_7_method_12_code 50 = .ok (.iadd, 1) := by decide +kernel
theorem dt_Ri_likesIn_51 : decode prog_7_method_12_code 51 = .ok (.istore 6, 2) := by decide +kernel
theorem dt_Ri_likesIn_53 : decode prog_7_method_12_code 53 = .ok (.iload 5, 2) := by decide +kernel
theorem dt_Ri_likesIn_55 : decode prog_7_method_12_code 55 = .ok (.iconst 1, 1) := by decide +kernel
theorem dt_Ri_likesIn_56 : decode prog_7_method_12_code 56 = .ok (.ishr, 1) := by decide +kernel
theorem dt_Ri_likesIn_57 : decode prog_7_method_12_code 57 = .ok (.istore 5, 2) := by decide +kernel
theorem dt_Ri_likesIn_59 : decode prog_7_method_12_code 59 = .ok (.iinc 7 1, 3) := by decide +kernel
theorem dt_Ri_likesIn_62 : decode prog_7_method_12_code 62 = .ok (.goto (-43), 3) := by decide +kernel
theorem dt_Ri_likesIn_65 : decode prog_7_method_12_code 65 = .ok (.iload 6, 2) := by decide +kernel
theorem dt_Ri_likesIn_67 : decode prog_7_method_12_code 67 = .ok (.ireturn, 1) := by decide +kernel
set_option maxHeartbeats 4000000 in
set_option maxRecDepth 10000 in
theorem tm_Ri_likesIn {N : Nat} {T : Nat → tm_S} {w : ab_W} {o : Nat} (hW : tm_W N T w) (h_o : is_Ri T o) (a : Int) (l_a : 0 ≤ a) (u_a : a ≤ 6) (b : Int) (l_b : 0 ≤ b) (u_b : b ≤ 11) (c : Int) (l_c : 0 ≤ c) (u_c : c ≤ 11) (e : Int) (l_e : 0 ≤ e) (u_e : e ≤ 23) : ab_Mt g_G g_rs mt_Ri_likesIn 1 0 0 [ab_R o, ab_I a, ab_I b, ab_I c, ab_I e] w (tm_P w (fun v => (-2147483648) ≤ v ∧ v ≤ 2147483647)) := by
  obtain ⟨ot0, ot1, ot2, ot3, ot4, ot5, ot6, ot7, ot8, ot9, ot10, ot11, ot12⟩ := id h_o
  have od := is_Ri.d h_o
  refine ab_Mt.of rfl (Nat.le_of_ble_eq_true rfl) ?_
  show ab_Ev g_G g_rs mt_Ri_likesIn _ _ _ 0 [some (ab_R o), some (ab_I a), some (ab_I b), some (ab_I c), some (ab_I e), none, none, none] [] _ _
  refine ev_aload_n dt_Ri_likesIn_0 rfl rfl ?_
  refine ev_iload_n dt_Ri_likesIn_1 rfl rfl ?_
  refine ev_iload_n dt_Ri_likesIn_2 rfl rfl ?_
  refine tm_sp dt_Ri_likesIn_3 (tm_Tu_facedBy hW (b) (by omega) (by omega) (c) (by omega) (by omega)) kb_Ri_95 sc_Tu_facedBy rfl (Nat.le_of_ble_eq_true rfl) (by decide) (fun v35 hv35 => ?_)
  refine ev_iload dt_Ri_likesIn_6 rfl ?_
  refine tm_vp dt_Ri_likesIn_8 (tm_Ri_sortsAt hW h_o (v35) (by omega) (by omega) (e) (by omega) (by omega)) kb_Ri_103 ⟨im_Ri_sortsAt, se_Ri_sortsAt⟩ rfl hW ot0 rfl (Nat.le_of_ble_eq_true rfl) (by decide) (fun v36 hv36 => ?_)
  refine ev_istore (l' := [_, _, _, _, _, _, _, _]) dt_Ri_likesIn_11 (Nat.le_of_ble_eq_true rfl) rfl ?_
  refine ev_iconst dt_Ri_likesIn_13 ?_
  refine ev_istore (l' := [_, _, _, _, _, _, _, _]) dt_Ri_likesIn_14 (Nat.le_of_ble_eq_true rfl) rfl ?_
  refine ev_iconst dt_Ri_likesIn_16 ?_
  refine ev_istore (l' := [_, _, _, _, _, _, _, _]) dt_Ri_likesIn_17 (Nat.le_of_ble_eq_true rfl) rfl ?_
  have L37 : ∀ (n : Nat) (i38 : Int) (i39 : Int) (i40 : Int) , 0 ≤ i38 → i38 ≤ 31 → (-2147483648) ≤ i39 → i39 ≤ 2147483647 → 0 ≤ i40 → i40 ≤ 5 → 5 - i40 < (n : Int) → ab_Ev g_G g_rs mt_Ri_likesIn 1 0 0 19 [some (ab_R o), some (ab_I a), none, none, none, some (ab_I i38), some (ab_I i39), some (ab_I i40)] [] w (tm_P w (fun v => (-2147483648) ≤ v ∧ v ≤ 2147483647)) := by
    intro n
    induction n with
    | zero =>
      intro i38 i39 i40  li38 ui38 li39 ui39 li40 ui40 mL37
      exfalso
      omega
    | succ nL37 ihL37 =>
      intro i38 i39 i40  li38 ui38 li39 ui39 li40 ui40 mL37
      refine ev_iload dt_Ri_likesIn_19 rfl ?_
      refine ev_if_eq (tgt := 65) dt_Ri_likesIn_21 (by decide) (by omega) (fun h41 => ?_) (fun h41 => ?_)
      · skip
        refine ev_iload dt_Ri_likesIn_65 rfl ?_
        exact ev_ireturn dt_Ri_likesIn_67 rfl ⟨rfl, _, rfl, by omega⟩
      · skip
        refine ev_iload dt_Ri_likesIn_24 rfl ?_
        refine ev_iconst dt_Ri_likesIn_26 ?_
        refine ev_icmp_ge (tgt := 65) dt_Ri_likesIn_27 (by decide) (by omega) (by omega) (fun h42 => ?_) (fun h42 => ?_)
        · skip
          refine ev_iload dt_Ri_likesIn_65 rfl ?_
          exact ev_ireturn dt_Ri_likesIn_67 rfl ⟨rfl, _, rfl, by omega⟩
        · skip
          refine ev_iload dt_Ri_likesIn_30 rfl ?_
          refine ev_iconst dt_Ri_likesIn_32 ?_
          refine tm_iand dt_Ri_likesIn_33 (by omega) (by omega) (fun v43 x1 x2 x3 => ?_)
          have hv43 : 0 ≤ v43 ∧ v43 ≤ 1 := by omega
          clear x1 x2 x3
          refine ev_if_eq (tgt := 53) dt_Ri_likesIn_34 (by decide) (by omega) (fun h44 => ?_) (fun h44 => ?_)
          · skip
            refine ev_iload dt_Ri_likesIn_53 rfl ?_
            refine ev_iconst dt_Ri_likesIn_55 ?_
            refine tm_ishr dt_Ri_likesIn_56 (by omega) (by omega) (by omega) (fun v45 x1 x2 => ?_)
            have hv45 : 0 ≤ v45 ∧ v45 ≤ 31 := by omega
            clear x1 x2
            refine ev_istore (l' := [_, _, _, _, _, _, _, _]) dt_Ri_likesIn_57 (Nat.le_of_ble_eq_true rfl) rfl ?_
            refine ev_iinc (l' := [_, _, _, _, _, _, _, _]) dt_Ri_likesIn_59 rfl rfl ?_
            refine ev_goto (tgt := 19) dt_Ri_likesIn_62 (by decide) ?_
            exact tm_loc (tm_le_s (tm_le_s (tm_le_n (tm_le_n (tm_le_n (tm_le_s (tm_le_s (tm_le_s tm_le_0)))))))) (ihL37 (v45) (i39) ((i40 + 1)) (by omega) (by omega) (by omega) (by omega) (by omega) (by omega) (by omega))
          · skip
            refine ev_iload dt_Ri_likesIn_37 rfl ?_
            refine ev_aload_n dt_Ri_likesIn_39 rfl rfl ?_
            refine tm_getR dt_Ri_likesIn_40 hW ot0 fl_Ri_21 rfl ?_
            refine ev_iload_n dt_Ri_likesIn_43 rfl rfl ?_
            refine ev_iconst dt_Ri_likesIn_44 ?_
            refine ev_imul dt_Ri_likesIn_45 ?_
            refine ev_iload dt_Ri_likesIn_46 rfl ?_
            refine ev_iadd dt_Ri_likesIn_48 ?_
            refine tm_iaload dt_Ri_likesIn_49 hW ot4 (by omega) (by omega) (by omega) (fun v46 kv46 lv46 uv46 => ?_)
            refine ev_iadd dt_Ri_likesIn_50 ?_
            refine tm_any (fun v47 hv47 _ => ?_)
            refine ev_istore (l' := [_, _, _, _, _, _, _, _]) dt_Ri_likesIn_51 (Nat.le_of_ble_eq_true rfl) rfl ?_
            refine ev_iload dt_Ri_likesIn_53 rfl ?_
            refine ev_iconst dt_Ri_likesIn_55 ?_
            refine tm_ishr dt_Ri_likesIn_56 (by omega) (by omega) (by omega) (fun v48 x1 x2 => ?_)
            have hv48 : 0 ≤ v48 ∧ v48 ≤ 31 := by omega
            clear x1 x2
            refine ev_istore (l' := [_, _, _, _, _, _, _, _]) dt_Ri_likesIn_57 (Nat.le_of_ble_eq_true rfl) rfl ?_
            refine ev_iinc (l' := [_, _, _, _, _, _, _, _]) dt_Ri_likesIn_59 rfl rfl ?_
            refine ev_goto (tgt := 19) dt_Ri_likesIn_62 (by decide) ?_
            exact tm_loc (tm_le_s (tm_le_s (tm_le_n (tm_le_n (tm_le_n (tm_le_s (tm_le_s (tm_le_s tm_le_0)))))))) (ihL37 (v48) (v47) ((i40 + 1)) (by omega) (by omega) (by omega) (by omega) (by omega) (by omega) (by omega))
  exact tm_loc (tm_le_s (tm_le_s (tm_le_n (tm_le_n (tm_le_n (tm_le_s (tm_le_s (tm_le_s tm_le_0)))))))) (L37 (5 - (0) + 1 : Int).toNat (v36) (0) (0)  (by omega) (by omega) (by omega) (by omega) (by omega) (by omega) (by omega))
theorem dt_Ri_likesNow_0 : decode prog_7_method_13_code 0 = .ok (.aload_n 0, 1) := by decide +kernel
theorem dt_Ri_likesNow_1 : decode prog_7_method_13_code 1 = .ok (.iload_n 1, 1) := by decide +kernel
theorem dt_Ri_likesNow_2 : decode prog_7_method_13_code 2 = .ok (.aload_n 0, 1) := by decide +kernel
theorem dt_Ri_likesNow_3 : decode prog_7_method_13_code 3 = .ok (.getfield 9, 3) := by decide +kernel
theorem dt_Ri_likesNow_6 : decode prog_7_method_13_code 6 = .ok (.iload_n 1, 1) := by decide +kernel
theorem dt_Ri_likesNow_7 : decode prog_7_method_13_code 7 = .ok (.iaload, 1) := by decide +kernel
theorem dt_Ri_likesNow_8 : decode prog_7_method_13_code 8 = .ok (.aload_n 0, 1) := by decide +kernel
theorem dt_Ri_likesNow_9 : decode prog_7_method_13_code 9 = .ok (.getfield 45, 3) := by decide +kernel
theorem dt_Ri_likesNow_12 : decode prog_7_method_13_code 12 = .ok (.aload_n 0, 1) := by decide +kernel
theorem dt_Ri_likesNow_13 : decode prog_7_method_13_code 13 = .ok (.getfield 49, 3) := by decide +kernel
theorem dt_Ri_likesNow_16 : decode prog_7_method_13_code 16 = .ok (.invokevirtual 106, 3) := by decide +kernel
theorem dt_Ri_likesNow_19 : decode prog_7_method_13_code 19 = .ok (.ireturn, 1) := by decide +kernel
set_option maxHeartbeats 4000000 in
set_option maxRecDepth 10000 in
theorem tm_Ri_likesNow {N : Nat} {T : Nat → tm_S} {w : ab_W} {o : Nat} (hW : tm_W N T w) (h_o : is_Ri T o) (a : Int) (l_a : 0 ≤ a) (u_a : a ≤ 6) : ab_Mt g_G g_rs mt_Ri_likesNow 2 0 0 [ab_R o, ab_I a] w (tm_P w (fun v => (-2147483648) ≤ v ∧ v ≤ 2147483647)) := by
  obtain ⟨ot0, ot1, ot2, ot3, ot4, ot5, ot6, ot7, ot8, ot9, ot10, ot11, ot12⟩ := id h_o
  have od := is_Ri.d h_o
  refine ab_Mt.of rfl (Nat.le_of_ble_eq_true rfl) ?_
  show ab_Ev g_G g_rs mt_Ri_likesNow _ _ _ 0 [some (ab_R o), some (ab_I a)] [] _ _
  refine ev_aload_n dt_Ri_likesNow_0 rfl rfl ?_
  refine ev_iload_n dt_Ri_likesNow_1 rfl rfl ?_
  refine ev_aload_n dt_Ri_likesNow_2 rfl rfl ?_
  refine tm_getR dt_Ri_likesNow_3 hW ot0 fl_Ri_9 rfl ?_
  refine ev_iload_n dt_Ri_likesNow_6 rfl rfl ?_
  refine tm_iaload dt_Ri_likesNow_7 hW ot1 (by omega) (by omega) (by omega) (fun v49 kv49 lv49 uv49 => ?_)
  refine ev_aload_n dt_Ri_likesNow_8 rfl rfl ?_
  refine tm_getI (K := 1) dt_Ri_likesNow_9 hW ot0 fl_Ri_45 rfl rfl (fun v50 kv50 lv50 uv50 => ?_)
  refine ev_aload_n dt_Ri_likesNow_12 rfl rfl ?_
  refine tm_getI (K := 2) dt_Ri_likesNow_13 hW ot0 fl_Ri_49 rfl rfl (fun v51 kv51 lv51 uv51 => ?_)
  refine tm_vp dt_Ri_likesNow_16 (tm_Ri_likesIn hW h_o (a) (by omega) (by omega) (v49) (by omega) (by omega) (v50) (by omega) (by omega) (v51) (by omega) (by omega)) kb_Ri_106 ⟨im_Ri_likesIn, se_Ri_likesIn⟩ rfl hW ot0 rfl (Nat.le_of_ble_eq_true rfl) (by decide) (fun v52 hv52 => ?_)
  exact ev_ireturn dt_Ri_likesNow_19 rfl ⟨rfl, _, rfl, by omega⟩
theorem dt_Ri_allLike_0 : decode prog_7_method_14_code 0 = .ok (.iconst 0, 1) := by decide +kernel
theorem dt_Ri_allLike_1 : decode prog_7_method_14_code 1 = .ok (.istore_n 3, 1) := by decide +kernel
theorem dt_Ri_allLike_2 : decode prog_7_method_14_code 2 = .ok (.iconst 0, 1) := by decide +kernel
theorem dt_Ri_allLike_3 : decode prog_7_method_14_code 3 = .ok (.istore 4, 2) := by decide +kernel
theorem dt_Ri_allLike_5 : decode prog_7_method_14_code 5 = .ok (.iload 4, 2) := by decide +kernel
theorem dt_Ri_allLike_7 : decode prog_7_method_14_code 7 = .ok (.aload_n 0, 1) := by decide +kernel
theorem dt_Ri_allLike_8 : decode prog_7_method_14_code 8 = .ok (.getfield 64, 3) := by decide +kernel
theorem dt_Ri_allLike_11 : decode prog_7_method_14_code 11 = .ok (.if_icmp .ge 27, 3) := by decide +kernel
theorem dt_Ri_allLike_14 : decode prog_7_method_14_code 14 = .ok (.iload_n 3, 1) := by decide +kernel
theorem dt_Ri_allLike_15 : decode prog_7_method_14_code 15 = .ok (.aload_n 0, 1) := by decide +kernel
theorem dt_Ri_allLike_16 : decode prog_7_method_14_code 16 = .ok (.iload 4, 2) := by decide +kernel
theorem dt_Ri_allLike_18 : decode prog_7_method_14_code 18 = .ok (.aload_n 0, 1) := by decide +kernel
theorem dt_Ri_allLike_19 : decode prog_7_method_14_code 19 = .ok (.getfield 9, 3) := by decide +kernel
theorem dt_Ri_allLike_22 : decode prog_7_method_14_code 22 = .ok (.iload 4, 2) := by decide +kernel
theorem dt_Ri_allLike_24 : decode prog_7_method_14_code 24 = .ok (.iaload, 1) := by decide +kernel
theorem dt_Ri_allLike_25 : decode prog_7_method_14_code 25 = .ok (.iload_n 1, 1) := by decide +kernel
theorem dt_Ri_allLike_26 : decode prog_7_method_14_code 26 = .ok (.iload_n 2, 1) := by decide +kernel
theorem dt_Ri_allLike_27 : decode prog_7_method_14_code 27 = .ok (.invokevirtual 106, 3) := by decide +kernel
theorem dt_Ri_allLike_30 : decode prog_7_method_14_code 30 = .ok (.iadd, 1) := by decide +kernel
theorem dt_Ri_allLike_31 : decode prog_7_method_14_code 31 = .ok (.istore_n 3, 1) := by decide +kernel
theorem dt_Ri_allLike_32 : decode prog_7_method_14_code 32 = .ok (.iinc 4 1, 3) := by decide +kernel
theorem dt_Ri_allLike_35 : decode prog_7_method_14_code 35 = .ok (.goto (-30), 3) := by decide +kernel
theorem dt_Ri_allLike_38 : decode prog_7_method_14_code 38 = .ok (.iload_n 3, 1) := by decide +kernel
theorem dt_Ri_allLike_39 : decode prog_7_method_14_code 39 = .ok (.ireturn, 1) := by decide +kernel
set_option maxHeartbeats 4000000 in
set_option maxRecDepth 10000 in
theorem tm_Ri_allLike {N : Nat} {T : Nat → tm_S} {w : ab_W} {o : Nat} (hW : tm_W N T w) (h_o : is_Ri T o) (a : Int) (l_a : 0 ≤ a) (u_a : a ≤ 11) (b : Int) (l_b : 0 ≤ b) (u_b : b ≤ 23) : ab_Mt g_G g_rs mt_Ri_allLike 2 0 0 [ab_R o, ab_I a, ab_I b] w (tm_P w (fun v => (-2147483648) ≤ v ∧ v ≤ 2147483647)) := by
  obtain ⟨ot0, ot1, ot2, ot3, ot4, ot5, ot6, ot7, ot8, ot9, ot10, ot11, ot12⟩ := id h_o
  have od := is_Ri.d h_o
  refine ab_Mt.of rfl (Nat.le_of_ble_eq_true rfl) ?_
  show ab_Ev g_G g_rs mt_Ri_allLike _ _ _ 0 [some (ab_R o), some (ab_I a), some (ab_I b), none, none] [] _ _
  refine ev_iconst dt_Ri_allLike_0 ?_
  refine ev_istore_n (l' := [_, _, _, _, _]) dt_Ri_allLike_1 rfl (Nat.le_of_ble_eq_true rfl) rfl ?_
  refine ev_iconst dt_Ri_allLike_2 ?_
  refine ev_istore (l' := [_, _, _, _, _]) dt_Ri_allLike_3 (Nat.le_of_ble_eq_true rfl) rfl ?_
  have L53 : ∀ (n : Nat) (i54 : Int) (i55 : Int) , (-2147483648) ≤ i54 → i54 ≤ 2147483647 → 0 ≤ i55 → i55 ≤ 7 → 7 - i55 < (n : Int) → ab_Ev g_G g_rs mt_Ri_allLike 2 0 0 5 [some (ab_R o), some (ab_I a), some (ab_I b), some (ab_I i54), some (ab_I i55)] [] w (tm_P w (fun v => (-2147483648) ≤ v ∧ v ≤ 2147483647)) := by
    intro n
    induction n with
    | zero =>
      intro i54 i55  li54 ui54 li55 ui55 mL53
      exfalso
      omega
    | succ nL53 ihL53 =>
      intro i54 i55  li54 ui54 li55 ui55 mL53
      refine ev_iload dt_Ri_allLike_5 rfl ?_
      refine ev_aload_n dt_Ri_allLike_7 rfl rfl ?_
      refine tm_getI (K := 7) dt_Ri_allLike_8 hW ot0 fl_Ri_64 rfl rfl (fun v56 kv56 lv56 uv56 => ?_)
      refine ev_icmp_ge (tgt := 38) dt_Ri_allLike_11 (by decide) (by omega) (by omega) (fun h57 => ?_) (fun h57 => ?_)
      · skip
        refine ev_iload_n dt_Ri_allLike_38 rfl rfl ?_
        exact ev_ireturn dt_Ri_allLike_39 rfl ⟨rfl, _, rfl, by omega⟩
      · skip
        refine ev_iload_n dt_Ri_allLike_14 rfl rfl ?_
        refine ev_aload_n dt_Ri_allLike_15 rfl rfl ?_
        refine ev_iload dt_Ri_allLike_16 rfl ?_
        refine ev_aload_n dt_Ri_allLike_18 rfl rfl ?_
        refine tm_getR dt_Ri_allLike_19 hW ot0 fl_Ri_9 rfl ?_
        refine ev_iload dt_Ri_allLike_22 rfl ?_
        refine tm_iaload dt_Ri_allLike_24 hW ot1 (by omega) (by omega) (by omega) (fun v58 kv58 lv58 uv58 => ?_)
        refine ev_iload_n dt_Ri_allLike_25 rfl rfl ?_
        refine ev_iload_n dt_Ri_allLike_26 rfl rfl ?_
        refine tm_vp dt_Ri_allLike_27 (tm_Ri_likesIn hW h_o (i55) (by omega) (by omega) (v58) (by omega) (by omega) (a) (by omega) (by omega) (b) (by omega) (by omega)) kb_Ri_106 ⟨im_Ri_likesIn, se_Ri_likesIn⟩ rfl hW ot0 rfl (Nat.le_of_ble_eq_true rfl) (by decide) (fun v59 hv59 => ?_)
        refine ev_iadd dt_Ri_allLike_30 ?_
        refine tm_any (fun v60 hv60 _ => ?_)
        refine ev_istore_n (l' := [_, _, _, _, _]) dt_Ri_allLike_31 rfl (Nat.le_of_ble_eq_true rfl) rfl ?_
        refine ev_iinc (l' := [_, _, _, _, _]) dt_Ri_allLike_32 rfl rfl ?_
        refine ev_goto (tgt := 5) dt_Ri_allLike_35 (by decide) ?_
        exact tm_loc (tm_le_s (tm_le_s (tm_le_s (tm_le_s (tm_le_s tm_le_0))))) (ihL53 (v60) ((i55 + 1)) (by omega) (by omega) (by omega) (by omega) (by omega))
  exact tm_loc (tm_le_s (tm_le_s (tm_le_s (tm_le_s (tm_le_s tm_le_0))))) (L53 (7 - (0) + 1 : Int).toNat (0) (0)  (by omega) (by omega) (by omega) (by omega) (by omega))
theorem dt_Ri_bestLike_0 : decode prog_7_method_15_code 0 = .ok (.aload_n 0, 1) := by decide +kernel
theorem dt_Ri_bestLike_1 : decode prog_7_method_15_code 1 = .ok (.getfield 64, 3) := by decide +kernel
theorem dt_Ri_bestLike_4 : decode prog_7_method_15_code 4 = .ok (.ifCond .ne 7, 3) := by decide +kernel
theorem dt_Ri_bestLike_7 : decode prog_7_method_15_code 7 = .ok (.iconst 0, 1) := by decide +kernel
theorem dt_Ri_bestLike_8 : decode prog_7_method_15_code 8 = .ok (.goto 8, 3) := by decide +kernel
theorem dt_Ri_bestLike_11 : decode prog_7_method_15_code 11 = .ok (.aload_n 0, 1) := by decide +kernel
theorem dt_Ri_bestLike_12 : decode prog_7_method_15_code 12 = .ok (.iconst 0, 1) := by decide +kernel
theorem dt_Ri_bestLike_13 : decode prog_7_method_15_code 13 = .ok (.invokevirtual 110, 3) := by decide +kernel
theorem dt_Ri_bestLike_16 : decode prog_7_method_15_code 16 = .ok (.istore_n 1, 1) := by decide +kernel
theorem dt_Ri_bestLike_17 : decode prog_7_method_15_code 17 = .ok (.iconst 1, 1) := by decide +kernel
theorem dt_Ri_bestLike_18 : decode prog_7_method_15_code 18 = .ok (.istore_n 2, 1) := by decide +kernel
theorem dt_Ri_bestLike_19 : decode prog_7_method_15_code 19 = .ok (.iload_n 2, 1) := by decide +kernel
theorem dt_Ri_bestLike_20 : decode prog_7_method_15_code 20 = .ok (.aload_n 0, 1) := by decide +kernel
theorem dt_Ri_bestLike_21 : decode prog_7_method_15_code 21 = .ok (.getfield 64, 3) := by decide +kernel
theorem dt_Ri_bestLike_24 : decode prog_7_method_15_code 24 = .ok (.if_icmp .ge 19, 3) := by decide +kernel
theorem dt_Ri_bestLike_27 : decode prog_7_method_15_code 27 = .ok (.iload_n 1, 1) := by decide +kernel
theorem dt_Ri_bestLike_28 : decode prog_7_method_15_code 28 = .ok (.aload_n 0, 1) := by decide +kernel
theorem dt_Ri_bestLike_29 : decode prog_7_method_15_code 29 = .ok (.iload_n 2, 1) := by decide +kernel
theorem dt_Ri_bestLike_30 : decode prog_7_method_15_code 30 = .ok (.invokevirtual 110, 3) := by decide +kernel
theorem dt_Ri_bestLike_33 : decode prog_7_method_15_code 33 = .ok (.invokestatic 113, 3) := by decide +kernel
theorem dt_Ri_bestLike_36 : decode prog_7_method_15_code 36 = .ok (.istore_n 1, 1) := by decide +kernel
theorem dt_Ri_bestLike_37 : decode prog_7_method_15_code 37 = .ok (.iinc 2 1, 3) := by decide +kernel
theorem dt_Ri_bestLike_40 : decode prog_7_method_15_code 40 = .ok (.goto (-21), 3) := by decide +kernel
theorem dt_Ri_bestLike_43 : decode prog_7_method_15_code 43 = .ok (.iload_n 1, 1) := by decide +kernel
theorem dt_Ri_bestLike_44 : decode prog_7_method_15_code 44 = .ok (.ireturn, 1) := by decide +kernel
set_option maxHeartbeats 4000000 in
set_option maxRecDepth 10000 in
theorem tm_Ri_bestLike {N : Nat} {T : Nat → tm_S} {w : ab_W} {o : Nat} (hW : tm_W N T w) (h_o : is_Ri T o) : ab_Mt g_G g_rs mt_Ri_bestLike 3 0 0 [ab_R o] w (tm_P w (fun v => (-2147483648) ≤ v ∧ v ≤ 2147483647)) := by
  obtain ⟨ot0, ot1, ot2, ot3, ot4, ot5, ot6, ot7, ot8, ot9, ot10, ot11, ot12⟩ := id h_o
  have od := is_Ri.d h_o
  refine ab_Mt.of rfl (Nat.le_of_ble_eq_true rfl) ?_
  show ab_Ev g_G g_rs mt_Ri_bestLike _ _ _ 0 [some (ab_R o), none, none] [] _ _
  refine ev_aload_n dt_Ri_bestLike_0 rfl rfl ?_
  refine tm_getI (K := 7) dt_Ri_bestLike_1 hW ot0 fl_Ri_64 rfl rfl (fun v61 kv61 lv61 uv61 => ?_)
  refine ev_if_ne (tgt := 11) dt_Ri_bestLike_4 (by decide) (by omega) (fun h62 => ?_) (fun h62 => ?_)
  · skip
    refine ev_aload_n dt_Ri_bestLike_11 rfl rfl ?_
    refine ev_iconst dt_Ri_bestLike_12 ?_
    refine tm_vp dt_Ri_bestLike_13 (tm_Ri_likesNow hW h_o (0) (by omega) (by omega)) kb_Ri_110 ⟨im_Ri_likesNow, se_Ri_likesNow⟩ rfl hW ot0 rfl (Nat.le_of_ble_eq_true rfl) (by decide) (fun v63 hv63 => ?_)
    refine ev_istore_n (l' := [_, _, _]) dt_Ri_bestLike_16 rfl (Nat.le_of_ble_eq_true rfl) rfl ?_
    refine ev_iconst dt_Ri_bestLike_17 ?_
    refine ev_istore_n (l' := [_, _, _]) dt_Ri_bestLike_18 rfl (Nat.le_of_ble_eq_true rfl) rfl ?_
    have L64 : ∀ (n : Nat) (i65 : Int) (i66 : Int) , (-2147483648) ≤ i65 → i65 ≤ 2147483647 → 1 ≤ i66 → i66 ≤ 7 → 7 - i66 < (n : Int) → ab_Ev g_G g_rs mt_Ri_bestLike 3 0 0 19 [some (ab_R o), some (ab_I i65), some (ab_I i66)] [] w (tm_P w (fun v => (-2147483648) ≤ v ∧ v ≤ 2147483647)) := by
      intro n
      induction n with
      | zero =>
        intro i65 i66  li65 ui65 li66 ui66 mL64
        exfalso
        omega
      | succ nL64 ihL64 =>
        intro i65 i66  li65 ui65 li66 ui66 mL64
        refine ev_iload_n dt_Ri_bestLike_19 rfl rfl ?_
        refine ev_aload_n dt_Ri_bestLike_20 rfl rfl ?_
        refine tm_getK (K := 7) dt_Ri_bestLike_21 hW ot0 fl_Ri_64 rfl kv61 ?_
        refine ev_icmp_ge (tgt := 43) dt_Ri_bestLike_24 (by decide) (by omega) (by omega) (fun h67 => ?_) (fun h67 => ?_)
        · skip
          refine ev_iload_n dt_Ri_bestLike_43 rfl rfl ?_
          exact ev_ireturn dt_Ri_bestLike_44 rfl ⟨rfl, _, rfl, by omega⟩
        · skip
          refine ev_iload_n dt_Ri_bestLike_27 rfl rfl ?_
          refine ev_aload_n dt_Ri_bestLike_28 rfl rfl ?_
          refine ev_iload_n dt_Ri_bestLike_29 rfl rfl ?_
          refine tm_vp dt_Ri_bestLike_30 (tm_Ri_likesNow hW h_o (i66) (by omega) (by omega)) kb_Ri_110 ⟨im_Ri_likesNow, se_Ri_likesNow⟩ rfl hW ot0 rfl (Nat.le_of_ble_eq_true rfl) (by decide) (fun v68 hv68 => ?_)
          refine tm_max (by omega) (by omega) dt_Ri_bestLike_33 mk_Ri_113 (Nat.le_of_ble_eq_true rfl) (by decide) (fun v69 x1 x2 x3 => ?_)
          have hv69 : (-2147483648) ≤ v69 ∧ v69 ≤ 2147483647 := by omega
          clear x1 x2 x3
          refine ev_istore_n (l' := [_, _, _]) dt_Ri_bestLike_36 rfl (Nat.le_of_ble_eq_true rfl) rfl ?_
          refine ev_iinc (l' := [_, _, _]) dt_Ri_bestLike_37 rfl rfl ?_
          refine ev_goto (tgt := 19) dt_Ri_bestLike_40 (by decide) ?_
          exact tm_loc (tm_le_s (tm_le_s (tm_le_s tm_le_0))) (ihL64 (v69) ((i66 + 1)) (by omega) (by omega) (by omega) (by omega) (by omega))
    exact tm_loc (tm_le_s (tm_le_s (tm_le_s tm_le_0))) (L64 (7 - (1) + 1 : Int).toNat (v63) (1)  (by omega) (by omega) (by omega) (by omega) (by omega))
  · skip
    refine ev_iconst dt_Ri_bestLike_7 ?_
    refine ev_goto (tgt := 16) dt_Ri_bestLike_8 (by decide) ?_
    refine ev_istore_n (l' := [_, _, _]) dt_Ri_bestLike_16 rfl (Nat.le_of_ble_eq_true rfl) rfl ?_
    refine ev_iconst dt_Ri_bestLike_17 ?_
    refine ev_istore_n (l' := [_, _, _]) dt_Ri_bestLike_18 rfl (Nat.le_of_ble_eq_true rfl) rfl ?_
    have L70 : ∀ (n : Nat) (i71 : Int) (i72 : Int) , (-2147483648) ≤ i71 → i71 ≤ 2147483647 → 1 ≤ i72 → i72 ≤ 7 → 7 - i72 < (n : Int) → ab_Ev g_G g_rs mt_Ri_bestLike 3 0 0 19 [some (ab_R o), some (ab_I i71), some (ab_I i72)] [] w (tm_P w (fun v => (-2147483648) ≤ v ∧ v ≤ 2147483647)) := by
      intro n
      induction n with
      | zero =>
        intro i71 i72  li71 ui71 li72 ui72 mL70
        exfalso
        omega
      | succ nL70 ihL70 =>
        intro i71 i72  li71 ui71 li72 ui72 mL70
        refine ev_iload_n dt_Ri_bestLike_19 rfl rfl ?_
        refine ev_aload_n dt_Ri_bestLike_20 rfl rfl ?_
        refine tm_getK (K := 7) dt_Ri_bestLike_21 hW ot0 fl_Ri_64 rfl kv61 ?_
        refine ev_icmp_ge (tgt := 43) dt_Ri_bestLike_24 (by decide) (by omega) (by omega) (fun h73 => ?_) (fun h73 => ?_)
        · skip
          refine ev_iload_n dt_Ri_bestLike_43 rfl rfl ?_
          exact ev_ireturn dt_Ri_bestLike_44 rfl ⟨rfl, _, rfl, by omega⟩
        · skip
          exfalso
          omega
    exact tm_loc (tm_le_s (tm_le_s (tm_le_s tm_le_0))) (L70 (7 - (1) + 1 : Int).toNat (0) (1)  (by omega) (by omega) (by omega) (by omega) (by omega))
theorem dt_Ri_leastLike_0 : decode prog_7_method_16_code 0 = .ok (.aload_n 0, 1) := by decide +kernel
theorem dt_Ri_leastLike_1 : decode prog_7_method_16_code 1 = .ok (.getfield 64, 3) := by decide +kernel
theorem dt_Ri_leastLike_4 : decode prog_7_method_16_code 4 = .ok (.ifCond .ne 7, 3) := by decide +kernel
theorem dt_Ri_leastLike_7 : decode prog_7_method_16_code 7 = .ok (.iconst 0, 1) := by decide +kernel
theorem dt_Ri_leastLike_8 : decode prog_7_method_16_code 8 = .ok (.goto 8, 3) := by decide +kernel
theorem dt_Ri_leastLike_11 : decode prog_7_method_16_code 11 = .ok (.aload_n 0, 1) := by decide +kernel
theorem dt_Ri_leastLike_12 : decode prog_7_method_16_code 12 = .ok (.iconst 0, 1) := by decide +kernel
theorem dt_Ri_leastLike_13 : decode prog_7_method_16_code 13 = .ok (.invokevirtual 110, 3) := by decide +kernel
theorem dt_Ri_leastLike_16 : decode prog_7_method_16_code 16 = .ok (.istore_n 1, 1) := by decide +kernel
theorem dt_Ri_leastLike_17 : decode prog_7_method_16_code 17 = .ok (.iconst 1, 1) := by decide +kernel
theorem dt_Ri_leastLike_18 : decode prog_7_method_16_code 18 = .ok (.istore_n 2, 1) := by decide +kernel
theorem dt_Ri_leastLike_19 : decode prog_7_method_16_code 19 = .ok (.iload_n 2, 1) := by decide +kernel
theorem dt_Ri_leastLike_20 : decode prog_7_method_16_code 20 = .ok (.aload_n 0, 1) := by decide +kernel
theorem dt_Ri_leastLike_21 : decode prog_7_method_16_code 21 = .ok (.getfield 64, 3) := by decide +kernel
theorem dt_Ri_leastLike_24 : decode prog_7_method_16_code 24 = .ok (.if_icmp .ge 19, 3) := by decide +kernel
theorem dt_Ri_leastLike_27 : decode prog_7_method_16_code 27 = .ok (.iload_n 1, 1) := by decide +kernel
theorem dt_Ri_leastLike_28 : decode prog_7_method_16_code 28 = .ok (.aload_n 0, 1) := by decide +kernel
theorem dt_Ri_leastLike_29 : decode prog_7_method_16_code 29 = .ok (.iload_n 2, 1) := by decide +kernel
theorem dt_Ri_leastLike_30 : decode prog_7_method_16_code 30 = .ok (.invokevirtual 110, 3) := by decide +kernel
theorem dt_Ri_leastLike_33 : decode prog_7_method_16_code 33 = .ok (.invokestatic 118, 3) := by decide +kernel
theorem dt_Ri_leastLike_36 : decode prog_7_method_16_code 36 = .ok (.istore_n 1, 1) := by decide +kernel
theorem dt_Ri_leastLike_37 : decode prog_7_method_16_code 37 = .ok (.iinc 2 1, 3) := by decide +kernel
theorem dt_Ri_leastLike_40 : decode prog_7_method_16_code 40 = .ok (.goto (-21), 3) := by decide +kernel
theorem dt_Ri_leastLike_43 : decode prog_7_method_16_code 43 = .ok (.iload_n 1, 1) := by decide +kernel
theorem dt_Ri_leastLike_44 : decode prog_7_method_16_code 44 = .ok (.ireturn, 1) := by decide +kernel
set_option maxHeartbeats 4000000 in
set_option maxRecDepth 10000 in
theorem tm_Ri_leastLike {N : Nat} {T : Nat → tm_S} {w : ab_W} {o : Nat} (hW : tm_W N T w) (h_o : is_Ri T o) : ab_Mt g_G g_rs mt_Ri_leastLike 3 0 0 [ab_R o] w (tm_P w (fun v => (-2147483648) ≤ v ∧ v ≤ 2147483647)) := by
  obtain ⟨ot0, ot1, ot2, ot3, ot4, ot5, ot6, ot7, ot8, ot9, ot10, ot11, ot12⟩ := id h_o
  have od := is_Ri.d h_o
  refine ab_Mt.of rfl (Nat.le_of_ble_eq_true rfl) ?_
  show ab_Ev g_G g_rs mt_Ri_leastLike _ _ _ 0 [some (ab_R o), none, none] [] _ _
  refine ev_aload_n dt_Ri_leastLike_0 rfl rfl ?_
  refine tm_getI (K := 7) dt_Ri_leastLike_1 hW ot0 fl_Ri_64 rfl rfl (fun v74 kv74 lv74 uv74 => ?_)
  refine ev_if_ne (tgt := 11) dt_Ri_leastLike_4 (by decide) (by omega) (fun h75 => ?_) (fun h75 => ?_)
  · skip
    refine ev_aload_n dt_Ri_leastLike_11 rfl rfl ?_
    refine ev_iconst dt_Ri_leastLike_12 ?_
    refine tm_vp dt_Ri_leastLike_13 (tm_Ri_likesNow hW h_o (0) (by omega) (by omega)) kb_Ri_110 ⟨im_Ri_likesNow, se_Ri_likesNow⟩ rfl hW ot0 rfl (Nat.le_of_ble_eq_true rfl) (by decide) (fun v76 hv76 => ?_)
    refine ev_istore_n (l' := [_, _, _]) dt_Ri_leastLike_16 rfl (Nat.le_of_ble_eq_true rfl) rfl ?_
    refine ev_iconst dt_Ri_leastLike_17 ?_
    refine ev_istore_n (l' := [_, _, _]) dt_Ri_leastLike_18 rfl (Nat.le_of_ble_eq_true rfl) rfl ?_
    have L77 : ∀ (n : Nat) (i78 : Int) (i79 : Int) , (-2147483648) ≤ i78 → i78 ≤ 2147483647 → 1 ≤ i79 → i79 ≤ 7 → 7 - i79 < (n : Int) → ab_Ev g_G g_rs mt_Ri_leastLike 3 0 0 19 [some (ab_R o), some (ab_I i78), some (ab_I i79)] [] w (tm_P w (fun v => (-2147483648) ≤ v ∧ v ≤ 2147483647)) := by
      intro n
      induction n with
      | zero =>
        intro i78 i79  li78 ui78 li79 ui79 mL77
        exfalso
        omega
      | succ nL77 ihL77 =>
        intro i78 i79  li78 ui78 li79 ui79 mL77
        refine ev_iload_n dt_Ri_leastLike_19 rfl rfl ?_
        refine ev_aload_n dt_Ri_leastLike_20 rfl rfl ?_
        refine tm_getK (K := 7) dt_Ri_leastLike_21 hW ot0 fl_Ri_64 rfl kv74 ?_
        refine ev_icmp_ge (tgt := 43) dt_Ri_leastLike_24 (by decide) (by omega) (by omega) (fun h80 => ?_) (fun h80 => ?_)
        · skip
          refine ev_iload_n dt_Ri_leastLike_43 rfl rfl ?_
          exact ev_ireturn dt_Ri_leastLike_44 rfl ⟨rfl, _, rfl, by omega⟩
        · skip
          refine ev_iload_n dt_Ri_leastLike_27 rfl rfl ?_
          refine ev_aload_n dt_Ri_leastLike_28 rfl rfl ?_
          refine ev_iload_n dt_Ri_leastLike_29 rfl rfl ?_
          refine tm_vp dt_Ri_leastLike_30 (tm_Ri_likesNow hW h_o (i79) (by omega) (by omega)) kb_Ri_110 ⟨im_Ri_likesNow, se_Ri_likesNow⟩ rfl hW ot0 rfl (Nat.le_of_ble_eq_true rfl) (by decide) (fun v81 hv81 => ?_)
          refine tm_min (by omega) (by omega) dt_Ri_leastLike_33 mk_Ri_118 (Nat.le_of_ble_eq_true rfl) (by decide) (fun v82 x1 x2 x3 => ?_)
          have hv82 : (-2147483648) ≤ v82 ∧ v82 ≤ 2147483647 := by omega
          clear x1 x2 x3
          refine ev_istore_n (l' := [_, _, _]) dt_Ri_leastLike_36 rfl (Nat.le_of_ble_eq_true rfl) rfl ?_
          refine ev_iinc (l' := [_, _, _]) dt_Ri_leastLike_37 rfl rfl ?_
          refine ev_goto (tgt := 19) dt_Ri_leastLike_40 (by decide) ?_
          exact tm_loc (tm_le_s (tm_le_s (tm_le_s tm_le_0))) (ihL77 (v82) ((i79 + 1)) (by omega) (by omega) (by omega) (by omega) (by omega))
    exact tm_loc (tm_le_s (tm_le_s (tm_le_s tm_le_0))) (L77 (7 - (1) + 1 : Int).toNat (v76) (1)  (by omega) (by omega) (by omega) (by omega) (by omega))
  · skip
    refine ev_iconst dt_Ri_leastLike_7 ?_
    refine ev_goto (tgt := 16) dt_Ri_leastLike_8 (by decide) ?_
    refine ev_istore_n (l' := [_, _, _]) dt_Ri_leastLike_16 rfl (Nat.le_of_ble_eq_true rfl) rfl ?_
    refine ev_iconst dt_Ri_leastLike_17 ?_
    refine ev_istore_n (l' := [_, _, _]) dt_Ri_leastLike_18 rfl (Nat.le_of_ble_eq_true rfl) rfl ?_
    have L83 : ∀ (n : Nat) (i84 : Int) (i85 : Int) , (-2147483648) ≤ i84 → i84 ≤ 2147483647 → 1 ≤ i85 → i85 ≤ 7 → 7 - i85 < (n : Int) → ab_Ev g_G g_rs mt_Ri_leastLike 3 0 0 19 [some (ab_R o), some (ab_I i84), some (ab_I i85)] [] w (tm_P w (fun v => (-2147483648) ≤ v ∧ v ≤ 2147483647)) := by
      intro n
      induction n with
      | zero =>
        intro i84 i85  li84 ui84 li85 ui85 mL83
        exfalso
        omega
      | succ nL83 ihL83 =>
        intro i84 i85  li84 ui84 li85 ui85 mL83
        refine ev_iload_n dt_Ri_leastLike_19 rfl rfl ?_
        refine ev_aload_n dt_Ri_leastLike_20 rfl rfl ?_
        refine tm_getK (K := 7) dt_Ri_leastLike_21 hW ot0 fl_Ri_64 rfl kv74 ?_
        refine ev_icmp_ge (tgt := 43) dt_Ri_leastLike_24 (by decide) (by omega) (by omega) (fun h86 => ?_) (fun h86 => ?_)
        · skip
          refine ev_iload_n dt_Ri_leastLike_43 rfl rfl ?_
          exact ev_ireturn dt_Ri_leastLike_44 rfl ⟨rfl, _, rfl, by omega⟩
        · skip
          exfalso
          omega
    exact tm_loc (tm_le_s (tm_le_s (tm_le_s tm_le_0))) (L83 (7 - (1) + 1 : Int).toNat (0) (1)  (by omega) (by omega) (by omega) (by omega) (by omega))
theorem dt_Ri_atGates_0 : decode prog_7_method_17_code 0 = .ok (.iconst 0, 1) := by decide +kernel
theorem dt_Ri_atGates_1 : decode prog_7_method_17_code 1 = .ok (.istore_n 1, 1) := by decide +kernel
theorem dt_Ri_atGates_2 : decode prog_7_method_17_code 2 = .ok (.iconst 0, 1) := by decide +kernel
theorem dt_Ri_atGates_3 : decode prog_7_method_17_code 3 = .ok (.istore_n 2, 1) := by decide +kernel
theorem dt_Ri_atGates_4 : decode prog_7_method_17_code 4 = .ok (.iload_n 2, 1) := by decide +kernel
theorem dt_Ri_atGates_5 : decode prog_7_method_17_code 5 = .ok (.aload_n 0, 1) := by decide +kernel
theorem dt_Ri_atGates_6 : decode prog_7_method_17_code 6 = .ok (.getfield 64, 3) := by decide +kernel
theorem dt_Ri_atGates_9 : decode prog_7_method_17_code 9 = .ok (.if_icmp .ge 24, 3) := by decide +kernel
theorem dt_Ri_atGates_12 : decode prog_7_method_17_code 12 = .ok (.aload_n 0, 1) := by decide +kernel
theorem dt_Ri_atGates_13 : decode prog_7_method_17_code 13 = .ok (.aload_n 0, 1) := by decide +kernel
theorem dt_Ri_atGates_14 : decode prog_7_method_17_code 14 = .ok (.iload_n 2, 1) := by decide +kernel
theorem dt_Ri_atGates_15 : decode prog_7_method_17_code 15 = .ok (.invokevirtual 99, 3) := by decide +kernel
theorem dt_Ri_atGates_18 : decode prog_7_method_17_code 18 = .ok (.invokevirtual 121, 3) := by decide +kernel
theorem dt_Ri_atGates_21 : decode prog_7_method_17_code 21 = .ok (.ifCond .eq 6, 3) := by decide +kernel
theorem dt_Ri_atGates_24 : decode prog_7_method_17_code 24 = .ok (.iinc 1 1, 3) := by decide +kernel
theorem dt_Ri_atGates_27 : decode prog_7_method_17_code 27 = .ok (.iinc 2 1, 3) := by decide +kernel
theorem dt_Ri_atGates_30 : decode prog_7_method_17_code 30 = .ok (.goto (-26), 3) := by decide +kernel
theorem dt_Ri_atGates_33 : decode prog_7_method_17_code 33 = .ok (.iload_n 1, 1) := by decide +kernel
theorem dt_Ri_atGates_34 : decode prog_7_method_17_code 34 = .ok (.ireturn, 1) := by decide +kernel
set_option maxHeartbeats 4000000 in
set_option maxRecDepth 10000 in
theorem tm_Ri_atGates {N : Nat} {T : Nat → tm_S} {w : ab_W} {o : Nat} (hW : tm_W N T w) (h_o : is_Ri T o) : ab_Mt g_G g_rs mt_Ri_atGates 2 0 0 [ab_R o] w (tm_P w (fun v => 0 ≤ v ∧ v ≤ 7)) := by
  obtain ⟨ot0, ot1, ot2, ot3, ot4, ot5, ot6, ot7, ot8, ot9, ot10, ot11, ot12⟩ := id h_o
  have od := is_Ri.d h_o
  refine ab_Mt.of rfl (Nat.le_of_ble_eq_true rfl) ?_
  show ab_Ev g_G g_rs mt_Ri_atGates _ _ _ 0 [some (ab_R o), none, none] [] _ _
  refine ev_iconst dt_Ri_atGates_0 ?_
  refine ev_istore_n (l' := [_, _, _]) dt_Ri_atGates_1 rfl (Nat.le_of_ble_eq_true rfl) rfl ?_
  refine ev_iconst dt_Ri_atGates_2 ?_
  refine ev_istore_n (l' := [_, _, _]) dt_Ri_atGates_3 rfl (Nat.le_of_ble_eq_true rfl) rfl ?_
  have L87 : ∀ (n : Nat) (i88 : Int) (i89 : Int) , 0 ≤ i88 → i88 ≤ 7 → 0 ≤ i89 → i89 ≤ 7 → i88 ≤ i89 → 7 - i89 < (n : Int) → ab_Ev g_G g_rs mt_Ri_atGates 2 0 0 4 [some (ab_R o), some (ab_I i88), some (ab_I i89)] [] w (tm_P w (fun v => 0 ≤ v ∧ v ≤ 7)) := by
    intro n
    induction n with
    | zero =>
      intro i88 i89  li88 ui88 li89 ui89 q0L87 mL87
      exfalso
      omega
    | succ nL87 ihL87 =>
      intro i88 i89  li88 ui88 li89 ui89 q0L87 mL87
      refine ev_iload_n dt_Ri_atGates_4 rfl rfl ?_
      refine ev_aload_n dt_Ri_atGates_5 rfl rfl ?_
      refine tm_getI (K := 7) dt_Ri_atGates_6 hW ot0 fl_Ri_64 rfl rfl (fun v90 kv90 lv90 uv90 => ?_)
      refine ev_icmp_ge (tgt := 33) dt_Ri_atGates_9 (by decide) (by omega) (by omega) (fun h91 => ?_) (fun h91 => ?_)
      · skip
        refine ev_iload_n dt_Ri_atGates_33 rfl rfl ?_
        exact ev_ireturn dt_Ri_atGates_34 rfl ⟨rfl, _, rfl, by omega⟩
      · skip
        refine ev_aload_n dt_Ri_atGates_12 rfl rfl ?_
        refine ev_aload_n dt_Ri_atGates_13 rfl rfl ?_
        refine ev_iload_n dt_Ri_atGates_14 rfl rfl ?_
        refine tm_vp dt_Ri_atGates_15 (tm_Ri_facing hW h_o (i89) (by omega) (by omega)) kb_Ri_99 ⟨im_Ri_facing, se_Ri_facing⟩ rfl hW ot0 rfl (Nat.le_of_ble_eq_true rfl) (by decide) (fun v92 hv92 => ?_)
        refine tm_vp dt_Ri_atGates_18 (tm_Ri_isGate hW h_o (v92) (by omega) (by omega)) kb_Ri_121 ⟨im_Ri_isGate, se_Ri_isGate⟩ rfl hW ot0 rfl (Nat.le_of_ble_eq_true rfl) (by decide) (fun v93 hv93 => ?_)
        refine ev_if_eq (tgt := 27) dt_Ri_atGates_21 (by decide) (by omega) (fun h94 => ?_) (fun h94 => ?_)
        · skip
          refine ev_iinc (l' := [_, _, _]) dt_Ri_atGates_27 rfl rfl ?_
          refine ev_goto (tgt := 4) dt_Ri_atGates_30 (by decide) ?_
          exact tm_loc (tm_le_s (tm_le_s (tm_le_s tm_le_0))) (ihL87 (i88) ((i89 + 1)) (by omega) (by omega) (by omega) (by omega) (by omega) (by omega))
        · skip
          refine ev_iinc (l' := [_, _, _]) dt_Ri_atGates_24 rfl rfl ?_
          refine ev_iinc (l' := [_, _, _]) dt_Ri_atGates_27 rfl rfl ?_
          refine ev_goto (tgt := 4) dt_Ri_atGates_30 (by decide) ?_
          exact tm_loc (tm_le_s (tm_le_s (tm_le_s tm_le_0))) (ihL87 ((i88 + 1)) ((i89 + 1)) (by omega) (by omega) (by omega) (by omega) (by omega) (by omega))
  exact tm_loc (tm_le_s (tm_le_s (tm_le_s tm_le_0))) (L87 (7 - (0) + 1 : Int).toNat (0) (0)  (by omega) (by omega) (by omega) (by omega) (by omega) (by omega))
theorem dt_Ri_hourOn_0 : decode prog_7_method_23_code 0 = .ok (.aload_n 0, 1) := by decide +kernel
theorem dt_Ri_hourOn_1 : decode prog_7_method_23_code 1 = .ok (.getfield 49, 3) := by decide +kernel
theorem dt_Ri_hourOn_4 : decode prog_7_method_23_code 4 = .ok (.iload_n 1, 1) := by decide +kernel
theorem dt_Ri_hourOn_5 : decode prog_7_method_23_code 5 = .ok (.iadd, 1) := by decide +kernel
theorem dt_Ri_hourOn_6 : decode prog_7_method_23_code 6 = .ok (.bipush 24, 2) := by decide +kernel
theorem dt_Ri_hourOn_8 : decode prog_7_method_23_code 8 = .ok (.irem, 1) := by decide +kernel
theorem dt_Ri_hourOn_9 : decode prog_7_method_23_code 9 = .ok (.ireturn, 1) := by decide +kernel
set_option maxHeartbeats 4000000 in
set_option maxRecDepth 10000 in
theorem tm_Ri_hourOn {N : Nat} {T : Nat → tm_S} {w : ab_W} {o : Nat} (hW : tm_W N T w) (h_o : is_Ri T o) (a : Int) (l_a : 0 ≤ a) (u_a : a ≤ 1000) : ab_Mt g_G g_rs mt_Ri_hourOn 0 0 0 [ab_R o, ab_I a] w (tm_P w (fun v => 0 ≤ v ∧ v ≤ 23)) := by
  obtain ⟨ot0, ot1, ot2, ot3, ot4, ot5, ot6, ot7, ot8, ot9, ot10, ot11, ot12⟩ := id h_o
  have od := is_Ri.d h_o
  refine ab_Mt.of rfl (Nat.le_of_ble_eq_true rfl) ?_
  show ab_Ev g_G g_rs mt_Ri_hourOn _ _ _ 0 [some (ab_R o), some (ab_I a)] [] _ _
  refine ev_aload_n dt_Ri_hourOn_0 rfl rfl ?_
  refine tm_getI (K := 2) dt_Ri_hourOn_1 hW ot0 fl_Ri_49 rfl rfl (fun v95 kv95 lv95 uv95 => ?_)
  refine ev_iload_n dt_Ri_hourOn_4 rfl rfl ?_
  refine ev_iadd dt_Ri_hourOn_5 ?_
  refine ev_bipush dt_Ri_hourOn_6 rfl ?_
  refine tm_irem dt_Ri_hourOn_8 (by omega) (by omega) (by omega) (fun v96 x1 x2 x3 x4 => ?_)
  have hv96 : 0 ≤ v96 ∧ v96 ≤ 23 := by omega
  clear x1 x2 x3 x4
  exact ev_ireturn dt_Ri_hourOn_9 rfl ⟨rfl, _, rfl, by omega⟩
theorem dt_Ri_angleBehind_0 : decode prog_7_method_24_code 0 = .ok (.aload_n 0, 1) := by decide +kernel
theorem dt_Ri_angleBehind_1 : decode prog_7_method_24_code 1 = .ok (.getfield 55, 3) := by decide +kernel
theorem dt_Ri_angleBehind_4 : decode prog_7_method_24_code 4 = .ok (.ifCond .eq 11, 3) := by decide +kernel
theorem dt_Ri_angleBehind_7 : decode prog_7_method_24_code 7 = .ok (.iload_n 2, 1) := by decide +kernel
theorem dt_Ri_angleBehind_8 : decode prog_7_method_24_code 8 = .ok (.ifCond .ne 7, 3) := by decide +kernel
theorem dt_Ri_angleBehind_11 : decode prog_7_method_24_code 11 = .ok (.iload_n 1, 1) := by decide +kernel
theorem dt_Ri_angleBehind_12 : decode prog_7_method_24_code 12 = .ok (.goto 18, 3) := by decide +kernel
theorem dt_Ri_angleBehind_15 : decode prog_7_method_24_code 15 = .ok (.iload_n 1, 1) := by decide +kernel
theorem dt_Ri_angleBehind_16 : decode prog_7_method_24_code 16 = .ok (.aload_n 0, 1) := by decide +kernel
theorem dt_Ri_angleBehind_17 : decode prog_7_method_24_code 17 = .ok (.getfield 28, 3) := by decide +kernel
theorem dt_Ri_angleBehind_20 : decode prog_7_method_24_code 20 = .ok (.aload_n 0, 1) := by decide +kernel
theorem dt_Ri_angleBehind_21 : decode prog_7_method_24_code 21 = .ok (.iload_n 2, 1) := by decide +kernel
theorem dt_Ri_angleBehind_22 : decode prog_7_method_24_code 22 = .ok (.invokevirtual 125, 3) := by decide +kernel
theorem dt_Ri_angleBehind_25 : decode prog_7_method_24_code 25 = .ok (.iaload, 1) := by decide +kernel
theorem dt_Ri_angleBehind_26 : decode prog_7_method_24_code 26 = .ok (.iadd, 1) := by decide +kernel
theorem dt_Ri_angleBehind_27 : decode prog_7_method_24_code 27 = .ok (.invokestatic 131, 3) := by decide +kernel
theorem dt_Ri_angleBehind_30 : decode prog_7_method_24_code 30 = .ok (.ireturn, 1) := by decide +kernel
set_option maxHeartbeats 4000000 in
set_option maxRecDepth 10000 in
theorem tm_Ri_angleBehind {N : Nat} {T : Nat → tm_S} {w : ab_W} {o : Nat} (hW : tm_W N T w) (h_o : is_Ri T o) (a : Int) (l_a : 0 ≤ a) (u_a : a ≤ 11) (b : Int) (l_b : 0 ≤ b) (u_b : b ≤ 1000) : ab_Mt g_G g_rs mt_Ri_angleBehind 1 0 0 [ab_R o, ab_I a, ab_I b] w (tm_P w (fun v => 0 ≤ v ∧ v ≤ 11)) := by
  obtain ⟨ot0, ot1, ot2, ot3, ot4, ot5, ot6, ot7, ot8, ot9, ot10, ot11, ot12⟩ := id h_o
  have od := is_Ri.d h_o
  refine ab_Mt.of rfl (Nat.le_of_ble_eq_true rfl) ?_
  show ab_Ev g_G g_rs mt_Ri_angleBehind _ _ _ 0 [some (ab_R o), some (ab_I a), some (ab_I b)] [] _ _
  refine ev_aload_n dt_Ri_angleBehind_0 rfl rfl ?_
  refine tm_getI (K := 4) dt_Ri_angleBehind_1 hW ot0 fl_Ri_55 rfl rfl (fun v97 kv97 lv97 uv97 => ?_)
  refine ev_if_eq (tgt := 15) dt_Ri_angleBehind_4 (by decide) (by omega) (fun h98 => ?_) (fun h98 => ?_)
  · skip
    refine ev_iload_n dt_Ri_angleBehind_15 rfl rfl ?_
    refine ev_aload_n dt_Ri_angleBehind_16 rfl rfl ?_
    refine tm_getR dt_Ri_angleBehind_17 hW ot0 fl_Ri_28 rfl ?_
    refine ev_aload_n dt_Ri_angleBehind_20 rfl rfl ?_
    refine ev_iload_n dt_Ri_angleBehind_21 rfl rfl ?_
    refine tm_vp dt_Ri_angleBehind_22 (tm_Ri_hourOn hW h_o (b) (by omega) (by omega)) kb_Ri_125 ⟨im_Ri_hourOn, se_Ri_hourOn⟩ rfl hW ot0 rfl (Nat.le_of_ble_eq_true rfl) (by decide) (fun v99 hv99 => ?_)
    refine tm_iaload dt_Ri_angleBehind_25 hW ot6 (by omega) (by omega) (by omega) (fun v100 kv100 lv100 uv100 => ?_)
    refine ev_iadd dt_Ri_angleBehind_26 ?_
    refine tm_any (fun v101 hv101 _ => ?_)
    refine tm_sp dt_Ri_angleBehind_27 (tm_Tu_wrapped hW (v101) (by omega) (by omega)) kb_Ri_131 sc_Tu_wrapped rfl (Nat.le_of_ble_eq_true rfl) (by decide) (fun v102 hv102 => ?_)
    exact ev_ireturn dt_Ri_angleBehind_30 rfl ⟨rfl, _, rfl, by omega⟩
  · skip
    refine ev_iload_n dt_Ri_angleBehind_7 rfl rfl ?_
    refine ev_if_ne (tgt := 15) dt_Ri_angleBehind_8 (by decide) (by omega) (fun h103 => ?_) (fun h103 => ?_)
    · skip
      refine ev_iload_n dt_Ri_angleBehind_15 rfl rfl ?_
      refine ev_aload_n dt_Ri_angleBehind_16 rfl rfl ?_
      refine tm_getR dt_Ri_angleBehind_17 hW ot0 fl_Ri_28 rfl ?_
      refine ev_aload_n dt_Ri_angleBehind_20 rfl rfl ?_
      refine ev_iload_n dt_Ri_angleBehind_21 rfl rfl ?_
      refine tm_vp dt_Ri_angleBehind_22 (tm_Ri_hourOn hW h_o (b) (by omega) (by omega)) kb_Ri_125 ⟨im_Ri_hourOn, se_Ri_hourOn⟩ rfl hW ot0 rfl (Nat.le_of_ble_eq_true rfl) (by decide) (fun v104 hv104 => ?_)
      refine tm_iaload dt_Ri_angleBehind_25 hW ot6 (by omega) (by omega) (by omega) (fun v105 kv105 lv105 uv105 => ?_)
      refine ev_iadd dt_Ri_angleBehind_26 ?_
      refine tm_any (fun v106 hv106 _ => ?_)
      refine tm_sp dt_Ri_angleBehind_27 (tm_Tu_wrapped hW (v106) (by omega) (by omega)) kb_Ri_131 sc_Tu_wrapped rfl (Nat.le_of_ble_eq_true rfl) (by decide) (fun v107 hv107 => ?_)
      exact ev_ireturn dt_Ri_angleBehind_30 rfl ⟨rfl, _, rfl, by omega⟩
    · skip
      refine ev_iload_n dt_Ri_angleBehind_11 rfl rfl ?_
      refine ev_goto (tgt := 30) dt_Ri_angleBehind_12 (by decide) ?_
      exact ev_ireturn dt_Ri_angleBehind_30 rfl ⟨rfl, _, rfl, by omega⟩
theorem dt_Ri_dayIn_0 : decode prog_7_method_18_code 0 = .ok (.iconst 0, 1) := by decide +kernel
theorem dt_Ri_dayIn_1 : decode prog_7_method_18_code 1 = .ok (.istore_n 3, 1) := by decide +kernel
theorem dt_Ri_dayIn_2 : decode prog_7_method_18_code 2 = .ok (.aload_n 0, 1) := by decide +kernel
theorem dt_Ri_dayIn_3 : decode prog_7_method_18_code 3 = .ok (.getfield 45, 3) := by decide +kernel
theorem dt_Ri_dayIn_6 : decode prog_7_method_18_code 6 = .ok (.istore 4, 2) := by decide +kernel
theorem dt_Ri_dayIn_8 : decode prog_7_method_18_code 8 = .ok (.iconst 0, 1) := by decide +kernel
theorem dt_Ri_dayIn_9 : decode prog_7_method_18_code 9 = .ok (.istore 5, 2) := by decide +kernel
theorem dt_Ri_dayIn_11 : decode prog_7_method_18_code 11 = .ok (.iload 5, 2) := by decide +kernel
theorem dt_Ri_dayIn_13 : decode prog_7_method_18_code 13 = .ok (.bipush 24, 2) := by decide +kernel
theorem dt_Ri_dayIn_15 : decode prog_7_method_18_code 15 = .ok (.if_icmp .ge 36, 3) := by decide +kernel
theorem dt_Ri_dayIn_18 : decode prog_7_method_18_code 18 = .ok (.iload_n 3, 1) := by decide +kernel
theorem dt_Ri_dayIn_19 : decode prog_7_method_18_code 19 = .ok (.aload_n 0, 1) := by decide +kernel
theorem dt_Ri_dayIn_20 : decode prog_7_method_18_code 20 = .ok (.iload_n 1, 1) := by decide +kernel
theorem dt_Ri_dayIn_21 : decode prog_7_method_18_code 21 = .ok (.iload_n 2, 1) := by decide +kernel
theorem dt_Ri_dayIn_22 : decode prog_7_method_18_code 22 = .ok (.iload 4, 2) := by decide +kernel
theorem dt_Ri_dayIn_24 : decode prog_7_method_18_code 24 = .ok (.aload_n 0, 1) := by decide +kernel
theorem dt_Ri_dayIn_25 : decode prog_7_method_18_code 25 = .ok (.iload 5, 2) := by decide +kernel
theorem dt_Ri_dayIn_27 : decode prog_7_method_18_code 27 = .ok (.invokevirtual 125, 3) := by decide +kernel
theorem dt_Ri_dayIn_30 : decode prog_7_method_18_code 30 = .ok (.invokevirtual 106, 3) := by decide +kernel
theorem dt_Ri_dayIn_33 : decode prog_7_method_18_code 33 = .ok (.iadd, 1) := by decide +kernel
theorem dt_Ri_dayIn_34 : decode prog_7_method_18_code 34 = .ok (.istore_n 3, 1) := by decide +kernel
theorem dt_Ri_dayIn_35 : decode prog_7_method_18_code 35 = .ok (.aload_n 0, 1) := by decide +kernel
theorem dt_Ri_dayIn_36 : decode prog_7_method_18_code 36 = .ok (.iload 4, 2) := by decide +kernel
theorem dt_Ri_dayIn_38 : decode prog_7_method_18_code 38 = .ok (.iload 5, 2) := by decide +kernel
theorem dt_Ri_dayIn_40 : decode prog_7_method_18_code 40 = .ok (.invokevirtual 128, 3) := by decide +kernel
theorem dt_Ri_dayIn_43 : decode prog_7_method_18_code 43 = .ok (.istore 4, 2) := by decide +kernel
theorem dt_Ri_dayIn_45 : decode prog_7_method_18_code 45 = .ok (.iinc 5 1, 3) := by decide +kernel
theorem dt_Ri_dayIn_48 : decode prog_7_method_18_code 48 = .ok (.goto (-37), 3) := by decide +kernel
theorem dt_Ri_dayIn_51 : decode prog_7_method_18_code 51 = .ok (.iload_n 3, 1) := by decide +kernel
theorem dt_Ri_dayIn_52 : decode prog_7_method_18_code 52 = .ok (.ireturn, 1) := by decide +kernel
set_option maxHeartbeats 4000000 in
set_option maxRecDepth 10000 in
theorem tm_Ri_dayIn {N : Nat} {T : Nat → tm_S} {w : ab_W} {o : Nat} (hW : tm_W N T w) (h_o : is_Ri T o) (a : Int) (l_a : 0 ≤ a) (u_a : a ≤ 6) (b : Int) (l_b : 0 ≤ b) (u_b : b ≤ 11) : ab_Mt g_G g_rs mt_Ri_dayIn 2 0 0 [ab_R o, ab_I a, ab_I b] w (tm_P w (fun v => (-2147483648) ≤ v ∧ v ≤ 2147483647)) := by
  obtain ⟨ot0, ot1, ot2, ot3, ot4, ot5, ot6, ot7, ot8, ot9, ot10, ot11, ot12⟩ := id h_o
  have od := is_Ri.d h_o
  refine ab_Mt.of rfl (Nat.le_of_ble_eq_true rfl) ?_
  show ab_Ev g_G g_rs mt_Ri_dayIn _ _ _ 0 [some (ab_R o), some (ab_I a), some (ab_I b), none, none, none] [] _ _
  refine ev_iconst dt_Ri_dayIn_0 ?_
  refine ev_istore_n (l' := [_, _, _, _, _, _]) dt_Ri_dayIn_1 rfl (Nat.le_of_ble_eq_true rfl) rfl ?_
  refine ev_aload_n dt_Ri_dayIn_2 rfl rfl ?_
  refine tm_getI (K := 1) dt_Ri_dayIn_3 hW ot0 fl_Ri_45 rfl rfl (fun v114 kv114 lv114 uv114 => ?_)
  refine ev_istore (l' := [_, _, _, _, _, _]) dt_Ri_dayIn_6 (Nat.le_of_ble_eq_true rfl) rfl ?_
  refine ev_iconst dt_Ri_dayIn_8 ?_
  refine ev_istore (l' := [_, _, _, _, _, _]) dt_Ri_dayIn_9 (Nat.le_of_ble_eq_true rfl) rfl ?_
  have L115 : ∀ (n : Nat) (i116 : Int) (i117 : Int) (i118 : Int) , (-2147483648) ≤ i116 → i116 ≤ 2147483647 → 0 ≤ i117 → i117 ≤ 11 → 0 ≤ i118 → i118 ≤ 24 → 24 - i118 < (n : Int) → ab_Ev g_G g_rs mt_Ri_dayIn 2 0 0 11 [some (ab_R o), some (ab_I a), some (ab_I b), some (ab_I i116), some (ab_I i117), some (ab_I i118)] [] w (tm_P w (fun v => (-2147483648) ≤ v ∧ v ≤ 2147483647)) := by
    intro n
    induction n with
    | zero =>
      intro i116 i117 i118  li116 ui116 li117 ui117 li118 ui118 mL115
      exfalso
      omega
    | succ nL115 ihL115 =>
      intro i116 i117 i118  li116 ui116 li117 ui117 li118 ui118 mL115
      refine ev_iload dt_Ri_dayIn_11 rfl ?_
      refine ev_bipush dt_Ri_dayIn_13 rfl ?_
      refine ev_icmp_ge (tgt := 51) dt_Ri_dayIn_15 (by decide) (by omega) (by omega) (fun h119 => ?_) (fun h119 => ?_)
      · skip
        refine ev_iload_n dt_Ri_dayIn_51 rfl rfl ?_
        exact ev_ireturn dt_Ri_dayIn_52 rfl ⟨rfl, _, rfl, by omega⟩
      · skip
        refine ev_iload_n dt_Ri_dayIn_18 rfl rfl ?_
        refine ev_aload_n dt_Ri_dayIn_19 rfl rfl ?_
        refine ev_iload_n dt_Ri_dayIn_20 rfl rfl ?_
        refine ev_iload_n dt_Ri_dayIn_21 rfl rfl ?_
        refine ev_iload dt_Ri_dayIn_22 rfl ?_
        refine ev_aload_n dt_Ri_dayIn_24 rfl rfl ?_
        refine ev_iload dt_Ri_dayIn_25 rfl ?_
        refine tm_vp dt_Ri_dayIn_27 (tm_Ri_hourOn hW h_o (i118) (by omega) (by omega)) kb_Ri_125 ⟨im_Ri_hourOn, se_Ri_hourOn⟩ rfl hW ot0 rfl (Nat.le_of_ble_eq_true rfl) (by decide) (fun v120 hv120 => ?_)
        refine tm_vp dt_Ri_dayIn_30 (tm_Ri_likesIn hW h_o (a) (by omega) (by omega) (b) (by omega) (by omega) (i117) (by omega) (by omega) (v120) (by omega) (by omega)) kb_Ri_106 ⟨im_Ri_likesIn, se_Ri_likesIn⟩ rfl hW ot0 rfl (Nat.le_of_ble_eq_true rfl) (by decide) (fun v121 hv121 => ?_)
        refine ev_iadd dt_Ri_dayIn_33 ?_
        refine tm_any (fun v122 hv122 _ => ?_)
        refine ev_istore_n (l' := [_, _, _, _, _, _]) dt_Ri_dayIn_34 rfl (Nat.le_of_ble_eq_true rfl) rfl ?_
        refine ev_aload_n dt_Ri_dayIn_35 rfl rfl ?_
        refine ev_iload dt_Ri_dayIn_36 rfl ?_
        refine ev_iload dt_Ri_dayIn_38 rfl ?_
        refine tm_vp dt_Ri_dayIn_40 (tm_Ri_angleBehind hW h_o (i117) (by omega) (by omega) (i118) (by omega) (by omega)) kb_Ri_128 ⟨im_Ri_angleBehind, se_Ri_angleBehind⟩ rfl hW ot0 rfl (Nat.le_of_ble_eq_true rfl) (by decide) (fun v123 hv123 => ?_)
        refine ev_istore (l' := [_, _, _, _, _, _]) dt_Ri_dayIn_43 (Nat.le_of_ble_eq_true rfl) rfl ?_
        refine ev_iinc (l' := [_, _, _, _, _, _]) dt_Ri_dayIn_45 rfl rfl ?_
        refine ev_goto (tgt := 11) dt_Ri_dayIn_48 (by decide) ?_
        exact tm_loc (tm_le_s (tm_le_s (tm_le_s (tm_le_s (tm_le_s (tm_le_s tm_le_0)))))) (ihL115 (v122) (v123) ((i118 + 1)) (by omega) (by omega) (by omega) (by omega) (by omega) (by omega) (by omega))
  exact tm_loc (tm_le_s (tm_le_s (tm_le_s (tm_le_s (tm_le_s (tm_le_s tm_le_0)))))) (L115 (24 - (0) + 1 : Int).toNat (0) (v114) (0)  (by omega) (by omega) (by omega) (by omega) (by omega) (by omega) (by omega))
theorem dt_Ri_wantsStay_0 : decode prog_7_method_19_code 0 = .ok (.aload_n 0, 1) := by decide +kernel
theorem dt_Ri_wantsStay_1 : decode prog_7_method_19_code 1 = .ok (.getfield 45, 3) := by decide +kernel
theorem dt_Ri_wantsStay_4 : decode prog_7_method_19_code 4 = .ok (.aload_n 0, 1) := by decide +kernel
theorem dt_Ri_wantsStay_5 : decode prog_7_method_19_code 5 = .ok (.getfield 28, 3) := by decide +kernel
theorem dt_Ri_wantsStay_8 : decode prog_7_method_19_code 8 = .ok (.aload_n 0, 1) := by decide +kernel
theorem dt_Ri_wantsStay_9 : decode prog_7_method_19_code 9 = .ok (.getfield 49, 3) := by decide +kernel
theorem dt_Ri_wantsStay_12 : decode prog_7_method_19_code 12 = .ok (.iaload, 1) := by decide +kernel
theorem dt_Ri_wantsStay_13 : decode prog_7_method_19_code 13 = .ok (.iadd, 1) := by decide +kernel
theorem dt_Ri_wantsStay_14 : decode prog_7_method_19_code 14 = .ok (.invokestatic 131, 3) := by decide +kernel
theorem dt_Ri_wantsStay_17 : decode prog_7_method_19_code 17 = .ok (.istore_n 2, 1) := by decide +kernel
theorem dt_Ri_wantsStay_18 : decode prog_7_method_19_code 18 = .ok (.aload_n 0, 1) := by decide +kernel
theorem dt_Ri_wantsStay_19 : decode prog_7_method_19_code 19 = .ok (.iload_n 1, 1) := by decide +kernel
theorem dt_Ri_wantsStay_20 : decode prog_7_method_19_code 20 = .ok (.aload_n 0, 1) := by decide +kernel
theorem dt_Ri_wantsStay_21 : decode prog_7_method_19_code 21 = .ok (.getfield 9, 3) := by decide +kernel
theorem dt_Ri_wantsStay_24 : decode prog_7_method_19_code 24 = .ok (.iload_n 1, 1) := by decide +kernel
theorem dt_Ri_wantsStay_25 : decode prog_7_method_19_code 25 = .ok (.iaload, 1) := by decide +kernel
theorem dt_Ri_wantsStay_26 : decode prog_7_method_19_code 26 = .ok (.aload_n 0, 1) := by decide +kernel
theorem dt_Ri_wantsStay_27 : decode prog_7_method_19_code 27 = .ok (.getfield 45, 3) := by decide +kernel
theorem dt_Ri_wantsStay_30 : decode prog_7_method_19_code 30 = .ok (.aload_n 0, 1) := by decide +kernel
theorem dt_Ri_wantsStay_31 : decode prog_7_method_19_code 31 = .ok (.getfield 49, 3) := by decide +kernel
theorem dt_Ri_wantsStay_34 : decode prog_7_method_19_code 34 = .ok (.invokevirtual 106, 3) := by decide +kernel
theorem dt_Ri_wantsStay_37 : decode prog_7_method_19_code 37 = .ok (.aload_n 0, 1) := by decide +kernel
theorem dt_Ri_wantsStay_38 : decode prog_7_method_19_code 38 = .ok (.iload_n 1, 1) := by decide +kernel
theorem dt_Ri_wantsStay_39 : decode prog_7_method_19_code 39 = .ok (.aload_n 0, 1) := by decide +kernel
theorem dt_Ri_wantsStay_40 : decode prog_7_method_19_code 40 = .ok (.getfield 9, 3) := by decide +kernel
theorem dt_Ri_wantsStay_43 : decode prog_7_method_19_code 43 = .ok (.iload_n 1, 1) := by decide +kernel
theorem dt_Ri_wantsStay_44 : decode prog_7_method_19_code 44 = .ok (.iaload, 1) := by decide +kernel
theorem dt_Ri_wantsStay_45 : decode prog_7_method_19_code 45 = .ok (.iload_n 2, 1) := by decide +kernel
theorem dt_Ri_wantsStay_46 : decode prog_7_method_19_code 46 = .ok (.aload_n 0, 1) := by decide +kernel
theorem dt_Ri_wantsStay_47 : decode prog_7_method_19_code 47 = .ok (.getfield 49, 3) := by decide +kernel
theorem dt_Ri_wantsStay_50 : decode prog_7_method_19_code 50 = .ok (.invokevirtual 106, 3) := by decide +kernel
theorem dt_Ri_wantsStay_53 : decode prog_7_method_19_code 53 = .ok (.if_icmp .le 7, 3) := by decide +kernel
theorem dt_Ri_wantsStay_56 : decode prog_7_method_19_code 56 = .ok (.iconst 1, 1) := by decide +kernel
theorem dt_Ri_wantsStay_57 : decode prog_7_method_19_code 57 = .ok (.goto 4, 3) := by decide +kernel
theorem dt_Ri_wantsStay_60 : decode prog_7_method_19_code 60 = .ok (.iconst 0, 1) := by decide +kernel
theorem dt_Ri_wantsStay_61 : decode prog_7_method_19_code 61 = .ok (.ireturn, 1) := by decide +kernel
set_option maxHeartbeats 4000000 in
set_option maxRecDepth 10000 in
theorem tm_Ri_wantsStay {N : Nat} {T : Nat → tm_S} {w : ab_W} {o : Nat} (hW : tm_W N T w) (h_o : is_Ri T o) (a : Int) (l_a : 0 ≤ a) (u_a : a ≤ 6) : ab_Mt g_G g_rs mt_Ri_wantsStay 2 0 0 [ab_R o, ab_I a] w (tm_P w (fun v => 0 ≤ v ∧ v ≤ 1)) := by
  obtain ⟨ot0, ot1, ot2, ot3, ot4, ot5, ot6, ot7, ot8, ot9, ot10, ot11, ot12⟩ := id h_o
  have od := is_Ri.d h_o
  refine ab_Mt.of rfl (Nat.le_of_ble_eq_true rfl) ?_
  show ab_Ev g_G g_rs mt_Ri_wantsStay _ _ _ 0 [some (ab_R o), some (ab_I a), none] [] _ _
  refine ev_aload_n dt_Ri_wantsStay_0 rfl rfl ?_
  refine tm_getI (K := 1) dt_Ri_wantsStay_1 hW ot0 fl_Ri_45 rfl rfl (fun v124 kv124 lv124 uv124 => ?_)
  refine ev_aload_n dt_Ri_wantsStay_4 rfl rfl ?_
  refine tm_getR dt_Ri_wantsStay_5 hW ot0 fl_Ri_28 rfl ?_
  refine ev_aload_n dt_Ri_wantsStay_8 rfl rfl ?_
  refine tm_getI (K := 2) dt_Ri_wantsStay_9 hW ot0 fl_Ri_49 rfl rfl (fun v125 kv125 lv125 uv125 => ?_)
  refine tm_iaload dt_Ri_wantsStay_12 hW ot6 (by omega) (by omega) (by omega) (fun v126 kv126 lv126 uv126 => ?_)
  refine ev_iadd dt_Ri_wantsStay_13 ?_
  refine tm_any (fun v127 hv127 _ => ?_)
  refine tm_sp dt_Ri_wantsStay_14 (tm_Tu_wrapped hW (v127) (by omega) (by omega)) kb_Ri_131 sc_Tu_wrapped rfl (Nat.le_of_ble_eq_true rfl) (by decide) (fun v128 hv128 => ?_)
  refine ev_istore_n (l' := [_, _, _]) dt_Ri_wantsStay_17 rfl (Nat.le_of_ble_eq_true rfl) rfl ?_
  refine ev_aload_n dt_Ri_wantsStay_18 rfl rfl ?_
  refine ev_iload_n dt_Ri_wantsStay_19 rfl rfl ?_
  refine ev_aload_n dt_Ri_wantsStay_20 rfl rfl ?_
  refine tm_getR dt_Ri_wantsStay_21 hW ot0 fl_Ri_9 rfl ?_
  refine ev_iload_n dt_Ri_wantsStay_24 rfl rfl ?_
  refine tm_iaload dt_Ri_wantsStay_25 hW ot1 (by omega) (by omega) (by omega) (fun v129 kv129 lv129 uv129 => ?_)
  refine ev_aload_n dt_Ri_wantsStay_26 rfl rfl ?_
  refine tm_getK (K := 1) dt_Ri_wantsStay_27 hW ot0 fl_Ri_45 rfl kv124 ?_
  refine ev_aload_n dt_Ri_wantsStay_30 rfl rfl ?_
  refine tm_getK (K := 2) dt_Ri_wantsStay_31 hW ot0 fl_Ri_49 rfl kv125 ?_
  refine tm_vp dt_Ri_wantsStay_34 (tm_Ri_likesIn hW h_o (a) (by omega) (by omega) (v129) (by omega) (by omega) (v124) (by omega) (by omega) (v125) (by omega) (by omega)) kb_Ri_106 ⟨im_Ri_likesIn, se_Ri_likesIn⟩ rfl hW ot0 rfl (Nat.le_of_ble_eq_true rfl) (by decide) (fun v130 hv130 => ?_)
  refine ev_aload_n dt_Ri_wantsStay_37 rfl rfl ?_
  refine ev_iload_n dt_Ri_wantsStay_38 rfl rfl ?_
  refine ev_aload_n dt_Ri_wantsStay_39 rfl rfl ?_
  refine tm_getR dt_Ri_wantsStay_40 hW ot0 fl_Ri_9 rfl ?_
  refine ev_iload_n dt_Ri_wantsStay_43 rfl rfl ?_
  refine tm_iaload dt_Ri_wantsStay_44 hW ot1 (by omega) (by omega) (by omega) (fun v131 kv131 lv131 uv131 => ?_)
  refine ev_iload_n dt_Ri_wantsStay_45 rfl rfl ?_
  refine ev_aload_n dt_Ri_wantsStay_46 rfl rfl ?_
  refine tm_getK (K := 2) dt_Ri_wantsStay_47 hW ot0 fl_Ri_49 rfl kv125 ?_
  refine tm_vp dt_Ri_wantsStay_50 (tm_Ri_likesIn hW h_o (a) (by omega) (by omega) (v131) (by omega) (by omega) (v128) (by omega) (by omega) (v125) (by omega) (by omega)) kb_Ri_106 ⟨im_Ri_likesIn, se_Ri_likesIn⟩ rfl hW ot0 rfl (Nat.le_of_ble_eq_true rfl) (by decide) (fun v132 hv132 => ?_)
  refine ev_icmp_le (tgt := 60) dt_Ri_wantsStay_53 (by decide) (by omega) (by omega) (fun h133 => ?_) (fun h133 => ?_)
  · skip
    refine ev_iconst dt_Ri_wantsStay_60 ?_
    exact ev_zreturn dt_Ri_wantsStay_61 rfl (by omega) ⟨rfl, _, rfl, by omega⟩
  · skip
    refine ev_iconst dt_Ri_wantsStay_56 ?_
    refine ev_goto (tgt := 61) dt_Ri_wantsStay_57 (by decide) ?_
    exact ev_zreturn dt_Ri_wantsStay_61 rfl (by omega) ⟨rfl, _, rfl, by omega⟩
theorem dt_Ri_votesOf_0 : decode prog_7_method_22_code 0 = .ok (.iconst 0, 1) := by decide +kernel
theorem dt_Ri_votesOf_1 : decode prog_7_method_22_code 1 = .ok (.istore_n 2, 1) := by decide +kernel
theorem dt_Ri_votesOf_2 : decode prog_7_method_22_code 2 = .ok (.iconst 0, 1) := by decide +kernel
theorem dt_Ri_votesOf_3 : decode prog_7_method_22_code 3 = .ok (.istore_n 3, 1) := by decide +kernel
theorem dt_Ri_votesOf_4 : decode prog_7_method_22_code 4 = .ok (.iload_n 3, 1) := by decide +kernel
theorem dt_Ri_votesOf_5 : decode prog_7_method_22_code 5 = .ok (.aload_n 0, 1) := by decide +kernel
theorem dt_Ri_votesOf_6 : decode prog_7_method_22_code 6 = .ok (.getfield 64, 3) := by decide +kernel
theorem dt_Ri_votesOf_9 : decode prog_7_method_22_code 9 = .ok (.if_icmp .ge 26, 3) := by decide +kernel
theorem dt_Ri_votesOf_12 : decode prog_7_method_22_code 12 = .ok (.iload_n 1, 1) := by decide +kernel
theorem dt_Ri_votesOf_13 : decode prog_7_method_22_code 13 = .ok (.iload_n 3, 1) := by decide +kernel
theorem dt_Ri_votesOf_14 : decode prog_7_method_22_code 14 = .ok (.ishr, 1) := by decide +kernel
theorem dt_Ri_votesOf_15 : decode prog_7_method_22_code 15 = .ok (.iconst 1, 1) := by decide +kernel
theorem dt_Ri_votesOf_16 : decode prog_7_method_22_code 16 = .ok (.iand, 1) := by decide +kernel
theorem dt_Ri_votesOf_17 : decode prog_7_method_22_code 17 = .ok (.ifCond .eq 12, 3) := by decide +kernel
theorem dt_Ri_votesOf_20 : decode prog_7_method_22_code 20 = .ok (.iload_n 2, 1) := by decide +kernel
theorem dt_Ri_votesOf_21 : decode prog_7_method_22_code 21 = .ok (.aload_n 0, 1) := by decide +kernel
theorem dt_Ri_votesOf_22 : decode prog_7_method_22_code 22 = .ok (.getfield 18, 3) := by decide +kernel
theorem dt_Ri_votesOf_25 : decode prog_7_method_22_code 25 = .ok (.iload_n 3, 1) := by decide +kernel
theorem dt_Ri_votesOf_26 : decode prog_7_method_22_code 26 = .ok (.iaload, 1) := by decide +kernel
theorem dt_Ri_votesOf_27 : decode prog_7_method_22_code 27 = .ok (.iadd, 1) := by decide +kernel
theorem dt_Ri_votesOf_28 : decode prog_7_method_22_code 28 = .ok (.istore_n 2, 1) := by decide +kernel
theorem dt_Ri_votesOf_29 : decode prog_7_method_22_code 29 = .ok (.iinc 3 1, 3) := by decide +kernel
theorem dt_Ri_votesOf_32 : decode prog_7_method_22_code 32 = .ok (.goto (-28), 3) := by decide +kernel
theorem dt_Ri_votesOf_35 : decode prog_7_method_22_code 35 = .ok (.iload_n 2, 1) := by decide +kernel
theorem dt_Ri_votesOf_36 : decode prog_7_method_22_code 36 = .ok (.ireturn, 1) := by decide +kernel
set_option maxHeartbeats 4000000 in
set_option maxRecDepth 10000 in
theorem tm_Ri_votesOf {N : Nat} {T : Nat → tm_S} {w : ab_W} {o : Nat} (hW : tm_W N T w) (h_o : is_Ri T o) (a : Int) (l_a : (-2147483648) ≤ a) (u_a : a ≤ 2147483647) : ab_Mt g_G g_rs mt_Ri_votesOf 0 0 0 [ab_R o, ab_I a] w (tm_P w (fun v => (-2147483648) ≤ v ∧ v ≤ 2147483647)) := by
  obtain ⟨ot0, ot1, ot2, ot3, ot4, ot5, ot6, ot7, ot8, ot9, ot10, ot11, ot12⟩ := id h_o
  have od := is_Ri.d h_o
  refine ab_Mt.of rfl (Nat.le_of_ble_eq_true rfl) ?_
  show ab_Ev g_G g_rs mt_Ri_votesOf _ _ _ 0 [some (ab_R o), some (ab_I a), none, none] [] _ _
  refine ev_iconst dt_Ri_votesOf_0 ?_
  refine ev_istore_n (l' := [_, _, _, _]) dt_Ri_votesOf_1 rfl (Nat.le_of_ble_eq_true rfl) rfl ?_
  refine ev_iconst dt_Ri_votesOf_2 ?_
  refine ev_istore_n (l' := [_, _, _, _]) dt_Ri_votesOf_3 rfl (Nat.le_of_ble_eq_true rfl) rfl ?_
  have L134 : ∀ (n : Nat) (i135 : Int) (i136 : Int) , (-2147483648) ≤ i135 → i135 ≤ 2147483647 → 0 ≤ i136 → i136 ≤ 7 → 7 - i136 < (n : Int) → ab_Ev g_G g_rs mt_Ri_votesOf 0 0 0 4 [some (ab_R o), some (ab_I a), some (ab_I i135), some (ab_I i136)] [] w (tm_P w (fun v => (-2147483648) ≤ v ∧ v ≤ 2147483647)) := by
    intro n
    induction n with
    | zero =>
      intro i135 i136  li135 ui135 li136 ui136 mL134
      exfalso
      omega
    | succ nL134 ihL134 =>
      intro i135 i136  li135 ui135 li136 ui136 mL134
      refine ev_iload_n dt_Ri_votesOf_4 rfl rfl ?_
      refine ev_aload_n dt_Ri_votesOf_5 rfl rfl ?_
      refine tm_getI (K := 7) dt_Ri_votesOf_6 hW ot0 fl_Ri_64 rfl rfl (fun v137 kv137 lv137 uv137 => ?_)
      refine ev_icmp_ge (tgt := 35) dt_Ri_votesOf_9 (by decide) (by omega) (by omega) (fun h138 => ?_) (fun h138 => ?_)
      · skip
        refine ev_iload_n dt_Ri_votesOf_35 rfl rfl ?_
        exact ev_ireturn dt_Ri_votesOf_36 rfl ⟨rfl, _, rfl, by omega⟩
      · skip
        refine ev_iload_n dt_Ri_votesOf_12 rfl rfl ?_
        refine ev_iload_n dt_Ri_votesOf_13 rfl rfl ?_
        refine tm_ishr dt_Ri_votesOf_14 (by omega) (by omega) (by omega) (fun v139 x1 x2 => ?_)
        have hv139 : (-2147483648) ≤ v139 ∧ v139 ≤ 2147483647 := by omega
        clear x1 x2
        refine ev_iconst dt_Ri_votesOf_15 ?_
        refine tm_iand dt_Ri_votesOf_16 (by omega) (by omega) (fun v140 x1 x2 x3 => ?_)
        have hv140 : 0 ≤ v140 ∧ v140 ≤ 1 := by omega
        clear x1 x2 x3
        refine ev_if_eq (tgt := 29) dt_Ri_votesOf_17 (by decide) (by omega) (fun h141 => ?_) (fun h141 => ?_)
        · skip
          refine ev_iinc (l' := [_, _, _, _]) dt_Ri_votesOf_29 rfl rfl ?_
          refine ev_goto (tgt := 4) dt_Ri_votesOf_32 (by decide) ?_
          exact tm_loc (tm_le_s (tm_le_s (tm_le_s (tm_le_s tm_le_0)))) (ihL134 (i135) ((i136 + 1)) (by omega) (by omega) (by omega) (by omega) (by omega))
        · skip
          refine ev_iload_n dt_Ri_votesOf_20 rfl rfl ?_
          refine ev_aload_n dt_Ri_votesOf_21 rfl rfl ?_
          refine tm_getR dt_Ri_votesOf_22 hW ot0 fl_Ri_18 rfl ?_
          refine ev_iload_n dt_Ri_votesOf_25 rfl rfl ?_
          refine tm_iaload dt_Ri_votesOf_26 hW ot3 (by omega) (by omega) (by omega) (fun v142 kv142 lv142 uv142 => ?_)
          refine ev_iadd dt_Ri_votesOf_27 ?_
          refine tm_any (fun v143 hv143 _ => ?_)
          refine ev_istore_n (l' := [_, _, _, _]) dt_Ri_votesOf_28 rfl (Nat.le_of_ble_eq_true rfl) rfl ?_
          refine ev_iinc (l' := [_, _, _, _]) dt_Ri_votesOf_29 rfl rfl ?_
          refine ev_goto (tgt := 4) dt_Ri_votesOf_32 (by decide) ?_
          exact tm_loc (tm_le_s (tm_le_s (tm_le_s (tm_le_s tm_le_0)))) (ihL134 (v143) ((i136 + 1)) (by omega) (by omega) (by omega) (by omega) (by omega))
  exact tm_loc (tm_le_s (tm_le_s (tm_le_s (tm_le_s tm_le_0)))) (L134 (7 - (0) + 1 : Int).toNat (0) (0)  (by omega) (by omega) (by omega) (by omega) (by omega))
theorem dt_Ri_stayVotes_0 : decode prog_7_method_20_code 0 = .ok (.iconst 0, 1) := by decide +kernel
theorem dt_Ri_stayVotes_1 : decode prog_7_method_20_code 1 = .ok (.istore_n 1, 1) := by decide +kernel
theorem dt_Ri_stayVotes_2 : decode prog_7_method_20_code 2 = .ok (.iconst 0, 1) := by decide +kernel
theorem dt_Ri_stayVotes_3 : decode prog_7_method_20_code 3 = .ok (.istore_n 2, 1) := by decide +kernel
theorem dt_Ri_stayVotes_4 : decode prog_7_method_20_code 4 = .ok (.iload_n 2, 1) := by decide +kernel
theorem dt_Ri_stayVotes_5 : decode prog_7_method_20_code 5 = .ok (.aload_n 0, 1) := by decide +kernel
theorem dt_Ri_stayVotes_6 : decode prog_7_method_20_code 6 = .ok (.getfield 64, 3) := by decide +kernel
theorem dt_Ri_stayVotes_9 : decode prog_7_method_20_code 9 = .ok (.if_icmp .ge 26, 3) := by decide +kernel
theorem dt_Ri_stayVotes_12 : decode prog_7_method_20_code 12 = .ok (.aload_n 0, 1) := by decide +kernel
theorem dt_Ri_stayVotes_13 : decode prog_7_method_20_code 13 = .ok (.iload_n 2, 1) := by decide +kernel
theorem dt_Ri_stayVotes_14 : decode prog_7_method_20_code 14 = .ok (.invokevirtual 134, 3) := by decide +kernel
theorem dt_Ri_stayVotes_17 : decode prog_7_method_20_code 17 = .ok (.ifCond .eq 12, 3) := by decide +kernel
theorem dt_Ri_stayVotes_20 : decode prog_7_method_20_code 20 = .ok (.iload_n 1, 1) := by decide +kernel
theorem dt_Ri_stayVotes_21 : decode prog_7_method_20_code 21 = .ok (.aload_n 0, 1) := by decide +kernel
theorem dt_Ri_stayVotes_22 : decode prog_7_method_20_code 22 = .ok (.getfield 18, 3) := by decide +kernel
theorem dt_Ri_stayVotes_25 : decode prog_7_method_20_code 25 = .ok (.iload_n 2, 1) := by decide +kernel
theorem dt_Ri_stayVotes_26 : decode prog_7_method_20_code 26 = .ok (.iaload, 1) := by decide +kernel
theorem dt_Ri_stayVotes_27 : decode prog_7_method_20_code 27 = .ok (.iadd, 1) := by decide +kernel
theorem dt_Ri_stayVotes_28 : decode prog_7_method_20_code 28 = .ok (.istore_n 1, 1) := by decide +kernel
theorem dt_Ri_stayVotes_29 : decode prog_7_method_20_code 29 = .ok (.iinc 2 1, 3) := by decide +kernel
theorem dt_Ri_stayVotes_32 : decode prog_7_method_20_code 32 = .ok (.goto (-28), 3) := by decide +kernel
theorem dt_Ri_stayVotes_35 : decode prog_7_method_20_code 35 = .ok (.iload_n 1, 1) := by decide +kernel
theorem dt_Ri_stayVotes_36 : decode prog_7_method_20_code 36 = .ok (.ireturn, 1) := by decide +kernel
set_option maxHeartbeats 4000000 in
set_option maxRecDepth 10000 in
theorem tm_Ri_stayVotes {N : Nat} {T : Nat → tm_S} {w : ab_W} {o : Nat} (hW : tm_W N T w) (h_o : is_Ri T o) : ab_Mt g_G g_rs mt_Ri_stayVotes 3 0 0 [ab_R o] w (tm_P w (fun v => (-2147483648) ≤ v ∧ v ≤ 2147483647)) := by
  obtain ⟨ot0, ot1, ot2, ot3, ot4, ot5, ot6, ot7, ot8, ot9, ot10, ot11, ot12⟩ := id h_o
  have od := is_Ri.d h_o
  refine ab_Mt.of rfl (Nat.le_of_ble_eq_true rfl) ?_
  show ab_Ev g_G g_rs mt_Ri_stayVotes _ _ _ 0 [some (ab_R o), none, none] [] _ _
  refine ev_iconst dt_Ri_stayVotes_0 ?_
  refine ev_istore_n (l' := [_, _, _]) dt_Ri_stayVotes_1 rfl (Nat.le_of_ble_eq_true rfl) rfl ?_
  refine ev_iconst dt_Ri_stayVotes_2 ?_
  refine ev_istore_n (l' := [_, _, _]) dt_Ri_stayVotes_3 rfl (Nat.le_of_ble_eq_true rfl) rfl ?_
  have L144 : ∀ (n : Nat) (i145 : Int) (i146 : Int) , (-2147483648) ≤ i145 → i145 ≤ 2147483647 → 0 ≤ i146 → i146 ≤ 7 → 7 - i146 < (n : Int) → ab_Ev g_G g_rs mt_Ri_stayVotes 3 0 0 4 [some (ab_R o), some (ab_I i145), some (ab_I i146)] [] w (tm_P w (fun v => (-2147483648) ≤ v ∧ v ≤ 2147483647)) := by
    intro n
    induction n with
    | zero =>
      intro i145 i146  li145 ui145 li146 ui146 mL144
      exfalso
      omega
    | succ nL144 ihL144 =>
      intro i145 i146  li145 ui145 li146 ui146 mL144
      refine ev_iload_n dt_Ri_stayVotes_4 rfl rfl ?_
      refine ev_aload_n dt_Ri_stayVotes_5 rfl rfl ?_
      refine tm_getI (K := 7) dt_Ri_stayVotes_6 hW ot0 fl_Ri_64 rfl rfl (fun v147 kv147 lv147 uv147 => ?_)
      refine ev_icmp_ge (tgt := 35) dt_Ri_stayVotes_9 (by decide) (by omega) (by omega) (fun h148 => ?_) (fun h148 => ?_)
      · skip
        refine ev_iload_n dt_Ri_stayVotes_35 rfl rfl ?_
        exact ev_ireturn dt_Ri_stayVotes_36 rfl ⟨rfl, _, rfl, by omega⟩
      · skip
        refine ev_aload_n dt_Ri_stayVotes_12 rfl rfl ?_
        refine ev_iload_n dt_Ri_stayVotes_13 rfl rfl ?_
        refine tm_vp dt_Ri_stayVotes_14 (tm_Ri_wantsStay hW h_o (i146) (by omega) (by omega)) kb_Ri_134 ⟨im_Ri_wantsStay, se_Ri_wantsStay⟩ rfl hW ot0 rfl (Nat.le_of_ble_eq_true rfl) (by decide) (fun v149 hv149 => ?_)
        refine ev_if_eq (tgt := 29) dt_Ri_stayVotes_17 (by decide) (by omega) (fun h150 => ?_) (fun h150 => ?_)
        · skip
          refine ev_iinc (l' := [_, _, _]) dt_Ri_stayVotes_29 rfl rfl ?_
          refine ev_goto (tgt := 4) dt_Ri_stayVotes_32 (by decide) ?_
          exact tm_loc (tm_le_s (tm_le_s (tm_le_s tm_le_0))) (ihL144 (i145) ((i146 + 1)) (by omega) (by omega) (by omega) (by omega) (by omega))
        · skip
          refine ev_iload_n dt_Ri_stayVotes_20 rfl rfl ?_
          refine ev_aload_n dt_Ri_stayVotes_21 rfl rfl ?_
          refine tm_getR dt_Ri_stayVotes_22 hW ot0 fl_Ri_18 rfl ?_
          refine ev_iload_n dt_Ri_stayVotes_25 rfl rfl ?_
          refine tm_iaload dt_Ri_stayVotes_26 hW ot3 (by omega) (by omega) (by omega) (fun v151 kv151 lv151 uv151 => ?_)
          refine ev_iadd dt_Ri_stayVotes_27 ?_
          refine tm_any (fun v152 hv152 _ => ?_)
          refine ev_istore_n (l' := [_, _, _]) dt_Ri_stayVotes_28 rfl (Nat.le_of_ble_eq_true rfl) rfl ?_
          refine ev_iinc (l' := [_, _, _]) dt_Ri_stayVotes_29 rfl rfl ?_
          refine ev_goto (tgt := 4) dt_Ri_stayVotes_32 (by decide) ?_
          exact tm_loc (tm_le_s (tm_le_s (tm_le_s tm_le_0))) (ihL144 (v152) ((i146 + 1)) (by omega) (by omega) (by omega) (by omega) (by omega))
  exact tm_loc (tm_le_s (tm_le_s (tm_le_s tm_le_0))) (L144 (7 - (0) + 1 : Int).toNat (0) (0)  (by omega) (by omega) (by omega) (by omega) (by omega))
theorem dt_Ri_allVotes_0 : decode prog_7_method_21_code 0 = .ok (.aload_n 0, 1) := by decide +kernel
theorem dt_Ri_allVotes_1 : decode prog_7_method_21_code 1 = .ok (.iconst 1, 1) := by decide +kernel
theorem dt_Ri_allVotes_2 : decode prog_7_method_21_code 2 = .ok (.aload_n 0, 1) := by decide +kernel
theorem dt_Ri_allVotes_3 : decode prog_7_method_21_code 3 = .ok (.getfield 64, 3) := by decide +kernel
theorem dt_Ri_allVotes_6 : decode prog_7_method_21_code 6 = .ok (.ishl, 1) := by decide +kernel
theorem dt_Ri_allVotes_7 : decode prog_7_method_21_code 7 = .ok (.iconst 1, 1) := by decide +kernel
theorem dt_Ri_allVotes_8 : decode prog_7_method_21_code 8 = .ok (.isub, 1) := by decide +kernel
theorem dt_Ri_allVotes_9 : decode prog_7_method_21_code 9 = .ok (.invokevirtual 137, 3) := by decide +kernel
theorem dt_Ri_allVotes_12 : decode prog_7_method_21_code 12 = .ok (.ireturn, 1) := by decide +kernel
set_option maxHeartbeats 4000000 in
set_option maxRecDepth 10000 in
theorem tm_Ri_allVotes {N : Nat} {T : Nat → tm_S} {w : ab_W} {o : Nat} (hW : tm_W N T w) (h_o : is_Ri T o) : ab_Mt g_G g_rs mt_Ri_allVotes 1 0 0 [ab_R o] w (tm_P w (fun v => (-2147483648) ≤ v ∧ v ≤ 2147483647)) := by
  obtain ⟨ot0, ot1, ot2, ot3, ot4, ot5, ot6, ot7, ot8, ot9, ot10, ot11, ot12⟩ := id h_o
  have od := is_Ri.d h_o
  refine ab_Mt.of rfl (Nat.le_of_ble_eq_true rfl) ?_
  show ab_Ev g_G g_rs mt_Ri_allVotes _ _ _ 0 [some (ab_R o)] [] _ _
  refine ev_aload_n dt_Ri_allVotes_0 rfl rfl ?_
  refine ev_iconst dt_Ri_allVotes_1 ?_
  refine ev_aload_n dt_Ri_allVotes_2 rfl rfl ?_
  refine tm_getI (K := 7) dt_Ri_allVotes_3 hW ot0 fl_Ri_64 rfl rfl (fun v153 kv153 lv153 uv153 => ?_)
  refine tm_shl1 dt_Ri_allVotes_6 (by omega) (by omega) (fun v154 x1 x2 x3 x4 => ?_)
  have hv154 : 1 ≤ v154 ∧ v154 ≤ 128 := by omega
  clear x1 x2 x3 x4
  refine ev_iconst dt_Ri_allVotes_7 ?_
  refine ev_isub dt_Ri_allVotes_8 ?_
  refine tm_vp dt_Ri_allVotes_9 (tm_Ri_votesOf hW h_o ((v154 - 1)) (by omega) (by omega)) kb_Ri_137 ⟨im_Ri_votesOf, se_Ri_votesOf⟩ rfl hW ot0 rfl (Nat.le_of_ble_eq_true rfl) (by decide) (fun v155 hv155 => ?_)
  exact ev_ireturn dt_Ri_allVotes_12 rfl ⟨rfl, _, rfl, by omega⟩
theorem dt_Ri_hoursBehind_0 : decode prog_7_method_26_code 0 = .ok (.aload_n 0, 1) := by decide +kernel
theorem dt_Ri_hoursBehind_1 : decode prog_7_method_26_code 1 = .ok (.getfield 52, 3) := by decide +kernel
theorem dt_Ri_hoursBehind_4 : decode prog_7_method_26_code 4 = .ok (.bipush 24, 2) := by decide +kernel
theorem dt_Ri_hoursBehind_6 : decode prog_7_method_26_code 6 = .ok (.imul, 1) := by decide +kernel
theorem dt_Ri_hoursBehind_7 : decode prog_7_method_26_code 7 = .ok (.aload_n 0, 1) := by decide +kernel
theorem dt_Ri_hoursBehind_8 : decode prog_7_method_26_code 8 = .ok (.getfield 49, 3) := by decide +kernel
theorem dt_Ri_hoursBehind_11 : decode prog_7_method_26_code 11 = .ok (.iadd, 1) := by decide +kernel
theorem dt_Ri_hoursBehind_12 : decode prog_7_method_26_code 12 = .ok (.iload_n 1, 1) := by decide +kernel
theorem dt_Ri_hoursBehind_13 : decode prog_7_method_26_code 13 = .ok (.iadd, 1) := by decide +kernel
theorem dt_Ri_hoursBehind_14 : decode prog_7_method_26_code 14 = .ok (.ireturn, 1) := by decide +kernel
set_option maxHeartbeats 4000000 in
set_option maxRecDepth 10000 in
theorem tm_Ri_hoursBehind {N : Nat} {T : Nat → tm_S} {w : ab_W} {o : Nat} (hW : tm_W N T w) (h_o : is_Ri T o) (a : Int) (l_a : (-2147483648) ≤ a) (u_a : a ≤ 2147483647) : ab_Mt g_G g_rs mt_Ri_hoursBehind 0 0 0 [ab_R o, ab_I a] w (tm_P w (fun v => (-2147483648) ≤ v ∧ v ≤ 2147483647)) := by
  obtain ⟨ot0, ot1, ot2, ot3, ot4, ot5, ot6, ot7, ot8, ot9, ot10, ot11, ot12⟩ := id h_o
  have od := is_Ri.d h_o
  refine ab_Mt.of rfl (Nat.le_of_ble_eq_true rfl) ?_
  show ab_Ev g_G g_rs mt_Ri_hoursBehind _ _ _ 0 [some (ab_R o), some (ab_I a)] [] _ _
  refine ev_aload_n dt_Ri_hoursBehind_0 rfl rfl ?_
  refine tm_getI (K := 3) dt_Ri_hoursBehind_1 hW ot0 fl_Ri_52 rfl rfl (fun v156 kv156 lv156 uv156 => ?_)
  refine ev_bipush dt_Ri_hoursBehind_4 rfl ?_
  refine ev_imul dt_Ri_hoursBehind_6 ?_
  refine tm_any (fun v157 hv157 _ => ?_)
  refine ev_aload_n dt_Ri_hoursBehind_7 rfl rfl ?_
  refine tm_getI (K := 2) dt_Ri_hoursBehind_8 hW ot0 fl_Ri_49 rfl rfl (fun v158 kv158 lv158 uv158 => ?_)
  refine ev_iadd dt_Ri_hoursBehind_11 ?_
  refine tm_any (fun v159 hv159 _ => ?_)
  refine ev_iload_n dt_Ri_hoursBehind_12 rfl rfl ?_
  refine ev_iadd dt_Ri_hoursBehind_13 ?_
  refine tm_any (fun v160 hv160 _ => ?_)
  exact ev_ireturn dt_Ri_hoursBehind_14 rfl ⟨rfl, _, rfl, by omega⟩
theorem dt_Ri_mostWornBehind_0 : decode prog_7_method_30_code 0 = .ok (.iconst 0, 1) := by decide +kernel
theorem dt_Ri_mostWornBehind_1 : decode prog_7_method_30_code 1 = .ok (.istore_n 2, 1) := by decide +kernel
theorem dt_Ri_mostWornBehind_2 : decode prog_7_method_30_code 2 = .ok (.iconst 0, 1) := by decide +kernel
theorem dt_Ri_mostWornBehind_3 : decode prog_7_method_30_code 3 = .ok (.istore_n 3, 1) := by decide +kernel
theorem dt_Ri_mostWornBehind_4 : decode prog_7_method_30_code 4 = .ok (.iload_n 3, 1) := by decide +kernel
theorem dt_Ri_mostWornBehind_5 : decode prog_7_method_30_code 5 = .ok (.bipush 12, 2) := by decide +kernel
theorem dt_Ri_mostWornBehind_7 : decode prog_7_method_30_code 7 = .ok (.if_icmp .ge 43, 3) := by decide +kernel
theorem dt_Ri_mostWornBehind_10 : decode prog_7_method_30_code 10 = .ok (.iload_n 3, 1) := by decide +kernel
theorem dt_Ri_mostWornBehind_11 : decode prog_7_method_30_code 11 = .ok (.aload_n 0, 1) := by decide +kernel
theorem dt_Ri_mostWornBehind_12 : decode prog_7_method_30_code 12 = .ok (.getfield 45, 3) := by decide +kernel
theorem dt_Ri_mostWornBehind_15 : decode prog_7_method_30_code 15 = .ok (.isub, 1) := by decide +kernel
theorem dt_Ri_mostWornBehind_16 : decode prog_7_method_30_code 16 = .ok (.invokestatic 131, 3) := by decide +kernel
theorem dt_Ri_mostWornBehind_19 : decode prog_7_method_30_code 19 = .ok (.iload_n 1, 1) := by decide +kernel
theorem dt_Ri_mostWornBehind_20 : decode prog_7_method_30_code 20 = .ok (.if_icmp .ge 7, 3) := by decide +kernel
theorem dt_Ri_mostWornBehind_23 : decode prog_7_method_30_code 23 = .ok (.iconst 1, 1) := by decide +kernel
theorem dt_Ri_mostWornBehind_24 : decode prog_7_method_30_code 24 = .ok (.goto 4, 3) := by decide +kernel
theorem dt_Ri_mostWornBehind_27 : decode prog_7_method_30_code 27 = .ok (.iconst 0, 1) := by decide +kernel
theorem dt_Ri_mostWornBehind_28 : decode prog_7_method_30_code 28 = .ok (.istore 4, 2) := by decide +kernel
theorem dt_Ri_mostWornBehind_30 : decode prog_7_method_30_code 30 = .ok (.iload_n 2, 1) := by decide +kernel
theorem dt_Ri_mostWornBehind_31 : decode prog_7_method_30_code 31 = .ok (.aload_n 0, 1) := by decide +kernel
theorem dt_Ri_mostWornBehind_32 : decode prog_7_method_30_code 32 = .ok (.getfield 31, 3) := by decide +kernel
theorem dt_Ri_mostWornBehind_35 : decode prog_7_method_30_code 35 = .ok (.iload_n 3, 1) := by decide +kernel
theorem dt_Ri_mostWornBehind_36 : decode prog_7_method_30_code 36 = .ok (.iaload, 1) := by decide +kernel
theorem dt_Ri_mostWornBehind_37 : decode prog_7_method_30_code 37 = .ok (.iload 4, 2) := by decide +kernel
theorem dt_Ri_mostWornBehind_39 : decode prog_7_method_30_code 39 = .ok (.iadd, 1) := by decide +kernel
theorem dt_Ri_mostWornBehind_40 : decode prog_7_method_30_code 40 = .ok (.invokestatic 113, 3) := by decide +kernel
theorem dt_Ri_mostWornBehind_43 : decode prog_7_method_30_code 43 = .ok (.istore_n 2, 1) := by decide +kernel
theorem dt_Ri_mostWornBehind_44 : decode prog_7_method_30_code 44 = .ok (.iinc 3 1, 3) := by decide +kernel
theorem dt_Ri_mostWornBehind_47 : decode prog_7_method_30_code 47 = .ok (.goto (-43), 3) := by decide +kernel
theorem dt_Ri_mostWornBehind_50 : decode prog_7_method_30_code 50 = .ok (.iload_n 2, 1) := by decide +kernel
theorem dt_Ri_mostWornBehind_51 : decode prog_7_method_30_code 51 = .ok (.ireturn, 1) := by decide +kernel
set_option maxHeartbeats 4000000 in
set_option maxRecDepth 10000 in
theorem tm_Ri_mostWornBehind {N : Nat} {T : Nat → tm_S} {w : ab_W} {o : Nat} (hW : tm_W N T w) (h_o : is_Ri T o) (a : Int) (l_a : (-2147483648) ≤ a) (u_a : a ≤ 2147483647) : ab_Mt g_G g_rs mt_Ri_mostWornBehind 1 0 0 [ab_R o, ab_I a] w (tm_P w (fun v => (-2147483648) ≤ v ∧ v ≤ 2147483647)) := by
  obtain ⟨ot0, ot1, ot2, ot3, ot4, ot5, ot6, ot7, ot8, ot9, ot10, ot11, ot12⟩ := id h_o
  have od := is_Ri.d h_o
  refine ab_Mt.of rfl (Nat.le_of_ble_eq_true rfl) ?_
  show ab_Ev g_G g_rs mt_Ri_mostWornBehind _ _ _ 0 [some (ab_R o), some (ab_I a), none, none, none] [] _ _
  refine ev_iconst dt_Ri_mostWornBehind_0 ?_
  refine ev_istore_n (l' := [_, _, _, _, _]) dt_Ri_mostWornBehind_1 rfl (Nat.le_of_ble_eq_true rfl) rfl ?_
  refine ev_iconst dt_Ri_mostWornBehind_2 ?_
  refine ev_istore_n (l' := [_, _, _, _, _]) dt_Ri_mostWornBehind_3 rfl (Nat.le_of_ble_eq_true rfl) rfl ?_
  have L161 : ∀ (n : Nat) (i162 : Int) (i163 : Int) , 0 ≤ i162 → i162 ≤ 2147483647 → 0 ≤ i163 → i163 ≤ 12 → 12 - i163 < (n : Int) → ab_Ev g_G g_rs mt_Ri_mostWornBehind 1 0 0 4 [some (ab_R o), some (ab_I a), some (ab_I i162), some (ab_I i163), none] [] w (tm_P w (fun v => (-2147483648) ≤ v ∧ v ≤ 2147483647)) := by
    intro n
    induction n with
    | zero =>
      intro i162 i163  li162 ui162 li163 ui163 mL161
      exfalso
      omega
    | succ nL161 ihL161 =>
      intro i162 i163  li162 ui162 li163 ui163 mL161
      refine ev_iload_n dt_Ri_mostWornBehind_4 rfl rfl ?_
      refine ev_bipush dt_Ri_mostWornBehind_5 rfl ?_
      refine ev_icmp_ge (tgt := 50) dt_Ri_mostWornBehind_7 (by decide) (by omega) (by omega) (fun h164 => ?_) (fun h164 => ?_)
      · skip
        refine ev_iload_n dt_Ri_mostWornBehind_50 rfl rfl ?_
        exact ev_ireturn dt_Ri_mostWornBehind_51 rfl ⟨rfl, _, rfl, by omega⟩
      · skip
        refine ev_iload_n dt_Ri_mostWornBehind_10 rfl rfl ?_
        refine ev_aload_n dt_Ri_mostWornBehind_11 rfl rfl ?_
        refine tm_getI (K := 1) dt_Ri_mostWornBehind_12 hW ot0 fl_Ri_45 rfl rfl (fun v165 kv165 lv165 uv165 => ?_)
        refine ev_isub dt_Ri_mostWornBehind_15 ?_
        refine tm_sp dt_Ri_mostWornBehind_16 (tm_Tu_wrapped hW ((i163 - v165)) (by omega) (by omega)) kb_Ri_131 sc_Tu_wrapped rfl (Nat.le_of_ble_eq_true rfl) (by decide) (fun v166 hv166 => ?_)
        refine ev_iload_n dt_Ri_mostWornBehind_19 rfl rfl ?_
        refine ev_icmp_ge (tgt := 27) dt_Ri_mostWornBehind_20 (by decide) (by omega) (by omega) (fun h167 => ?_) (fun h167 => ?_)
        · skip
          refine ev_iconst dt_Ri_mostWornBehind_27 ?_
          refine ev_istore (l' := [_, _, _, _, _]) dt_Ri_mostWornBehind_28 (Nat.le_of_ble_eq_true rfl) rfl ?_
          refine ev_iload_n dt_Ri_mostWornBehind_30 rfl rfl ?_
          refine ev_aload_n dt_Ri_mostWornBehind_31 rfl rfl ?_
          refine tm_getR dt_Ri_mostWornBehind_32 hW ot0 fl_Ri_31 rfl ?_
          refine ev_iload_n dt_Ri_mostWornBehind_35 rfl rfl ?_
          refine tm_iaload dt_Ri_mostWornBehind_36 hW ot7 (by omega) (by omega) (by omega) (fun v168 kv168 lv168 uv168 => ?_)
          refine ev_iload dt_Ri_mostWornBehind_37 rfl ?_
          refine ev_iadd dt_Ri_mostWornBehind_39 ?_
          refine tm_max (by omega) (by omega) dt_Ri_mostWornBehind_40 mk_Ri_113 (Nat.le_of_ble_eq_true rfl) (by decide) (fun v169 x1 x2 x3 => ?_)
          have hv169 : 0 ≤ v169 ∧ v169 ≤ 2147483647 := by omega
          clear x1 x2 x3
          refine ev_istore_n (l' := [_, _, _, _, _]) dt_Ri_mostWornBehind_43 rfl (Nat.le_of_ble_eq_true rfl) rfl ?_
          refine ev_iinc (l' := [_, _, _, _, _]) dt_Ri_mostWornBehind_44 rfl rfl ?_
          refine ev_goto (tgt := 4) dt_Ri_mostWornBehind_47 (by decide) ?_
          exact tm_loc (tm_le_s (tm_le_s (tm_le_s (tm_le_s (tm_le_n tm_le_0))))) (ihL161 (v169) ((i163 + 1)) (by omega) (by omega) (by omega) (by omega) (by omega))
        · skip
          refine ev_iconst dt_Ri_mostWornBehind_23 ?_
          refine ev_goto (tgt := 28) dt_Ri_mostWornBehind_24 (by decide) ?_
          refine ev_istore (l' := [_, _, _, _, _]) dt_Ri_mostWornBehind_28 (Nat.le_of_ble_eq_true rfl) rfl ?_
          refine ev_iload_n dt_Ri_mostWornBehind_30 rfl rfl ?_
          refine ev_aload_n dt_Ri_mostWornBehind_31 rfl rfl ?_
          refine tm_getR dt_Ri_mostWornBehind_32 hW ot0 fl_Ri_31 rfl ?_
          refine ev_iload_n dt_Ri_mostWornBehind_35 rfl rfl ?_
          refine tm_iaload dt_Ri_mostWornBehind_36 hW ot7 (by omega) (by omega) (by omega) (fun v170 kv170 lv170 uv170 => ?_)
          refine ev_iload dt_Ri_mostWornBehind_37 rfl ?_
          refine ev_iadd dt_Ri_mostWornBehind_39 ?_
          refine tm_any (fun v171 hv171 _ => ?_)
          refine tm_max (by omega) (by omega) dt_Ri_mostWornBehind_40 mk_Ri_113 (Nat.le_of_ble_eq_true rfl) (by decide) (fun v172 x1 x2 x3 => ?_)
          have hv172 : 0 ≤ v172 ∧ v172 ≤ 2147483647 := by omega
          clear x1 x2 x3
          refine ev_istore_n (l' := [_, _, _, _, _]) dt_Ri_mostWornBehind_43 rfl (Nat.le_of_ble_eq_true rfl) rfl ?_
          refine ev_iinc (l' := [_, _, _, _, _]) dt_Ri_mostWornBehind_44 rfl rfl ?_
          refine ev_goto (tgt := 4) dt_Ri_mostWornBehind_47 (by decide) ?_
          exact tm_loc (tm_le_s (tm_le_s (tm_le_s (tm_le_s (tm_le_n tm_le_0))))) (ihL161 (v172) ((i163 + 1)) (by omega) (by omega) (by omega) (by omega) (by omega))
  exact tm_loc (tm_le_s (tm_le_s (tm_le_s (tm_le_s (tm_le_n tm_le_0))))) (L161 (12 - (0) + 1 : Int).toNat (0) (0)  (by omega) (by omega) (by omega) (by omega) (by omega))
