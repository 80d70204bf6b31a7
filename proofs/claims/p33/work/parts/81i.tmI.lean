theorem dt_Tr_mayTake_0 : decode prog_12_method_4_code 0 = .ok (.iload_n 3, 1) := by decide +kernel
theorem dt_Tr_mayTake_1 : decode prog_12_method_4_code 1 = .ok (.iload_n 2, 1) := by decide +kernel
theorem dt_Tr_mayTake_2 : decode prog_12_method_4_code 2 = .ok (.ishr, 1) := by decide +kernel
theorem dt_Tr_mayTake_3 : decode prog_12_method_4_code 3 = .ok (.iconst 1, 1) := by decide +kernel
theorem dt_Tr_mayTake_4 : decode prog_12_method_4_code 4 = .ok (.iand, 1) := by decide +kernel
theorem dt_Tr_mayTake_5 : decode prog_12_method_4_code 5 = .ok (.ifCond .ne 40, 3) := by decide +kernel
theorem dt_Tr_mayTake_8 : decode prog_12_method_4_code 8 = .ok (.aload_n 0, 1) := by decide +kernel
theorem dt_Tr_mayTake_9 : decode prog_12_method_4_code 9 = .ok (.getfield 21, 3) := by decide +kernel
theorem dt_Tr_mayTake_12 : decode prog_12_method_4_code 12 = .ok (.iload_n 3, 1) := by decide +kernel
theorem dt_Tr_mayTake_13 : decode prog_12_method_4_code 13 = .ok (.iconst 1, 1) := by decide +kernel
theorem dt_Tr_mayTake_14 : decode prog_12_method_4_code 14 = .ok (.iload_n 2, 1) := by decide +kernel
theorem dt_Tr_mayTake_15 : decode prog_12_method_4_code 15 = .ok (.ishl, 1) := by decide +kernel
theorem dt_Tr_mayTake_16 : decode prog_12_method_4_code 16 = .ok (.ior, 1) := by decide +kernel
theorem dt_Tr_mayTake_17 : decode prog_12_method_4_code 17 = .ok (.iaload, 1) := by decide +kernel
theorem dt_Tr_mayTake_18 : decode prog_12_method_4_code 18 = .ok (.ifCond .le 27, 3) := by decide +kernel
theorem dt_Tr_mayTake_21 : decode prog_12_method_4_code 21 = .ok (.aload_n 0, 1) := by decide +kernel
theorem dt_Tr_mayTake_22 : decode prog_12_method_4_code 22 = .ok (.getfield 15, 3) := by decide +kernel
theorem dt_Tr_mayTake_25 : decode prog_12_method_4_code 25 = .ok (.iload_n 1, 1) := by decide +kernel
theorem dt_Tr_mayTake_26 : decode prog_12_method_4_code 26 = .ok (.bipush 7, 2) := by decide +kernel
theorem dt_Tr_mayTake_28 : decode prog_12_method_4_code 28 = .ok (.imul, 1) := by decide +kernel
theorem dt_Tr_mayTake_29 : decode prog_12_method_4_code 29 = .ok (.iload_n 2, 1) := by decide +kernel
theorem dt_Tr_mayTake_30 : decode prog_12_method_4_code 30 = .ok (.iadd, 1) := by decide +kernel
theorem dt_Tr_mayTake_31 : decode prog_12_method_4_code 31 = .ok (.iaload, 1) := by decide +kernel
theorem dt_Tr_mayTake_32 : decode prog_12_method_4_code 32 = .ok (.aload_n 0, 1) := by decide +kernel
theorem dt_Tr_mayTake_33 : decode prog_12_method_4_code 33 = .ok (.getfield 18, 3) := by decide +kernel
theorem dt_Tr_mayTake_36 : decode prog_12_method_4_code 36 = .ok (.iload_n 1, 1) := by decide +kernel
theorem dt_Tr_mayTake_37 : decode prog_12_method_4_code 37 = .ok (.iaload, 1) := by decide +kernel
theorem dt_Tr_mayTake_38 : decode prog_12_method_4_code 38 = .ok (.if_icmp .lt 7, 3) := by decide +kernel
theorem dt_Tr_mayTake_41 : decode prog_12_method_4_code 41 = .ok (.iconst 1, 1) := by decide +kernel
theorem dt_Tr_mayTake_42 : decode prog_12_method_4_code 42 = .ok (.goto 4, 3) := by decide +kernel
theorem dt_Tr_mayTake_45 : decode prog_12_method_4_code 45 = .ok (.iconst 0, 1) := by decide +kernel
theorem dt_Tr_mayTake_46 : decode prog_12_method_4_code 46 = .ok (.ireturn, 1) := by decide +kernel
set_option maxHeartbeats 4000000 in
set_option maxRecDepth 10000 in
theorem tm_Tr_mayTake {N : Nat} {T : Nat → tm_S} {w : ab_W} {tr : Nat} (hW : tm_W N T w) (h_tr : is_Tr T tr) (a : Int) (l_a : 0 ≤ a) (u_a : a ≤ 6) (b : Int) (l_b : 0 ≤ b) (u_b : b ≤ 6) (c : Int) (l_c : 0 ≤ c) (u_c : c ≤ 127) : ab_Mt g_G g_rs mt_Tr_mayTake 0 0 0 [ab_R tr, ab_I a, ab_I b, ab_I c] w (tm_P w (fun v => 0 ≤ v ∧ v ≤ 1)) := by
  obtain ⟨trt0, trt1, trt2, trt3, trt4, trt5⟩ := id h_tr
  refine ab_Mt.of rfl (Nat.le_of_ble_eq_true rfl) ?_
  show ab_Ev g_G g_rs mt_Tr_mayTake _ _ _ 0 [some (ab_R tr), some (ab_I a), some (ab_I b), some (ab_I c)] [] _ _
  refine ev_iload_n dt_Tr_mayTake_0 rfl rfl ?_
  refine ev_iload_n dt_Tr_mayTake_1 rfl rfl ?_
  refine tm_ishr dt_Tr_mayTake_2 (by omega) (by omega) (by omega) (fun v1 x1 x2 => ?_)
  have hv1 : 0 ≤ v1 ∧ v1 ≤ 127 := by omega
  clear x1 x2
  refine ev_iconst dt_Tr_mayTake_3 ?_
  refine tm_iand dt_Tr_mayTake_4 (by omega) (by omega) (fun v2 x1 x2 x3 => ?_)
  have hv2 : 0 ≤ v2 ∧ v2 ≤ 1 := by omega
  clear x1 x2 x3
  refine ev_if_ne (tgt := 45) dt_Tr_mayTake_5 (by decide) (by omega) (fun h3 => ?_) (fun h3 => ?_)
  · skip
    refine ev_iconst dt_Tr_mayTake_45 ?_
    exact ev_zreturn dt_Tr_mayTake_46 rfl (by omega) ⟨rfl, _, rfl, by omega⟩
  · skip
    refine ev_aload_n dt_Tr_mayTake_8 rfl rfl ?_
    refine tm_getR dt_Tr_mayTake_9 hW trt0 fl_Tr_21 rfl ?_
    refine ev_iload_n dt_Tr_mayTake_12 rfl rfl ?_
    refine ev_iconst dt_Tr_mayTake_13 ?_
    refine ev_iload_n dt_Tr_mayTake_14 rfl rfl ?_
    refine tm_shl1 dt_Tr_mayTake_15 (by omega) (by omega) (fun v4 x1 x2 x3 x4 => ?_)
    have hv4 : 1 ≤ v4 ∧ v4 ≤ 64 := by omega
    clear x1 x2 x3 x4
    refine tm_ior dt_Tr_mayTake_16 (fun v5 x1 x2 => ?_)
    have hv5 : 0 ≤ v5 ∧ v5 ≤ 127 := by omega
    clear x1 x2
    refine tm_iaload dt_Tr_mayTake_17 hW trt4 (by omega) (by omega) (by omega) (fun v6 kv6 lv6 uv6 => ?_)
    refine ev_if_le (tgt := 45) dt_Tr_mayTake_18 (by decide) (by omega) (fun h7 => ?_) (fun h7 => ?_)
    · skip
      refine ev_iconst dt_Tr_mayTake_45 ?_
      exact ev_zreturn dt_Tr_mayTake_46 rfl (by omega) ⟨rfl, _, rfl, by omega⟩
    · skip
      refine ev_aload_n dt_Tr_mayTake_21 rfl rfl ?_
      refine tm_getR dt_Tr_mayTake_22 hW trt0 fl_Tr_15 rfl ?_
      refine ev_iload_n dt_Tr_mayTake_25 rfl rfl ?_
      refine ev_bipush dt_Tr_mayTake_26 rfl ?_
      refine ev_imul dt_Tr_mayTake_28 ?_
      refine ev_iload_n dt_Tr_mayTake_29 rfl rfl ?_
      refine ev_iadd dt_Tr_mayTake_30 ?_
      refine tm_iaload dt_Tr_mayTake_31 hW trt2 (by omega) (by omega) (by omega) (fun v8 kv8 lv8 uv8 => ?_)
      refine ev_aload_n dt_Tr_mayTake_32 rfl rfl ?_
      refine tm_getR dt_Tr_mayTake_33 hW trt0 fl_Tr_18 rfl ?_
      refine ev_iload_n dt_Tr_mayTake_36 rfl rfl ?_
      refine tm_iaload dt_Tr_mayTake_37 hW trt3 (by omega) (by omega) (by omega) (fun v9 kv9 lv9 uv9 => ?_)
      refine ev_icmp_lt (tgt := 45) dt_Tr_mayTake_38 (by decide) (by omega) (by omega) (fun h10 => ?_) (fun h10 => ?_)
      · skip
        refine ev_iconst dt_Tr_mayTake_45 ?_
        exact ev_zreturn dt_Tr_mayTake_46 rfl (by omega) ⟨rfl, _, rfl, by omega⟩
      · skip
        refine ev_iconst dt_Tr_mayTake_41 ?_
        refine ev_goto (tgt := 46) dt_Tr_mayTake_42 (by decide) ?_
        exact ev_zreturn dt_Tr_mayTake_46 rfl (by omega) ⟨rfl, _, rfl, by omega⟩
theorem dt_Tr_sumWith_0 : decode prog_12_method_5_code 0 = .ok (.aload_n 0, 1) := by decide +kernel
theorem dt_Tr_sumWith_1 : decode prog_12_method_5_code 1 = .ok (.getfield 15, 3) := by decide +kernel
theorem dt_Tr_sumWith_4 : decode prog_12_method_5_code 4 = .ok (.iload_n 1, 1) := by decide +kernel
theorem dt_Tr_sumWith_5 : decode prog_12_method_5_code 5 = .ok (.bipush 7, 2) := by decide +kernel
theorem dt_Tr_sumWith_7 : decode prog_12_method_5_code 7 = .ok (.imul, 1) := by decide +kernel
theorem dt_Tr_sumWith_8 : decode prog_12_method_5_code 8 = .ok (.iload_n 2, 1) := by decide +kernel
theorem dt_Tr_sumWith_9 : decode prog_12_method_5_code 9 = .ok (.iadd, 1) := by decide +kernel
theorem dt_Tr_sumWith_10 : decode prog_12_method_5_code 10 = .ok (.iaload, 1) := by decide +kernel
theorem dt_Tr_sumWith_11 : decode prog_12_method_5_code 11 = .ok (.aload_n 0, 1) := by decide +kernel
theorem dt_Tr_sumWith_12 : decode prog_12_method_5_code 12 = .ok (.getfield 24, 3) := by decide +kernel
theorem dt_Tr_sumWith_15 : decode prog_12_method_5_code 15 = .ok (.iload_n 3, 1) := by decide +kernel
theorem dt_Tr_sumWith_16 : decode prog_12_method_5_code 16 = .ok (.iconst 1, 1) := by decide +kernel
theorem dt_Tr_sumWith_17 : decode prog_12_method_5_code 17 = .ok (.iload_n 2, 1) := by decide +kernel
theorem dt_Tr_sumWith_18 : decode prog_12_method_5_code 18 = .ok (.ishl, 1) := by decide +kernel
theorem dt_Tr_sumWith_19 : decode prog_12_method_5_code 19 = .ok (.ior, 1) := by decide +kernel
theorem dt_Tr_sumWith_20 : decode prog_12_method_5_code 20 = .ok (.iaload, 1) := by decide +kernel
theorem dt_Tr_sumWith_21 : decode prog_12_method_5_code 21 = .ok (.iadd, 1) := by decide +kernel
theorem dt_Tr_sumWith_22 : decode prog_12_method_5_code 22 = .ok (.ireturn, 1) := by decide +kernel
set_option maxHeartbeats 4000000 in
set_option maxRecDepth 10000 in
theorem tm_Tr_sumWith {N : Nat} {T : Nat → tm_S} {w : ab_W} {tr : Nat} (hW : tm_W N T w) (h_tr : is_Tr T tr) (a : Int) (l_a : 0 ≤ a) (u_a : a ≤ 6) (b : Int) (l_b : 0 ≤ b) (u_b : b ≤ 6) (c : Int) (l_c : 0 ≤ c) (u_c : c ≤ 127) : ab_Mt g_G g_rs mt_Tr_sumWith 0 0 0 [ab_R tr, ab_I a, ab_I b, ab_I c] w (tm_P w (fun v => (-2147483648) ≤ v ∧ v ≤ 2147483647)) := by
  obtain ⟨trt0, trt1, trt2, trt3, trt4, trt5⟩ := id h_tr
  refine ab_Mt.of rfl (Nat.le_of_ble_eq_true rfl) ?_
  show ab_Ev g_G g_rs mt_Tr_sumWith _ _ _ 0 [some (ab_R tr), some (ab_I a), some (ab_I b), some (ab_I c)] [] _ _
  refine ev_aload_n dt_Tr_sumWith_0 rfl rfl ?_
  refine tm_getR dt_Tr_sumWith_1 hW trt0 fl_Tr_15 rfl ?_
  refine ev_iload_n dt_Tr_sumWith_4 rfl rfl ?_
  refine ev_bipush dt_Tr_sumWith_5 rfl ?_
  refine ev_imul dt_Tr_sumWith_7 ?_
  refine ev_iload_n dt_Tr_sumWith_8 rfl rfl ?_
  refine ev_iadd dt_Tr_sumWith_9 ?_
  refine tm_iaload dt_Tr_sumWith_10 hW trt2 (by omega) (by omega) (by omega) (fun v11 kv11 lv11 uv11 => ?_)
  refine ev_aload_n dt_Tr_sumWith_11 rfl rfl ?_
  refine tm_getR dt_Tr_sumWith_12 hW trt0 fl_Tr_24 rfl ?_
  refine ev_iload_n dt_Tr_sumWith_15 rfl rfl ?_
  refine ev_iconst dt_Tr_sumWith_16 ?_
  refine ev_iload_n dt_Tr_sumWith_17 rfl rfl ?_
  refine tm_shl1 dt_Tr_sumWith_18 (by omega) (by omega) (fun v12 x1 x2 x3 x4 => ?_)
  have hv12 : 1 ≤ v12 ∧ v12 ≤ 64 := by omega
  clear x1 x2 x3 x4
  refine tm_ior dt_Tr_sumWith_19 (fun v13 x1 x2 => ?_)
  have hv13 : 0 ≤ v13 ∧ v13 ≤ 127 := by omega
  clear x1 x2
  refine tm_iaload dt_Tr_sumWith_20 hW trt5 (by omega) (by omega) (by omega) (fun v14 kv14 lv14 uv14 => ?_)
  refine ev_iadd dt_Tr_sumWith_21 ?_
  refine tm_any (fun v15 hv15 _ => ?_)
  exact ev_ireturn dt_Tr_sumWith_22 rfl ⟨rfl, _, rfl, by omega⟩
theorem dt_Tr_sortSlots_0 : decode prog_12_method_3_code 0 = .ok (.iconst 0, 1) := by decide +kernel
theorem dt_Tr_sortSlots_1 : decode prog_12_method_3_code 1 = .ok (.istore_n 2, 1) := by decide +kernel
theorem dt_Tr_sortSlots_2 : decode prog_12_method_3_code 2 = .ok (.iconst 0, 1) := by decide +kernel
theorem dt_Tr_sortSlots_3 : decode prog_12_method_3_code 3 = .ok (.istore_n 3, 1) := by decide +kernel
theorem dt_Tr_sortSlots_4 : decode prog_12_method_3_code 4 = .ok (.iload_n 3, 1) := by decide +kernel
theorem dt_Tr_sortSlots_5 : decode prog_12_method_3_code 5 = .ok (.bipush 12, 2) := by decide +kernel
theorem dt_Tr_sortSlots_7 : decode prog_12_method_3_code 7 = .ok (.if_icmp .ge 33, 3) := by decide +kernel
theorem dt_Tr_sortSlots_10 : decode prog_12_method_3_code 10 = .ok (.aload_n 1, 1) := by decide +kernel
theorem dt_Tr_sortSlots_11 : decode prog_12_method_3_code 11 = .ok (.iload_n 3, 1) := by decide +kernel
theorem dt_Tr_sortSlots_12 : decode prog_12_method_3_code 12 = .ok (.invokevirtual 46, 3) := by decide +kernel
theorem dt_Tr_sortSlots_15 : decode prog_12_method_3_code 15 = .ok (.ifCond .eq 19, 3) := by decide +kernel
theorem dt_Tr_sortSlots_18 : decode prog_12_method_3_code 18 = .ok (.iload_n 2, 1) := by decide +kernel
theorem dt_Tr_sortSlots_19 : decode prog_12_method_3_code 19 = .ok (.bipush 7, 2) := by decide +kernel
theorem dt_Tr_sortSlots_21 : decode prog_12_method_3_code 21 = .ok (.if_icmp .ge 13, 3) := by decide +kernel
theorem dt_Tr_sortSlots_24 : decode prog_12_method_3_code 24 = .ok (.aload_n 0, 1) := by decide +kernel
theorem dt_Tr_sortSlots_25 : decode prog_12_method_3_code 25 = .ok (.getfield 9, 3) := by decide +kernel
theorem dt_Tr_sortSlots_28 : decode prog_12_method_3_code 28 = .ok (.iload_n 2, 1) := by decide +kernel
theorem dt_Tr_sortSlots_29 : decode prog_12_method_3_code 29 = .ok (.iload_n 3, 1) := by decide +kernel
theorem dt_Tr_sortSlots_30 : decode prog_12_method_3_code 30 = .ok (.iastore, 1) := by decide +kernel
theorem dt_Tr_sortSlots_31 : decode prog_12_method_3_code 31 = .ok (.iinc 2 1, 3) := by decide +kernel
theorem dt_Tr_sortSlots_34 : decode prog_12_method_3_code 34 = .ok (.iinc 3 1, 3) := by decide +kernel
theorem dt_Tr_sortSlots_37 : decode prog_12_method_3_code 37 = .ok (.goto (-33), 3) := by decide +kernel
theorem dt_Tr_sortSlots_40 : decode prog_12_method_3_code 40 = .ok (.return_, 1) := by decide +kernel
set_option maxHeartbeats 4000000 in
set_option maxRecDepth 10000 in
theorem tm_Tr_sortSlots {N : Nat} {T : Nat → tm_S} {w : ab_W} {tr : Nat} {o : Nat} (hW : tm_W N T w) (h_tr : is_Tr T tr) (h_o : is_Ri T o) (ne_tr_o : tr + 6 ≤ o ∨ o + 13 ≤ tr) : ab_Mt g_G g_rs mt_Tr_sortSlots 1 0 0 [ab_R tr, ab_R o] w (tm_Qv N T (fun w2 => (∀ (p : Nat) (j : Int), ¬ (p = (tr + 1)) → tm_g w2 p j = tm_g w p j))) := by
  obtain ⟨trt0, trt1, trt2, trt3, trt4, trt5⟩ := id h_tr
  obtain ⟨ot0, ot1, ot2, ot3, ot4, ot5, ot6, ot7, ot8, ot9, ot10, ot11, ot12⟩ := id h_o
  have od := is_Ri.d h_o
  have hF0 : ∀ (p : Nat) (j : Int), ¬ (p = (tr + 1)) → tm_g w p j = tm_g w p j := fun _ _ _ => rfl
  refine ab_Mt.of rfl (Nat.le_of_ble_eq_true rfl) ?_
  show ab_Ev g_G g_rs mt_Tr_sortSlots _ _ _ 0 [some (ab_R tr), some (ab_R o), none, none] [] _ _
  refine ev_iconst dt_Tr_sortSlots_0 ?_
  refine ev_istore_n (l' := [_, _, _, _]) dt_Tr_sortSlots_1 rfl (Nat.le_of_ble_eq_true rfl) rfl ?_
  refine ev_iconst dt_Tr_sortSlots_2 ?_
  refine ev_istore_n (l' := [_, _, _, _]) dt_Tr_sortSlots_3 rfl (Nat.le_of_ble_eq_true rfl) rfl ?_
  have L16 : ∀ (n : Nat) (i17 : Int) (i18 : Int)  (w19 : ab_W), tm_W N T w19 → (∀ (p : Nat) (j : Int), ¬ (p = (tr + 1)) → tm_g w19 p j = tm_g w p j) → 0 ≤ i17 → i17 ≤ 7 → 0 ≤ i18 → i18 ≤ 12 → 12 - i18 < (n : Int) → ab_Ev g_G g_rs mt_Tr_sortSlots 1 0 0 4 [some (ab_R tr), some (ab_R o), some (ab_I i17), some (ab_I i18)] [] w19 (tm_Qv N T (fun w2 => (∀ (p : Nat) (j : Int), ¬ (p = (tr + 1)) → tm_g w2 p j = tm_g w p j))) := by
    intro n
    induction n with
    | zero =>
      intro i17 i18  w19 hWw19 hFw19 li17 ui17 li18 ui18 mL16
      exfalso
      omega
    | succ nL16 ihL16 =>
      intro i17 i18  w19 hWw19 hFw19 li17 ui17 li18 ui18 mL16
      refine ev_iload_n dt_Tr_sortSlots_4 rfl rfl ?_
      refine ev_bipush dt_Tr_sortSlots_5 rfl ?_
      refine ev_icmp_ge (tgt := 40) dt_Tr_sortSlots_7 (by decide) (by omega) (by omega) (fun h20 => ?_) (fun h20 => ?_)
      · skip
        exact ev_return dt_Tr_sortSlots_40 rfl ⟨hWw19, rfl, hFw19⟩
      · skip
        refine ev_aload_n dt_Tr_sortSlots_10 rfl rfl ?_
        refine ev_iload_n dt_Tr_sortSlots_11 rfl rfl ?_
        refine tm_vp dt_Tr_sortSlots_12 (tm_Ri_slotTaken hWw19 h_o (i18) (by omega) (by omega)) kb_Tr_46 ⟨im_Ri_slotTaken, se_Ri_slotTaken⟩ rfl hWw19 ot0 rfl (Nat.le_of_ble_eq_true rfl) (by decide) (fun v21 hv21 => ?_)
        refine ev_if_eq (tgt := 34) dt_Tr_sortSlots_15 (by decide) (by omega) (fun h22 => ?_) (fun h22 => ?_)
        · skip
          refine ev_iinc (l' := [_, _, _, _]) dt_Tr_sortSlots_34 rfl rfl ?_
          refine ev_goto (tgt := 4) dt_Tr_sortSlots_37 (by decide) ?_
          exact tm_loc (tm_le_s (tm_le_s (tm_le_s (tm_le_s tm_le_0)))) (ihL16 (i17) ((i18 + 1)) w19 hWw19 hFw19 (by omega) (by omega) (by omega) (by omega) (by omega))
        · skip
          refine ev_iload_n dt_Tr_sortSlots_18 rfl rfl ?_
          refine ev_bipush dt_Tr_sortSlots_19 rfl ?_
          refine ev_icmp_ge (tgt := 34) dt_Tr_sortSlots_21 (by decide) (by omega) (by omega) (fun h23 => ?_) (fun h23 => ?_)
          · skip
            refine ev_iinc (l' := [_, _, _, _]) dt_Tr_sortSlots_34 rfl rfl ?_
            refine ev_goto (tgt := 4) dt_Tr_sortSlots_37 (by decide) ?_
            exact tm_loc (tm_le_s (tm_le_s (tm_le_s (tm_le_s tm_le_0)))) (ihL16 (i17) ((i18 + 1)) w19 hWw19 hFw19 (by omega) (by omega) (by omega) (by omega) (by omega))
          · skip
            refine ev_aload_n dt_Tr_sortSlots_24 rfl rfl ?_
            refine tm_getR dt_Tr_sortSlots_25 hWw19 trt0 fl_Tr_9 rfl ?_
            refine ev_iload_n dt_Tr_sortSlots_28 rfl rfl ?_
            refine ev_iload_n dt_Tr_sortSlots_29 rfl rfl ?_
            refine tm_iastore dt_Tr_sortSlots_30 hWw19 trt1 (by omega) (by omega) (by omega) (by omega) (by omega) (fun w24 hWw24 kkw24 hfw24 => ?_)
            have hFw24 : ∀ (p : Nat) (j : Int), ¬ (p = (tr + 1)) → tm_g w24 p j = tm_g w p j := fun p j h => (hfw24 p j (by omega)).trans (hFw19 p j h)
            refine ev_iinc (l' := [_, _, _, _]) dt_Tr_sortSlots_31 rfl rfl ?_
            refine ev_iinc (l' := [_, _, _, _]) dt_Tr_sortSlots_34 rfl rfl ?_
            refine ev_goto (tgt := 4) dt_Tr_sortSlots_37 (by decide) ?_
            exact tm_loc (tm_le_s (tm_le_s (tm_le_s (tm_le_s tm_le_0)))) (ihL16 ((i17 + 1)) ((i18 + 1)) w24 hWw24 hFw24 (by omega) (by omega) (by omega) (by omega) (by omega))
  exact tm_loc (tm_le_s (tm_le_s (tm_le_s (tm_le_s tm_le_0)))) (L16 (12 - (0) + 1 : Int).toNat (0) (0)  w hW hF0 (by omega) (by omega) (by omega) (by omega) (by omega))
theorem dt_Tr_firstChoice_0 : decode prog_12_method_8_code 0 = .ok (.iconst 0, 1) := by decide +kernel
theorem dt_Tr_firstChoice_1 : decode prog_12_method_8_code 1 = .ok (.istore 4, 2) := by decide +kernel
theorem dt_Tr_firstChoice_3 : decode prog_12_method_8_code 3 = .ok (.iload 4, 2) := by decide +kernel
theorem dt_Tr_firstChoice_5 : decode prog_12_method_8_code 5 = .ok (.iload_n 3, 1) := by decide +kernel
theorem dt_Tr_firstChoice_6 : decode prog_12_method_8_code 6 = .ok (.if_icmp .ge 40, 3) := by decide +kernel
theorem dt_Tr_firstChoice_9 : decode prog_12_method_8_code 9 = .ok (.aload_n 0, 1) := by decide +kernel
theorem dt_Tr_firstChoice_10 : decode prog_12_method_8_code 10 = .ok (.iload_n 1, 1) := by decide +kernel
theorem dt_Tr_firstChoice_11 : decode prog_12_method_8_code 11 = .ok (.iload 4, 2) := by decide +kernel
theorem dt_Tr_firstChoice_13 : decode prog_12_method_8_code 13 = .ok (.iload_n 2, 1) := by decide +kernel
theorem dt_Tr_firstChoice_14 : decode prog_12_method_8_code 14 = .ok (.invokevirtual 56, 3) := by decide +kernel
theorem dt_Tr_firstChoice_17 : decode prog_12_method_8_code 17 = .ok (.ifCond .eq 23, 3) := by decide +kernel
theorem dt_Tr_firstChoice_20 : decode prog_12_method_8_code 20 = .ok (.aload_n 0, 1) := by decide +kernel
theorem dt_Tr_firstChoice_21 : decode prog_12_method_8_code 21 = .ok (.iload_n 1, 1) := by decide +kernel
theorem dt_Tr_firstChoice_22 : decode prog_12_method_8_code 22 = .ok (.iload 4, 2) := by decide +kernel
theorem dt_Tr_firstChoice_24 : decode prog_12_method_8_code 24 = .ok (.iload_n 2, 1) := by decide +kernel
theorem dt_Tr_firstChoice_25 : decode prog_12_method_8_code 25 = .ok (.invokevirtual 60, 3) := by decide +kernel
theorem dt_Tr_firstChoice_28 : decode prog_12_method_8_code 28 = .ok (.aload_n 0, 1) := by decide +kernel
theorem dt_Tr_firstChoice_29 : decode prog_12_method_8_code 29 = .ok (.getfield 24, 3) := by decide +kernel
theorem dt_Tr_firstChoice_32 : decode prog_12_method_8_code 32 = .ok (.iload_n 2, 1) := by decide +kernel
theorem dt_Tr_firstChoice_33 : decode prog_12_method_8_code 33 = .ok (.iaload, 1) := by decide +kernel
theorem dt_Tr_firstChoice_34 : decode prog_12_method_8_code 34 = .ok (.if_icmp .ne 6, 3) := by decide +kernel
theorem dt_Tr_firstChoice_37 : decode prog_12_method_8_code 37 = .ok (.iload 4, 2) := by decide +kernel
theorem dt_Tr_firstChoice_39 : decode prog_12_method_8_code 39 = .ok (.ireturn, 1) := by decide +kernel
theorem dt_Tr_firstChoice_40 : decode prog_12_method_8_code 40 = .ok (.iinc 4 1, 3) := by decide +kernel
theorem dt_Tr_firstChoice_43 : decode prog_12_method_8_code 43 = .ok (.goto (-40), 3) := by decide +kernel
theorem dt_Tr_firstChoice_46 : decode prog_12_method_8_code 46 = .ok (.iconst 0, 1) := by decide +kernel
theorem dt_Tr_firstChoice_47 : decode prog_12_method_8_code 47 = .ok (.ireturn, 1) := by decide +kernel
set_option maxHeartbeats 4000000 in
set_option maxRecDepth 10000 in
theorem tm_Tr_firstChoice {N : Nat} {T : Nat → tm_S} {w : ab_W} {tr : Nat} (hW : tm_W N T w) (h_tr : is_Tr T tr) (a : Int) (l_a : 0 ≤ a) (u_a : a ≤ 6) (b : Int) (l_b : 0 ≤ b) (u_b : b ≤ 127) (c : Int) (l_c : 0 ≤ c) (u_c : c ≤ 7) : ab_Mt g_G g_rs mt_Tr_firstChoice 1 0 0 [ab_R tr, ab_I a, ab_I b, ab_I c] w (tm_P w (fun v => 0 ≤ v ∧ v ≤ 6)) := by
  obtain ⟨trt0, trt1, trt2, trt3, trt4, trt5⟩ := id h_tr
  refine ab_Mt.of rfl (Nat.le_of_ble_eq_true rfl) ?_
  show ab_Ev g_G g_rs mt_Tr_firstChoice _ _ _ 0 [some (ab_R tr), some (ab_I a), some (ab_I b), some (ab_I c), none] [] _ _
  refine ev_iconst dt_Tr_firstChoice_0 ?_
  refine ev_istore (l' := [_, _, _, _, _]) dt_Tr_firstChoice_1 (Nat.le_of_ble_eq_true rfl) rfl ?_
  have L25 : ∀ (n : Nat) (i26 : Int) , 0 ≤ i26 → i26 ≤ 7 → 7 - i26 < (n : Int) → ab_Ev g_G g_rs mt_Tr_firstChoice 1 0 0 3 [some (ab_R tr), some (ab_I a), some (ab_I b), some (ab_I c), some (ab_I i26)] [] w (tm_P w (fun v => 0 ≤ v ∧ v ≤ 6)) := by
    intro n
    induction n with
    | zero =>
      intro i26  li26 ui26 mL25
      exfalso
      omega
    | succ nL25 ihL25 =>
      intro i26  li26 ui26 mL25
      refine ev_iload dt_Tr_firstChoice_3 rfl ?_
      refine ev_iload_n dt_Tr_firstChoice_5 rfl rfl ?_
      refine ev_icmp_ge (tgt := 46) dt_Tr_firstChoice_6 (by decide) (by omega) (by omega) (fun h27 => ?_) (fun h27 => ?_)
      · skip
        refine ev_iconst dt_Tr_firstChoice_46 ?_
        exact ev_ireturn dt_Tr_firstChoice_47 rfl ⟨rfl, _, rfl, by omega⟩
      · skip
        refine ev_aload_n dt_Tr_firstChoice_9 rfl rfl ?_
        refine ev_iload_n dt_Tr_firstChoice_10 rfl rfl ?_
        refine ev_iload dt_Tr_firstChoice_11 rfl ?_
        refine ev_iload_n dt_Tr_firstChoice_13 rfl rfl ?_
        refine tm_vp dt_Tr_firstChoice_14 (tm_Tr_mayTake hW h_tr (a) (by omega) (by omega) (i26) (by omega) (by omega) (b) (by omega) (by omega)) kb_Tr_56 ⟨im_Tr_mayTake, se_Tr_mayTake⟩ rfl hW trt0 rfl (Nat.le_of_ble_eq_true rfl) (by decide) (fun v28 hv28 => ?_)
        refine ev_if_eq (tgt := 40) dt_Tr_firstChoice_17 (by decide) (by omega) (fun h29 => ?_) (fun h29 => ?_)
        · skip
          refine ev_iinc (l' := [_, _, _, _, _]) dt_Tr_firstChoice_40 rfl rfl ?_
          refine ev_goto (tgt := 3) dt_Tr_firstChoice_43 (by decide) ?_
          exact tm_loc (tm_le_s (tm_le_s (tm_le_s (tm_le_s (tm_le_s tm_le_0))))) (ihL25 ((i26 + 1)) (by omega) (by omega) (by omega))
        · skip
          refine ev_aload_n dt_Tr_firstChoice_20 rfl rfl ?_
          refine ev_iload_n dt_Tr_firstChoice_21 rfl rfl ?_
          refine ev_iload dt_Tr_firstChoice_22 rfl ?_
          refine ev_iload_n dt_Tr_firstChoice_24 rfl rfl ?_
          refine tm_vp dt_Tr_firstChoice_25 (tm_Tr_sumWith hW h_tr (a) (by omega) (by omega) (i26) (by omega) (by omega) (b) (by omega) (by omega)) kb_Tr_60 ⟨im_Tr_sumWith, se_Tr_sumWith⟩ rfl hW trt0 rfl (Nat.le_of_ble_eq_true rfl) (by decide) (fun v30 hv30 => ?_)
          refine ev_aload_n dt_Tr_firstChoice_28 rfl rfl ?_
          refine tm_getR dt_Tr_firstChoice_29 hW trt0 fl_Tr_24 rfl ?_
          refine ev_iload_n dt_Tr_firstChoice_32 rfl rfl ?_
          refine tm_iaload dt_Tr_firstChoice_33 hW trt5 (by omega) (by omega) (by omega) (fun v31 kv31 lv31 uv31 => ?_)
          refine ev_icmp_ne (tgt := 40) dt_Tr_firstChoice_34 (by decide) (by omega) (by omega) (fun h32 => ?_) (fun h32 => ?_)
          · skip
            refine ev_iinc (l' := [_, _, _, _, _]) dt_Tr_firstChoice_40 rfl rfl ?_
            refine ev_goto (tgt := 3) dt_Tr_firstChoice_43 (by decide) ?_
            exact tm_loc (tm_le_s (tm_le_s (tm_le_s (tm_le_s (tm_le_s tm_le_0))))) (ihL25 ((i26 + 1)) (by omega) (by omega) (by omega))
          · skip
            refine ev_iload dt_Tr_firstChoice_37 rfl ?_
            exact ev_ireturn dt_Tr_firstChoice_39 rfl ⟨rfl, _, rfl, by omega⟩
  exact tm_loc (tm_le_s (tm_le_s (tm_le_s (tm_le_s (tm_le_s tm_le_0))))) (L25 (7 - (0) + 1 : Int).toNat (0)  (by omega) (by omega) (by omega))
theorem dt_Tr_firstSlotOf_0 : decode prog_12_method_7_code 0 = .ok (.iconst 0, 1) := by decide +kernel
theorem dt_Tr_firstSlotOf_1 : decode prog_12_method_7_code 1 = .ok (.istore_n 3, 1) := by decide +kernel
theorem dt_Tr_firstSlotOf_2 : decode prog_12_method_7_code 2 = .ok (.iconst (-1), 1) := by decide +kernel
theorem dt_Tr_firstSlotOf_3 : decode prog_12_method_7_code 3 = .ok (.istore 4, 2) := by decide +kernel
theorem dt_Tr_firstSlotOf_5 : decode prog_12_method_7_code 5 = .ok (.iconst 0, 1) := by decide +kernel
theorem dt_Tr_firstSlotOf_6 : decode prog_12_method_7_code 6 = .ok (.istore 5, 2) := by decide +kernel
theorem dt_Tr_firstSlotOf_8 : decode prog_12_method_7_code 8 = .ok (.iload 5, 2) := by decide +kernel
theorem dt_Tr_firstSlotOf_10 : decode prog_12_method_7_code 10 = .ok (.iload_n 2, 1) := by decide +kernel
theorem dt_Tr_firstSlotOf_11 : decode prog_12_method_7_code 11 = .ok (.if_icmp .gt 38, 3) := by decide +kernel
theorem dt_Tr_firstSlotOf_14 : decode prog_12_method_7_code 14 = .ok (.aload_n 0, 1) := by decide +kernel
theorem dt_Tr_firstSlotOf_15 : decode prog_12_method_7_code 15 = .ok (.iload 5, 2) := by decide +kernel
theorem dt_Tr_firstSlotOf_17 : decode prog_12_method_7_code 17 = .ok (.iload_n 3, 1) := by decide +kernel
theorem dt_Tr_firstSlotOf_18 : decode prog_12_method_7_code 18 = .ok (.aload_n 1, 1) := by decide +kernel
theorem dt_Tr_firstSlotOf_19 : decode prog_12_method_7_code 19 = .ok (.getfield 31, 3) := by decide +kernel
theorem dt_Tr_firstSlotOf_22 : decode prog_12_method_7_code 22 = .ok (.invokevirtual 69, 3) := by decide +kernel
theorem dt_Tr_firstSlotOf_25 : decode prog_12_method_7_code 25 = .ok (.istore 6, 2) := by decide +kernel
theorem dt_Tr_firstSlotOf_27 : decode prog_12_method_7_code 27 = .ok (.aload_n 0, 1) := by decide +kernel
theorem dt_Tr_firstSlotOf_28 : decode prog_12_method_7_code 28 = .ok (.getfield 9, 3) := by decide +kernel
theorem dt_Tr_firstSlotOf_31 : decode prog_12_method_7_code 31 = .ok (.iload 6, 2) := by decide +kernel
theorem dt_Tr_firstSlotOf_33 : decode prog_12_method_7_code 33 = .ok (.iaload, 1) := by decide +kernel
theorem dt_Tr_firstSlotOf_34 : decode prog_12_method_7_code 34 = .ok (.istore 4, 2) := by decide +kernel
theorem dt_Tr_firstSlotOf_36 : decode prog_12_method_7_code 36 = .ok (.iload_n 3, 1) := by decide +kernel
theorem dt_Tr_firstSlotOf_37 : decode prog_12_method_7_code 37 = .ok (.iconst 1, 1) := by decide +kernel
theorem dt_Tr_firstSlotOf_38 : decode prog_12_method_7_code 38 = .ok (.iload 6, 2) := by decide +kernel
theorem dt_Tr_firstSlotOf_40 : decode prog_12_method_7_code 40 = .ok (.ishl, 1) := by decide +kernel
theorem dt_Tr_firstSlotOf_41 : decode prog_12_method_7_code 41 = .ok (.ior, 1) := by decide +kernel
theorem dt_Tr_firstSlotOf_42 : decode prog_12_method_7_code 42 = .ok (.istore_n 3, 1) := by decide +kernel
theorem dt_Tr_firstSlotOf_43 : decode prog_12_method_7_code 43 = .ok (.iinc 5 1, 3) := by decide +kernel
theorem dt_Tr_firstSlotOf_46 : decode prog_12_method_7_code 46 = .ok (.goto (-38), 3) := by decide +kernel
theorem dt_Tr_firstSlotOf_49 : decode prog_12_method_7_code 49 = .ok (.iload 4, 2) := by decide +kernel
theorem dt_Tr_firstSlotOf_51 : decode prog_12_method_7_code 51 = .ok (.ireturn, 1) := by decide +kernel
set_option maxHeartbeats 4000000 in
set_option maxRecDepth 10000 in
theorem tm_Tr_firstSlotOf {N : Nat} {T : Nat → tm_S} {w : ab_W} {tr : Nat} {o : Nat} (hW : tm_W N T w) (h_tr : is_Tr T tr) (h_o : is_Ri T o) (ne_tr_o : tr + 6 ≤ o ∨ o + 13 ≤ tr) (a : Int) (l_a : 0 ≤ a) (u_a : a ≤ 6) : ab_Mt g_G g_rs mt_Tr_firstSlotOf 2 0 0 [ab_R tr, ab_R o, ab_I a] w (tm_P w (fun v => (-1) ≤ v ∧ v ≤ 11)) := by
  obtain ⟨trt0, trt1, trt2, trt3, trt4, trt5⟩ := id h_tr
  obtain ⟨ot0, ot1, ot2, ot3, ot4, ot5, ot6, ot7, ot8, ot9, ot10, ot11, ot12⟩ := id h_o
  have od := is_Ri.d h_o
  refine ab_Mt.of rfl (Nat.le_of_ble_eq_true rfl) ?_
  show ab_Ev g_G g_rs mt_Tr_firstSlotOf _ _ _ 0 [some (ab_R tr), some (ab_R o), some (ab_I a), none, none, none, none] [] _ _
  refine ev_iconst dt_Tr_firstSlotOf_0 ?_
  refine ev_istore_n (l' := [_, _, _, _, _, _, _]) dt_Tr_firstSlotOf_1 rfl (Nat.le_of_ble_eq_true rfl) rfl ?_
  refine ev_iconst dt_Tr_firstSlotOf_2 ?_
  refine ev_istore (l' := [_, _, _, _, _, _, _]) dt_Tr_firstSlotOf_3 (Nat.le_of_ble_eq_true rfl) rfl ?_
  refine ev_iconst dt_Tr_firstSlotOf_5 ?_
  refine ev_istore (l' := [_, _, _, _, _, _, _]) dt_Tr_firstSlotOf_6 (Nat.le_of_ble_eq_true rfl) rfl ?_
  have L33 : ∀ (n : Nat) (i34 : Int) (i35 : Int) (i36 : Int) , 0 ≤ i34 → i34 ≤ 127 → (-1) ≤ i35 → i35 ≤ 11 → 0 ≤ i36 → i36 ≤ 7 → 7 - i36 < (n : Int) → ab_Ev g_G g_rs mt_Tr_firstSlotOf 2 0 0 8 [some (ab_R tr), some (ab_R o), some (ab_I a), some (ab_I i34), some (ab_I i35), some (ab_I i36), none] [] w (tm_P w (fun v => (-1) ≤ v ∧ v ≤ 11)) := by
    intro n
    induction n with
    | zero =>
      intro i34 i35 i36  li34 ui34 li35 ui35 li36 ui36 mL33
      exfalso
      omega
    | succ nL33 ihL33 =>
      intro i34 i35 i36  li34 ui34 li35 ui35 li36 ui36 mL33
      refine ev_iload dt_Tr_firstSlotOf_8 rfl ?_
      refine ev_iload_n dt_Tr_firstSlotOf_10 rfl rfl ?_
      refine ev_icmp_gt (tgt := 49) dt_Tr_firstSlotOf_11 (by decide) (by omega) (by omega) (fun h37 => ?_) (fun h37 => ?_)
      · skip
        refine ev_iload dt_Tr_firstSlotOf_49 rfl ?_
        exact ev_ireturn dt_Tr_firstSlotOf_51 rfl ⟨rfl, _, rfl, by omega⟩
      · skip
        refine ev_aload_n dt_Tr_firstSlotOf_14 rfl rfl ?_
        refine ev_iload dt_Tr_firstSlotOf_15 rfl ?_
        refine ev_iload_n dt_Tr_firstSlotOf_17 rfl rfl ?_
        refine ev_aload_n dt_Tr_firstSlotOf_18 rfl rfl ?_
        refine tm_getI (K := 7) dt_Tr_firstSlotOf_19 hW ot0 fl_Tr_31 rfl rfl (fun v38 kv38 lv38 uv38 => ?_)
        refine tm_vp dt_Tr_firstSlotOf_22 (tm_Tr_firstChoice hW h_tr (i36) (by omega) (by omega) (i34) (by omega) (by omega) (v38) (by omega) (by omega)) kb_Tr_69 ⟨im_Tr_firstChoice, se_Tr_firstChoice⟩ rfl hW trt0 rfl (Nat.le_of_ble_eq_true rfl) (by decide) (fun v39 hv39 => ?_)
        refine ev_istore (l' := [_, _, _, _, _, _, _]) dt_Tr_firstSlotOf_25 (Nat.le_of_ble_eq_true rfl) rfl ?_
        refine ev_aload_n dt_Tr_firstSlotOf_27 rfl rfl ?_
        refine tm_getR dt_Tr_firstSlotOf_28 hW trt0 fl_Tr_9 rfl ?_
        refine ev_iload dt_Tr_firstSlotOf_31 rfl ?_
        refine tm_iaload dt_Tr_firstSlotOf_33 hW trt1 (by omega) (by omega) (by omega) (fun v40 kv40 lv40 uv40 => ?_)
        refine ev_istore (l' := [_, _, _, _, _, _, _]) dt_Tr_firstSlotOf_34 (Nat.le_of_ble_eq_true rfl) rfl ?_
        refine ev_iload_n dt_Tr_firstSlotOf_36 rfl rfl ?_
        refine ev_iconst dt_Tr_firstSlotOf_37 ?_
        refine ev_iload dt_Tr_firstSlotOf_38 rfl ?_
        refine tm_shl1 dt_Tr_firstSlotOf_40 (by omega) (by omega) (fun v41 x1 x2 x3 x4 => ?_)
        have hv41 : 1 ≤ v41 ∧ v41 ≤ 64 := by omega
        clear x1 x2 x3 x4
        refine tm_ior dt_Tr_firstSlotOf_41 (fun v42 x1 x2 => ?_)
        have hv42 : 0 ≤ v42 ∧ v42 ≤ 127 := by omega
        clear x1 x2
        refine ev_istore_n (l' := [_, _, _, _, _, _, _]) dt_Tr_firstSlotOf_42 rfl (Nat.le_of_ble_eq_true rfl) rfl ?_
        refine ev_iinc (l' := [_, _, _, _, _, _, _]) dt_Tr_firstSlotOf_43 rfl rfl ?_
        refine ev_goto (tgt := 8) dt_Tr_firstSlotOf_46 (by decide) ?_
        exact tm_loc (tm_le_s (tm_le_s (tm_le_s (tm_le_s (tm_le_s (tm_le_s (tm_le_n tm_le_0))))))) (ihL33 (v42) (v40) ((i36 + 1)) (by omega) (by omega) (by omega) (by omega) (by omega) (by omega) (by omega))
  exact tm_loc (tm_le_s (tm_le_s (tm_le_s (tm_le_s (tm_le_s (tm_le_s (tm_le_n tm_le_0))))))) (L33 (7 - (0) + 1 : Int).toNat (0) ((-1)) (0)  (by omega) (by omega) (by omega) (by omega) (by omega) (by omega) (by omega))
