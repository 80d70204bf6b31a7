theorem dt_Gu_sortsSeen_0 : decode prog_4_method_3_code 0 = .ok (.aload_n 0, 1) := by decide +kernel
theorem dt_Gu_sortsSeen_1 : decode prog_4_method_3_code 1 = .ok (.getfield 29, 3) := by decide +kernel
theorem dt_Gu_sortsSeen_4 : decode prog_4_method_3_code 4 = .ok (.iload_n 1, 1) := by decide +kernel
theorem dt_Gu_sortsSeen_5 : decode prog_4_method_3_code 5 = .ok (.iaload, 1) := by decide +kernel
theorem dt_Gu_sortsSeen_6 : decode prog_4_method_3_code 6 = .ok (.iload_n 3, 1) := by decide +kernel
theorem dt_Gu_sortsSeen_7 : decode prog_4_method_3_code 7 = .ok (.iload_n 2, 1) := by decide +kernel
theorem dt_Gu_sortsSeen_8 : decode prog_4_method_3_code 8 = .ok (.iload 4, 2) := by decide +kernel
theorem dt_Gu_sortsSeen_10 : decode prog_4_method_3_code 10 = .ok (.imul, 1) := by decide +kernel
theorem dt_Gu_sortsSeen_11 : decode prog_4_method_3_code 11 = .ok (.iadd, 1) := by decide +kernel
theorem dt_Gu_sortsSeen_12 : decode prog_4_method_3_code 12 = .ok (.invokestatic 34, 3) := by decide +kernel
theorem dt_Gu_sortsSeen_15 : decode prog_4_method_3_code 15 = .ok (.invokestatic 38, 3) := by decide +kernel
theorem dt_Gu_sortsSeen_18 : decode prog_4_method_3_code 18 = .ok (.istore 5, 2) := by decide +kernel
theorem dt_Gu_sortsSeen_20 : decode prog_4_method_3_code 20 = .ok (.aload_n 0, 1) := by decide +kernel
theorem dt_Gu_sortsSeen_21 : decode prog_4_method_3_code 21 = .ok (.iload 5, 2) := by decide +kernel
theorem dt_Gu_sortsSeen_23 : decode prog_4_method_3_code 23 = .ok (.iload_n 2, 1) := by decide +kernel
theorem dt_Gu_sortsSeen_24 : decode prog_4_method_3_code 24 = .ok (.bipush 24, 2) := by decide +kernel
theorem dt_Gu_sortsSeen_26 : decode prog_4_method_3_code 26 = .ok (.irem, 1) := by decide +kernel
theorem dt_Gu_sortsSeen_27 : decode prog_4_method_3_code 27 = .ok (.invokevirtual 42, 3) := by decide +kernel
theorem dt_Gu_sortsSeen_30 : decode prog_4_method_3_code 30 = .ok (.ireturn, 1) := by decide +kernel
set_option maxHeartbeats 4000000 in
set_option maxRecDepth 10000 in
theorem tm_Gu_sortsSeen {N : Nat} {T : Nat → tm_S} {w : ab_W} {o : Nat} (hW : tm_W N T w) (h_o : is_Ri T o) (a : Int) (l_a : 0 ≤ a) (u_a : a ≤ 6) (b : Int) (l_b : 0 ≤ b) (u_b : b ≤ 99) (c : Int) (l_c : 0 ≤ c) (u_c : c ≤ 11) (e : Int) (l_e : (-2147483648) ≤ e) (u_e : e ≤ 2147483647) : ab_Mt g_G g_rs mt_Gu_sortsSeen 1 0 0 [ab_R o, ab_I a, ab_I b, ab_I c, ab_I e] w (tm_P w (fun v => 0 ≤ v ∧ v ≤ 31)) := by
  obtain ⟨ot0, ot1, ot2, ot3, ot4, ot5, ot6, ot7, ot8, ot9, ot10, ot11, ot12⟩ := id h_o
  have od := is_Ri.d h_o
  refine ab_Mt.of rfl (Nat.le_of_ble_eq_true rfl) ?_
  show ab_Ev g_G g_rs mt_Gu_sortsSeen _ _ _ 0 [some (ab_R o), some (ab_I a), some (ab_I b), some (ab_I c), some (ab_I e), none] [] _ _
  refine ev_aload_n dt_Gu_sortsSeen_0 rfl rfl ?_
  refine tm_getR dt_Gu_sortsSeen_1 hW ot0 fl_Gu_29 rfl ?_
  refine ev_iload_n dt_Gu_sortsSeen_4 rfl rfl ?_
  refine tm_iaload dt_Gu_sortsSeen_5 hW ot2 (by omega) (by omega) (by omega) (fun v1 kv1 lv1 uv1 => ?_)
  refine ev_iload_n dt_Gu_sortsSeen_6 rfl rfl ?_
  refine ev_iload_n dt_Gu_sortsSeen_7 rfl rfl ?_
  refine ev_iload dt_Gu_sortsSeen_8 rfl ?_
  refine ev_imul dt_Gu_sortsSeen_10 ?_
  refine tm_any (fun v2 hv2 _ => ?_)
  refine ev_iadd dt_Gu_sortsSeen_11 ?_
  refine tm_any (fun v3 hv3 _ => ?_)
  refine tm_sp dt_Gu_sortsSeen_12 (tm_Tu_wrapped hW (v3) (by omega) (by omega)) kb_Gu_34 sc_Tu_wrapped rfl (Nat.le_of_ble_eq_true rfl) (by decide) (fun v4 hv4 => ?_)
  refine tm_sp dt_Gu_sortsSeen_15 (tm_Tu_facedBy hW (v1) (by omega) (by omega) (v4) (by omega) (by omega)) kb_Gu_38 sc_Tu_facedBy rfl (Nat.le_of_ble_eq_true rfl) (by decide) (fun v5 hv5 => ?_)
  refine ev_istore (l' := [_, _, _, _, _, _]) dt_Gu_sortsSeen_18 (Nat.le_of_ble_eq_true rfl) rfl ?_
  refine ev_aload_n dt_Gu_sortsSeen_20 rfl rfl ?_
  refine ev_iload dt_Gu_sortsSeen_21 rfl ?_
  refine ev_iload_n dt_Gu_sortsSeen_23 rfl rfl ?_
  refine ev_bipush dt_Gu_sortsSeen_24 rfl ?_
  refine tm_irem dt_Gu_sortsSeen_26 (by omega) (by omega) (by omega) (fun v6 x1 x2 x3 x4 => ?_)
  have hv6 : 0 ≤ v6 ∧ v6 ≤ 23 := by omega
  clear x1 x2 x3 x4
  refine tm_vp dt_Gu_sortsSeen_27 (tm_Ri_sortsAt hW h_o (v5) (by omega) (by omega) (v6) (by omega) (by omega)) kb_Gu_42 ⟨im_Ri_sortsAt, se_Ri_sortsAt⟩ rfl hW ot0 rfl (Nat.le_of_ble_eq_true rfl) (by decide) (fun v7 hv7 => ?_)
  exact ev_ireturn dt_Gu_sortsSeen_30 rfl ⟨rfl, _, rfl, by omega⟩
theorem dt_Gu_fitsDiary_0 : decode prog_4_method_4_code 0 = .ok (.aload_n 0, 1) := by decide +kernel
theorem dt_Gu_fitsDiary_1 : decode prog_4_method_4_code 1 = .ok (.getfield 45, 3) := by decide +kernel
theorem dt_Gu_fitsDiary_4 : decode prog_4_method_4_code 4 = .ok (.astore_n 3, 1) := by decide +kernel
theorem dt_Gu_fitsDiary_5 : decode prog_4_method_4_code 5 = .ok (.iconst 0, 1) := by decide +kernel
theorem dt_Gu_fitsDiary_6 : decode prog_4_method_4_code 6 = .ok (.istore 4, 2) := by decide +kernel
theorem dt_Gu_fitsDiary_8 : decode prog_4_method_4_code 8 = .ok (.iload 4, 2) := by decide +kernel
theorem dt_Gu_fitsDiary_10 : decode prog_4_method_4_code 10 = .ok (.aload_n 3, 1) := by decide +kernel
theorem dt_Gu_fitsDiary_11 : decode prog_4_method_4_code 11 = .ok (.getfield 49, 3) := by decide +kernel
theorem dt_Gu_fitsDiary_14 : decode prog_4_method_4_code 14 = .ok (.if_icmp .ge 55, 3) := by decide +kernel
theorem dt_Gu_fitsDiary_17 : decode prog_4_method_4_code 17 = .ok (.aload_n 0, 1) := by decide +kernel
theorem dt_Gu_fitsDiary_18 : decode prog_4_method_4_code 18 = .ok (.aload_n 3, 1) := by decide +kernel
theorem dt_Gu_fitsDiary_19 : decode prog_4_method_4_code 19 = .ok (.getfield 54, 3) := by decide +kernel
theorem dt_Gu_fitsDiary_22 : decode prog_4_method_4_code 22 = .ok (.iload 4, 2) := by decide +kernel
theorem dt_Gu_fitsDiary_24 : decode prog_4_method_4_code 24 = .ok (.iaload, 1) := by decide +kernel
theorem dt_Gu_fitsDiary_25 : decode prog_4_method_4_code 25 = .ok (.aload_n 3, 1) := by decide +kernel
theorem dt_Gu_fitsDiary_26 : decode prog_4_method_4_code 26 = .ok (.getfield 57, 3) := by decide +kernel
theorem dt_Gu_fitsDiary_29 : decode prog_4_method_4_code 29 = .ok (.iload 4, 2) := by decide +kernel
theorem dt_Gu_fitsDiary_31 : decode prog_4_method_4_code 31 = .ok (.iaload, 1) := by decide +kernel
theorem dt_Gu_fitsDiary_32 : decode prog_4_method_4_code 32 = .ok (.iload_n 1, 1) := by decide +kernel
theorem dt_Gu_fitsDiary_33 : decode prog_4_method_4_code 33 = .ok (.iload_n 2, 1) := by decide +kernel
theorem dt_Gu_fitsDiary_34 : decode prog_4_method_4_code 34 = .ok (.invokestatic 60, 3) := by decide +kernel
theorem dt_Gu_fitsDiary_37 : decode prog_4_method_4_code 37 = .ok (.istore 5, 2) := by decide +kernel
theorem dt_Gu_fitsDiary_39 : decode prog_4_method_4_code 39 = .ok (.iload 5, 2) := by decide +kernel
theorem dt_Gu_fitsDiary_41 : decode prog_4_method_4_code 41 = .ok (.aload_n 3, 1) := by decide +kernel
theorem dt_Gu_fitsDiary_42 : decode prog_4_method_4_code 42 = .ok (.getfield 64, 3) := by decide +kernel
theorem dt_Gu_fitsDiary_45 : decode prog_4_method_4_code 45 = .ok (.iload 4, 2) := by decide +kernel
theorem dt_Gu_fitsDiary_47 : decode prog_4_method_4_code 47 = .ok (.iaload, 1) := by decide +kernel
theorem dt_Gu_fitsDiary_48 : decode prog_4_method_4_code 48 = .ok (.ishr, 1) := by decide +kernel
theorem dt_Gu_fitsDiary_49 : decode prog_4_method_4_code 49 = .ok (.iconst 1, 1) := by decide +kernel
theorem dt_Gu_fitsDiary_50 : decode prog_4_method_4_code 50 = .ok (.iand, 1) := by decide +kernel
theorem dt_Gu_fitsDiary_51 : decode prog_4_method_4_code 51 = .ok (.aload_n 3, 1) := by decide +kernel
theorem dt_Gu_fitsDiary_52 : decode prog_4_method_4_code 52 = .ok (.getfield 67, 3) := by decide +kernel
theorem dt_Gu_fitsDiary_55 : decode prog_4_method_4_code 55 = .ok (.iload 4, 2) := by decide +kernel
theorem dt_Gu_fitsDiary_57 : decode prog_4_method_4_code 57 = .ok (.iaload, 1) := by decide +kernel
theorem dt_Gu_fitsDiary_58 : decode prog_4_method_4_code 58 = .ok (.if_icmp .eq 5, 3) := by decide +kernel
theorem dt_Gu_fitsDiary_61 : decode prog_4_method_4_code 61 = .ok (.iconst 0, 1) := by decide +kernel
theorem dt_Gu_fitsDiary_62 : decode prog_4_method_4_code 62 = .ok (.ireturn, 1) := by decide +kernel
theorem dt_Gu_fitsDiary_63 : decode prog_4_method_4_code 63 = .ok (.iinc 4 1, 3) := by decide +kernel
theorem dt_Gu_fitsDiary_66 : decode prog_4_method_4_code 66 = .ok (.goto (-58), 3) := by decide +kernel
theorem dt_Gu_fitsDiary_69 : decode prog_4_method_4_code 69 = .ok (.iconst 1, 1) := by decide +kernel
theorem dt_Gu_fitsDiary_70 : decode prog_4_method_4_code 70 = .ok (.ireturn, 1) := by decide +kernel
set_option maxHeartbeats 4000000 in
set_option maxRecDepth 10000 in
theorem tm_Gu_fitsDiary {N : Nat} {T : Nat → tm_S} {w : ab_W} {o : Nat} (hW : tm_W N T w) (h_o : is_Ri T o) (a : Int) (l_a : 0 ≤ a) (u_a : a ≤ 11) (b : Int) (l_b : (-2147483648) ≤ b) (u_b : b ≤ 2147483647) : ab_Mt g_G g_rs mt_Gu_fitsDiary 2 0 0 [ab_R o, ab_I a, ab_I b] w (tm_P w (fun v => 0 ≤ v ∧ v ≤ 1)) := by
  obtain ⟨ot0, ot1, ot2, ot3, ot4, ot5, ot6, ot7, ot8, ot9, ot10, ot11, ot12⟩ := id h_o
  have od := is_Ri.d h_o
  refine ab_Mt.of rfl (Nat.le_of_ble_eq_true rfl) ?_
  show ab_Ev g_G g_rs mt_Gu_fitsDiary _ _ _ 0 [some (ab_R o), some (ab_I a), some (ab_I b), none, none, none] [] _ _
  refine ev_aload_n dt_Gu_fitsDiary_0 rfl rfl ?_
  refine tm_getR dt_Gu_fitsDiary_1 hW ot0 fl_Gu_45 rfl ?_
  refine ev_astore_n (l' := [_, _, _, _, _, _]) dt_Gu_fitsDiary_4 rfl (Nat.le_of_ble_eq_true rfl) rfl ?_
  refine ev_iconst dt_Gu_fitsDiary_5 ?_
  refine ev_istore (l' := [_, _, _, _, _, _]) dt_Gu_fitsDiary_6 (Nat.le_of_ble_eq_true rfl) rfl ?_
  have L8 : ∀ (n : Nat) (i9 : Int) , 0 ≤ i9 → i9 ≤ 10 → 10 - i9 < (n : Int) → ab_Ev g_G g_rs mt_Gu_fitsDiary 2 0 0 8 [some (ab_R o), some (ab_I a), some (ab_I b), some (ab_R (o + 8)), some (ab_I i9), none] [] w (tm_P w (fun v => 0 ≤ v ∧ v ≤ 1)) := by
    intro n
    induction n with
    | zero =>
      intro i9  li9 ui9 mL8
      exfalso
      omega
    | succ nL8 ihL8 =>
      intro i9  li9 ui9 mL8
      refine ev_iload dt_Gu_fitsDiary_8 rfl ?_
      refine ev_aload_n dt_Gu_fitsDiary_10 rfl rfl ?_
      refine tm_getI (K := 0) dt_Gu_fitsDiary_11 hW ot8 fl_Gu_49 rfl rfl (fun v10 kv10 lv10 uv10 => ?_)
      refine ev_icmp_ge (tgt := 69) dt_Gu_fitsDiary_14 (by decide) (by omega) (by omega) (fun h11 => ?_) (fun h11 => ?_)
      · skip
        refine ev_iconst dt_Gu_fitsDiary_69 ?_
        exact ev_zreturn dt_Gu_fitsDiary_70 rfl (by omega) ⟨rfl, _, rfl, by omega⟩
      · skip
        refine ev_aload_n dt_Gu_fitsDiary_17 rfl rfl ?_
        refine ev_aload_n dt_Gu_fitsDiary_18 rfl rfl ?_
        refine tm_getR dt_Gu_fitsDiary_19 hW ot8 fl_Gu_54 rfl ?_
        refine ev_iload dt_Gu_fitsDiary_22 rfl ?_
        refine tm_iaload dt_Gu_fitsDiary_24 hW ot9 (by omega) (by omega) (by omega) (fun v12 kv12 lv12 uv12 => ?_)
        refine ev_aload_n dt_Gu_fitsDiary_25 rfl rfl ?_
        refine tm_getR dt_Gu_fitsDiary_26 hW ot8 fl_Gu_57 rfl ?_
        refine ev_iload dt_Gu_fitsDiary_29 rfl ?_
        refine tm_iaload dt_Gu_fitsDiary_31 hW ot10 (by omega) (by omega) (by omega) (fun v13 kv13 lv13 uv13 => ?_)
        refine ev_iload_n dt_Gu_fitsDiary_32 rfl rfl ?_
        refine ev_iload_n dt_Gu_fitsDiary_33 rfl rfl ?_
        refine tm_sp dt_Gu_fitsDiary_34 (tm_Gu_sortsSeen hW h_o (v12) (by omega) (by omega) (v13) (by omega) (by omega) (a) (by omega) (by omega) (b) (by omega) (by omega)) kb_Gu_60 sc_Gu_sortsSeen rfl (Nat.le_of_ble_eq_true rfl) (by decide) (fun v14 hv14 => ?_)
        refine ev_istore (l' := [_, _, _, _, _, _]) dt_Gu_fitsDiary_37 (Nat.le_of_ble_eq_true rfl) rfl ?_
        refine ev_iload dt_Gu_fitsDiary_39 rfl ?_
        refine ev_aload_n dt_Gu_fitsDiary_41 rfl rfl ?_
        refine tm_getR dt_Gu_fitsDiary_42 hW ot8 fl_Gu_64 rfl ?_
        refine ev_iload dt_Gu_fitsDiary_45 rfl ?_
        refine tm_iaload dt_Gu_fitsDiary_47 hW ot11 (by omega) (by omega) (by omega) (fun v15 kv15 lv15 uv15 => ?_)
        refine tm_ishr dt_Gu_fitsDiary_48 (by omega) (by omega) (by omega) (fun v16 x1 x2 => ?_)
        have hv16 : 0 ≤ v16 ∧ v16 ≤ 31 := by omega
        clear x1 x2
        refine ev_iconst dt_Gu_fitsDiary_49 ?_
        refine tm_iand dt_Gu_fitsDiary_50 (by omega) (by omega) (fun v17 x1 x2 x3 => ?_)
        have hv17 : 0 ≤ v17 ∧ v17 ≤ 1 := by omega
        clear x1 x2 x3
        refine ev_aload_n dt_Gu_fitsDiary_51 rfl rfl ?_
        refine tm_getR dt_Gu_fitsDiary_52 hW ot8 fl_Gu_67 rfl ?_
        refine ev_iload dt_Gu_fitsDiary_55 rfl ?_
        refine tm_iaload dt_Gu_fitsDiary_57 hW ot12 (by omega) (by omega) (by omega) (fun v18 kv18 lv18 uv18 => ?_)
        refine ev_icmp_eq (tgt := 63) dt_Gu_fitsDiary_58 (by decide) (by omega) (by omega) (fun h19 => ?_) (fun h19 => ?_)
        · skip
          refine ev_iinc (l' := [_, _, _, _, _, _]) dt_Gu_fitsDiary_63 rfl rfl ?_
          refine ev_goto (tgt := 8) dt_Gu_fitsDiary_66 (by decide) ?_
          exact tm_loc (tm_le_s (tm_le_s (tm_le_s (tm_le_s (tm_le_s (tm_le_n tm_le_0)))))) (ihL8 ((i9 + 1)) (by omega) (by omega) (by omega))
        · skip
          refine ev_iconst dt_Gu_fitsDiary_61 ?_
          exact ev_zreturn dt_Gu_fitsDiary_62 rfl (by omega) ⟨rfl, _, rfl, by omega⟩
  exact tm_loc (tm_le_s (tm_le_s (tm_le_s (tm_le_s (tm_le_s (tm_le_n tm_le_0)))))) (L8 (10 - (0) + 1 : Int).toNat (0)  (by omega) (by omega) (by omega))
theorem dt_Gu_findLook_0 : decode prog_4_method_5_code 0 = .ok (.aload_n 0, 1) := by decide +kernel
theorem dt_Gu_findLook_1 : decode prog_4_method_5_code 1 = .ok (.getfield 18, 3) := by decide +kernel
theorem dt_Gu_findLook_4 : decode prog_4_method_5_code 4 = .ok (.iconst 0, 1) := by decide +kernel
theorem dt_Gu_findLook_5 : decode prog_4_method_5_code 5 = .ok (.invokestatic 70, 3) := by decide +kernel
theorem dt_Gu_findLook_8 : decode prog_4_method_5_code 8 = .ok (.iconst 0, 1) := by decide +kernel
theorem dt_Gu_findLook_9 : decode prog_4_method_5_code 9 = .ok (.istore_n 3, 1) := by decide +kernel
theorem dt_Gu_findLook_10 : decode prog_4_method_5_code 10 = .ok (.iload_n 3, 1) := by decide +kernel
theorem dt_Gu_findLook_11 : decode prog_4_method_5_code 11 = .ok (.aload_n 0, 1) := by decide +kernel
theorem dt_Gu_findLook_12 : decode prog_4_method_5_code 12 = .ok (.getfield 21, 3) := by decide +kernel
theorem dt_Gu_findLook_15 : decode prog_4_method_5_code 15 = .ok (.if_icmp .ge 85, 3) := by decide +kernel
theorem dt_Gu_findLook_18 : decode prog_4_method_5_code 18 = .ok (.iconst 0, 1) := by decide +kernel
theorem dt_Gu_findLook_19 : decode prog_4_method_5_code 19 = .ok (.istore 4, 2) := by decide +kernel
theorem dt_Gu_findLook_21 : decode prog_4_method_5_code 21 = .ok (.iload 4, 2) := by decide +kernel
theorem dt_Gu_findLook_23 : decode prog_4_method_5_code 23 = .ok (.aload_n 1, 1) := by decide +kernel
theorem dt_Gu_findLook_24 : decode prog_4_method_5_code 24 = .ok (.getfield 76, 3) := by decide +kernel
theorem dt_Gu_findLook_27 : decode prog_4_method_5_code 27 = .ok (.if_icmp .ge 67, 3) := by decide +kernel
theorem dt_Gu_findLook_30 : decode prog_4_method_5_code 30 = .ok (.aload_n 1, 1) := by decide +kernel
theorem dt_Gu_findLook_31 : decode prog_4_method_5_code 31 = .ok (.iload 4, 2) := by decide +kernel
theorem dt_Gu_findLook_33 : decode prog_4_method_5_code 33 = .ok (.iload_n 2, 1) := by decide +kernel
theorem dt_Gu_findLook_34 : decode prog_4_method_5_code 34 = .ok (.aload_n 0, 1) := by decide +kernel
theorem dt_Gu_findLook_35 : decode prog_4_method_5_code 35 = .ok (.getfield 11, 3) := by decide +kernel
theorem dt_Gu_findLook_38 : decode prog_4_method_5_code 38 = .ok (.iload_n 3, 1) := by decide +kernel
theorem dt_Gu_findLook_39 : decode prog_4_method_5_code 39 = .ok (.iaload, 1) := by decide +kernel
theorem dt_Gu_findLook_40 : decode prog_4_method_5_code 40 = .ok (.aload_n 0, 1) := by decide +kernel
theorem dt_Gu_findLook_41 : decode prog_4_method_5_code 41 = .ok (.getfield 15, 3) := by decide +kernel
theorem dt_Gu_findLook_44 : decode prog_4_method_5_code 44 = .ok (.iload_n 3, 1) := by decide +kernel
theorem dt_Gu_findLook_45 : decode prog_4_method_5_code 45 = .ok (.iaload, 1) := by decide +kernel
theorem dt_Gu_findLook_46 : decode prog_4_method_5_code 46 = .ok (.invokestatic 60, 3) := by decide +kernel
theorem dt_Gu_findLook_49 : decode prog_4_method_5_code 49 = .ok (.istore 5, 2) := by decide +kernel
theorem dt_Gu_findLook_51 : decode prog_4_method_5_code 51 = .ok (.iconst 0, 1) := by decide +kernel
theorem dt_Gu_findLook_52 : decode prog_4_method_5_code 52 = .ok (.istore 6, 2) := by decide +kernel
theorem dt_Gu_findLook_54 : decode prog_4_method_5_code 54 = .ok (.iload 6, 2) := by decide +kernel
theorem dt_Gu_findLook_56 : decode prog_4_method_5_code 56 = .ok (.iconst 5, 1) := by decide +kernel
theorem dt_Gu_findLook_57 : decode prog_4_method_5_code 57 = .ok (.if_icmp .ge 31, 3) := by decide +kernel
theorem dt_Gu_findLook_60 : decode prog_4_method_5_code 60 = .ok (.aload_n 0, 1) := by decide +kernel
theorem dt_Gu_findLook_61 : decode prog_4_method_5_code 61 = .ok (.getfield 18, 3) := by decide +kernel
theorem dt_Gu_findLook_64 : decode prog_4_method_5_code 64 = .ok (.iload 4, 2) := by decide +kernel
theorem dt_Gu_findLook_66 : decode prog_4_method_5_code 66 = .ok (.iconst 5, 1) := by decide +kernel
theorem dt_Gu_findLook_67 : decode prog_4_method_5_code 67 = .ok (.imul, 1) := by decide +kernel
theorem dt_Gu_findLook_68 : decode prog_4_method_5_code 68 = .ok (.iload 6, 2) := by decide +kernel
theorem dt_Gu_findLook_70 : decode prog_4_method_5_code 70 = .ok (.iadd, 1) := by decide +kernel
theorem dt_Gu_findLook_71 : decode prog_4_method_5_code 71 = .ok (.dup2, 1) := by decide +kernel
theorem dt_Gu_findLook_72 : decode prog_4_method_5_code 72 = .ok (.iaload, 1) := by decide +kernel
theorem dt_Gu_findLook_73 : decode prog_4_method_5_code 73 = .ok (.iload 5, 2) := by decide +kernel
theorem dt_Gu_findLook_75 : decode prog_4_method_5_code 75 = .ok (.iload 6, 2) := by decide +kernel
theorem dt_Gu_findLook_77 : decode prog_4_method_5_code 77 = .ok (.ishr, 1) := by decide +kernel
theorem dt_Gu_findLook_78 : decode prog_4_method_5_code 78 = .ok (.iconst 1, 1) := by decide +kernel
theorem dt_Gu_findLook_79 : decode prog_4_method_5_code 79 = .ok (.iand, 1) := by decide +kernel
theorem dt_Gu_findLook_80 : decode prog_4_method_5_code 80 = .ok (.iadd, 1) := by decide +kernel
theorem dt_Gu_findLook_81 : decode prog_4_method_5_code 81 = .ok (.iastore, 1) := by decide +kernel
theorem dt_Gu_findLook_82 : decode prog_4_method_5_code 82 = .ok (.iinc 6 1, 3) := by decide +kernel
theorem dt_Gu_findLook_85 : decode prog_4_method_5_code 85 = .ok (.goto (-31), 3) := by decide +kernel
theorem dt_Gu_findLook_88 : decode prog_4_method_5_code 88 = .ok (.iinc 4 1, 3) := by decide +kernel
theorem dt_Gu_findLook_91 : decode prog_4_method_5_code 91 = .ok (.goto (-70), 3) := by decide +kernel
theorem dt_Gu_findLook_94 : decode prog_4_method_5_code 94 = .ok (.iinc 3 1, 3) := by decide +kernel
theorem dt_Gu_findLook_97 : decode prog_4_method_5_code 97 = .ok (.goto (-87), 3) := by decide +kernel
theorem dt_Gu_findLook_100 : decode prog_4_method_5_code 100 = .ok (.iconst 0, 1) := by decide +kernel
theorem dt_Gu_findLook_101 : decode prog_4_method_5_code 101 = .ok (.istore_n 3, 1) := by decide +kernel
theorem dt_Gu_findLook_102 : decode prog_4_method_5_code 102 = .ok (.iload_n 3, 1) := by decide +kernel
theorem dt_Gu_findLook_103 : decode prog_4_method_5_code 103 = .ok (.aload_n 1, 1) := by decide +kernel
theorem dt_Gu_findLook_104 : decode prog_4_method_5_code 104 = .ok (.getfield 76, 3) := by decide +kernel
theorem dt_Gu_findLook_107 : decode prog_4_method_5_code 107 = .ok (.iconst 5, 1) := by decide +kernel
theorem dt_Gu_findLook_108 : decode prog_4_method_5_code 108 = .ok (.imul, 1) := by decide +kernel
theorem dt_Gu_findLook_109 : decode prog_4_method_5_code 109 = .ok (.if_icmp .ge 55, 3) := by decide +kernel
theorem dt_Gu_findLook_112 : decode prog_4_method_5_code 112 = .ok (.aload_n 0, 1) := by decide +kernel
theorem dt_Gu_findLook_113 : decode prog_4_method_5_code 113 = .ok (.getfield 18, 3) := by decide +kernel
theorem dt_Gu_findLook_116 : decode prog_4_method_5_code 116 = .ok (.iload_n 3, 1) := by decide +kernel
theorem dt_Gu_findLook_117 : decode prog_4_method_5_code 117 = .ok (.iaload, 1) := by decide +kernel
theorem dt_Gu_findLook_118 : decode prog_4_method_5_code 118 = .ok (.aload_n 0, 1) := by decide +kernel
theorem dt_Gu_findLook_119 : decode prog_4_method_5_code 119 = .ok (.getfield 21, 3) := by decide +kernel
theorem dt_Gu_findLook_122 : decode prog_4_method_5_code 122 = .ok (.aload_n 0, 1) := by decide +kernel
theorem dt_Gu_findLook_123 : decode prog_4_method_5_code 123 = .ok (.getfield 18, 3) := by decide +kernel
theorem dt_Gu_findLook_126 : decode prog_4_method_5_code 126 = .ok (.iload_n 3, 1) := by decide +kernel
theorem dt_Gu_findLook_127 : decode prog_4_method_5_code 127 = .ok (.iaload, 1) := by decide +kernel
theorem dt_Gu_findLook_128 : decode prog_4_method_5_code 128 = .ok (.isub, 1) := by decide +kernel
theorem dt_Gu_findLook_129 : decode prog_4_method_5_code 129 = .ok (.invokestatic 79, 3) := by decide +kernel
theorem dt_Gu_findLook_132 : decode prog_4_method_5_code 132 = .ok (.istore 4, 2) := by decide +kernel
theorem dt_Gu_findLook_134 : decode prog_4_method_5_code 134 = .ok (.iload_n 3, 1) := by decide +kernel
theorem dt_Gu_findLook_135 : decode prog_4_method_5_code 135 = .ok (.ifCond .eq 12, 3) := by decide +kernel
theorem dt_Gu_findLook_138 : decode prog_4_method_5_code 138 = .ok (.iload 4, 2) := by decide +kernel
theorem dt_Gu_findLook_140 : decode prog_4_method_5_code 140 = .ok (.aload_n 0, 1) := by decide +kernel
theorem dt_Gu_findLook_141 : decode prog_4_method_5_code 141 = .ok (.getfield 84, 3) := by decide +kernel
theorem dt_Gu_findLook_144 : decode prog_4_method_5_code 144 = .ok (.if_icmp .ge 14, 3) := by decide +kernel
theorem dt_Gu_findLook_147 : decode prog_4_method_5_code 147 = .ok (.aload_n 0, 1) := by decide +kernel
theorem dt_Gu_findLook_148 : decode prog_4_method_5_code 148 = .ok (.iload_n 3, 1) := by decide +kernel
theorem dt_Gu_findLook_149 : decode prog_4_method_5_code 149 = .ok (.putfield 87, 3) := by decide +kernel
theorem dt_Gu_findLook_152 : decode prog_4_method_5_code 152 = .ok (.aload_n 0, 1) := by decide +kernel
theorem dt_Gu_findLook_153 : decode prog_4_method_5_code 153 = .ok (.iload 4, 2) := by decide +kernel
theorem dt_Gu_findLook_155 : decode prog_4_method_5_code 155 = .ok (.putfield 84, 3) := by decide +kernel
theorem dt_Gu_findLook_158 : decode prog_4_method_5_code 158 = .ok (.iinc 3 1, 3) := by decide +kernel
theorem dt_Gu_findLook_161 : decode prog_4_method_5_code 161 = .ok (.goto (-59), 3) := by decide +kernel
theorem dt_Gu_findLook_164 : decode prog_4_method_5_code 164 = .ok (.return_, 1) := by decide +kernel
set_option maxHeartbeats 4000000 in
set_option maxRecDepth 10000 in
theorem tm_Gu_findLook {N : Nat} {T : Nat → tm_S} {w : ab_W} {gu : Nat} {o : Nat} (hW : tm_W N T w) (h_gu : is_Gu T gu) (h_o : is_Ri T o) (ne_gu_o : gu + 4 ≤ o ∨ o + 13 ≤ gu) (a : Int) (l_a : 0 ≤ a) (u_a : a ≤ 99) : ab_Mt g_G g_rs mt_Gu_findLook 2 0 0 [ab_R gu, ab_R o, ab_I a] w (tm_Qv N T (fun w2 => (∀ (p : Nat) (j : Int), ¬ (p = (gu + 3) ∨ (p = gu ∧ (j = 4 ∨ j = 5))) → tm_g w2 p j = tm_g w p j))) := by
  obtain ⟨gut0, gut1, gut2, gut3⟩ := id h_gu
  obtain ⟨ot0, ot1, ot2, ot3, ot4, ot5, ot6, ot7, ot8, ot9, ot10, ot11, ot12⟩ := id h_o
  have od := is_Ri.d h_o
  have hF0 : ∀ (p : Nat) (j : Int), ¬ (p = (gu + 3) ∨ (p = gu ∧ (j = 4 ∨ j = 5))) → tm_g w p j = tm_g w p j := fun _ _ _ => rfl
  refine ab_Mt.of rfl (Nat.le_of_ble_eq_true rfl) ?_
  show ab_Ev g_G g_rs mt_Gu_findLook _ _ _ 0 [some (ab_R gu), some (ab_R o), some (ab_I a), none, none, none, none] [] _ _
  refine ev_aload_n dt_Gu_findLook_0 rfl rfl ?_
  refine tm_getR dt_Gu_findLook_1 hW gut0 fl_Gu_18 rfl ?_
  refine ev_iconst dt_Gu_findLook_4 ?_
  refine tm_sv dt_Gu_findLook_5 (tm_fillI hW gut3 (by decide) _ (by omega) (by omega)) kb_Gu_70 sc_Ar_fill_AIIV hW rfl (Nat.le_of_ble_eq_true rfl) (by decide) (fun w20 hWw20 hfw20 => ?_)
  have hFw20 : ∀ (p : Nat) (j : Int), ¬ (p = (gu + 3) ∨ (p = gu ∧ (j = 4 ∨ j = 5))) → tm_g w20 p j = tm_g w p j := fun p j h => (hfw20 p j (by omega)).trans (hF0 p j h)
  refine ev_iconst dt_Gu_findLook_8 ?_
  refine ev_istore_n (l' := [_, _, _, _, _, _, _]) dt_Gu_findLook_9 rfl (Nat.le_of_ble_eq_true rfl) rfl ?_
  have L21 : ∀ (n : Nat) (i22 : Int)  (w23 : ab_W), tm_W N T w23 → (∀ (p : Nat) (j : Int), ¬ (p = (gu + 3) ∨ (p = gu ∧ (j = 4 ∨ j = 5))) → tm_g w23 p j = tm_g w p j) → 0 ≤ i22 → i22 ≤ 84 → 84 - i22 < (n : Int) → ab_Ev g_G g_rs mt_Gu_findLook 2 0 0 10 [some (ab_R gu), some (ab_R o), some (ab_I a), some (ab_I i22), none, none, none] [] w23 (tm_Qv N T (fun w2 => (∀ (p : Nat) (j : Int), ¬ (p = (gu + 3) ∨ (p = gu ∧ (j = 4 ∨ j = 5))) → tm_g w2 p j = tm_g w p j))) := by
    intro n
    induction n with
    | zero =>
      intro i22  w23 hWw23 hFw23 li22 ui22 mL21
      exfalso
      omega
    | succ nL21 ihL21 =>
      intro i22  w23 hWw23 hFw23 li22 ui22 mL21
      refine ev_iload_n dt_Gu_findLook_10 rfl rfl ?_
      refine ev_aload_n dt_Gu_findLook_11 rfl rfl ?_
      refine tm_getI (K := 2) dt_Gu_findLook_12 hWw23 gut0 fl_Gu_21 rfl rfl (fun v24 kv24 lv24 uv24 => ?_)
      have z25 := (hFw23 gu 2 (by omega)).symm.trans kv24
      refine ev_icmp_ge (tgt := 100) dt_Gu_findLook_15 (by decide) (by omega) (by omega) (fun h26 => ?_) (fun h26 => ?_)
      · skip
        refine ev_iconst dt_Gu_findLook_100 ?_
        refine ev_istore_n (l' := [_, _, _, _, _, _, _]) dt_Gu_findLook_101 rfl (Nat.le_of_ble_eq_true rfl) rfl ?_
        have L27 : ∀ (n : Nat) (i28 : Int)  (w29 : ab_W), tm_W N T w29 → (∀ (p : Nat) (j : Int), ¬ (p = (gu + 3) ∨ (p = gu ∧ (j = 4 ∨ j = 5))) → tm_g w29 p j = tm_g w p j) → 0 ≤ i28 → i28 ≤ 35 → 35 - i28 < (n : Int) → ab_Ev g_G g_rs mt_Gu_findLook 2 0 0 102 [some (ab_R gu), some (ab_R o), none, some (ab_I i28), none, none, none] [] w29 (tm_Qv N T (fun w2 => (∀ (p : Nat) (j : Int), ¬ (p = (gu + 3) ∨ (p = gu ∧ (j = 4 ∨ j = 5))) → tm_g w2 p j = tm_g w p j))) := by
          intro n
          induction n with
          | zero =>
            intro i28  w29 hWw29 hFw29 li28 ui28 mL27
            exfalso
            omega
          | succ nL27 ihL27 =>
            intro i28  w29 hWw29 hFw29 li28 ui28 mL27
            refine ev_iload_n dt_Gu_findLook_102 rfl rfl ?_
            refine ev_aload_n dt_Gu_findLook_103 rfl rfl ?_
            refine tm_getI (K := 7) dt_Gu_findLook_104 hWw29 ot0 fl_Gu_76 rfl rfl (fun v30 kv30 lv30 uv30 => ?_)
            have z31 := (hFw29 o 7 (by omega)).symm.trans kv30
            refine ev_iconst dt_Gu_findLook_107 ?_
            refine ev_imul dt_Gu_findLook_108 ?_
            refine ev_icmp_ge (tgt := 164) dt_Gu_findLook_109 (by decide) (by omega) (by omega) (fun h32 => ?_) (fun h32 => ?_)
            · skip
              exact ev_return dt_Gu_findLook_164 rfl ⟨hWw29, rfl, hFw29⟩
            · skip
              refine ev_aload_n dt_Gu_findLook_112 rfl rfl ?_
              refine tm_getR dt_Gu_findLook_113 hWw29 gut0 fl_Gu_18 rfl ?_
              refine ev_iload_n dt_Gu_findLook_116 rfl rfl ?_
              refine tm_iaload dt_Gu_findLook_117 hWw29 gut3 (by omega) (by omega) (by omega) (fun v33 kv33 lv33 uv33 => ?_)
              refine ev_aload_n dt_Gu_findLook_118 rfl rfl ?_
              refine tm_getK (K := 2) dt_Gu_findLook_119 hWw29 gut0 fl_Gu_21 rfl ((hFw29 gu 2 (by omega)).trans z25) ?_
              refine ev_aload_n dt_Gu_findLook_122 rfl rfl ?_
              refine tm_getR dt_Gu_findLook_123 hWw29 gut0 fl_Gu_18 rfl ?_
              refine ev_iload_n dt_Gu_findLook_126 rfl rfl ?_
              refine tm_iaload dt_Gu_findLook_127 hWw29 gut3 (by omega) (by omega) (by omega) (fun v34 kv34 lv34 uv34 => ?_)
              refine ev_isub dt_Gu_findLook_128 ?_
              refine tm_any (fun v35 hv35 _ => ?_)
              refine tm_max (by omega) (by omega) dt_Gu_findLook_129 mk_Gu_79 (Nat.le_of_ble_eq_true rfl) (by decide) (fun v36 x1 x2 x3 => ?_)
              have hv36 : (-2147483648) ≤ v36 ∧ v36 ≤ 2147483647 := by omega
              clear x1 x2 x3
              refine ev_istore (l' := [_, _, _, _, _, _, _]) dt_Gu_findLook_132 (Nat.le_of_ble_eq_true rfl) rfl ?_
              refine ev_iload_n dt_Gu_findLook_134 rfl rfl ?_
              refine ev_if_eq (tgt := 147) dt_Gu_findLook_135 (by decide) (by omega) (fun h37 => ?_) (fun h37 => ?_)
              · skip
                refine ev_aload_n dt_Gu_findLook_147 rfl rfl ?_
                refine ev_iload_n dt_Gu_findLook_148 rfl rfl ?_
                refine tm_putI (K := 4) dt_Gu_findLook_149 hWw29 gut0 (fp_Gu_87 _) rfl rfl trivial (by omega) (by omega) (fun w38 hWw38 kkw38 hfw38 => ?_)
                have hFw38 : ∀ (p : Nat) (j : Int), ¬ (p = (gu + 3) ∨ (p = gu ∧ (j = 4 ∨ j = 5))) → tm_g w38 p j = tm_g w p j := fun p j h => (hfw38 p j (by omega)).trans (hFw29 p j h)
                refine ev_aload_n dt_Gu_findLook_152 rfl rfl ?_
                refine ev_iload dt_Gu_findLook_153 rfl ?_
                refine tm_putI (K := 5) dt_Gu_findLook_155 hWw38 gut0 (fp_Gu_84 _) rfl rfl trivial (by omega) (by omega) (fun w39 hWw39 kkw39 hfw39 => ?_)
                have hFw39 : ∀ (p : Nat) (j : Int), ¬ (p = (gu + 3) ∨ (p = gu ∧ (j = 4 ∨ j = 5))) → tm_g w39 p j = tm_g w p j := fun p j h => (hfw39 p j (by omega)).trans (hFw38 p j h)
                have z40 := (hfw39 gu 4 (by omega)).trans kkw38
                refine ev_iinc (l' := [_, _, _, _, _, _, _]) dt_Gu_findLook_158 rfl rfl ?_
                refine ev_goto (tgt := 102) dt_Gu_findLook_161 (by decide) ?_
                exact tm_loc (tm_le_s (tm_le_s (tm_le_n (tm_le_s (tm_le_n (tm_le_n (tm_le_n tm_le_0))))))) (ihL27 ((i28 + 1)) w39 hWw39 hFw39 (by omega) (by omega) (by omega))
              · skip
                refine ev_iload dt_Gu_findLook_138 rfl ?_
                refine ev_aload_n dt_Gu_findLook_140 rfl rfl ?_
                refine tm_getI (K := 5) dt_Gu_findLook_141 hWw29 gut0 fl_Gu_84 rfl rfl (fun v41 kv41 lv41 uv41 => ?_)
                refine ev_icmp_ge (tgt := 158) dt_Gu_findLook_144 (by decide) (by omega) (by omega) (fun h42 => ?_) (fun h42 => ?_)
                · skip
                  refine ev_iinc (l' := [_, _, _, _, _, _, _]) dt_Gu_findLook_158 rfl rfl ?_
                  refine ev_goto (tgt := 102) dt_Gu_findLook_161 (by decide) ?_
                  exact tm_loc (tm_le_s (tm_le_s (tm_le_n (tm_le_s (tm_le_n (tm_le_n (tm_le_n tm_le_0))))))) (ihL27 ((i28 + 1)) w29 hWw29 hFw29 (by omega) (by omega) (by omega))
                · skip
                  refine ev_aload_n dt_Gu_findLook_147 rfl rfl ?_
                  refine ev_iload_n dt_Gu_findLook_148 rfl rfl ?_
                  refine tm_putI (K := 4) dt_Gu_findLook_149 hWw29 gut0 (fp_Gu_87 _) rfl rfl trivial (by omega) (by omega) (fun w43 hWw43 kkw43 hfw43 => ?_)
                  have hFw43 : ∀ (p : Nat) (j : Int), ¬ (p = (gu + 3) ∨ (p = gu ∧ (j = 4 ∨ j = 5))) → tm_g w43 p j = tm_g w p j := fun p j h => (hfw43 p j (by omega)).trans (hFw29 p j h)
                  have z44 := (hfw43 gu 5 (by omega)).trans kv41
                  refine ev_aload_n dt_Gu_findLook_152 rfl rfl ?_
                  refine ev_iload dt_Gu_findLook_153 rfl ?_
                  refine tm_putI (K := 5) dt_Gu_findLook_155 hWw43 gut0 (fp_Gu_84 _) rfl rfl trivial (by omega) (by omega) (fun w45 hWw45 kkw45 hfw45 => ?_)
                  have hFw45 : ∀ (p : Nat) (j : Int), ¬ (p = (gu + 3) ∨ (p = gu ∧ (j = 4 ∨ j = 5))) → tm_g w45 p j = tm_g w p j := fun p j h => (hfw45 p j (by omega)).trans (hFw43 p j h)
                  have z46 := (hfw45 gu 4 (by omega)).trans kkw43
                  refine ev_iinc (l' := [_, _, _, _, _, _, _]) dt_Gu_findLook_158 rfl rfl ?_
                  refine ev_goto (tgt := 102) dt_Gu_findLook_161 (by decide) ?_
                  exact tm_loc (tm_le_s (tm_le_s (tm_le_n (tm_le_s (tm_le_n (tm_le_n (tm_le_n tm_le_0))))))) (ihL27 ((i28 + 1)) w45 hWw45 hFw45 (by omega) (by omega) (by omega))
        exact tm_loc (tm_le_s (tm_le_s (tm_le_n (tm_le_s (tm_le_n (tm_le_n (tm_le_n tm_le_0))))))) (L27 (35 - (0) + 1 : Int).toNat (0)  w23 hWw23 hFw23 (by omega) (by omega) (by omega))
      · skip
        refine ev_iconst dt_Gu_findLook_18 ?_
        refine ev_istore (l' := [_, _, _, _, _, _, _]) dt_Gu_findLook_19 (Nat.le_of_ble_eq_true rfl) rfl ?_
        have L47 : ∀ (n : Nat) (i48 : Int)  (w49 : ab_W), tm_W N T w49 → (∀ (p : Nat) (j : Int), ¬ (p = (gu + 3) ∨ (p = gu ∧ (j = 4 ∨ j = 5))) → tm_g w49 p j = tm_g w p j) → 0 ≤ i48 → i48 ≤ 7 → 7 - i48 < (n : Int) → ab_Ev g_G g_rs mt_Gu_findLook 2 0 0 21 [some (ab_R gu), some (ab_R o), some (ab_I a), some (ab_I i22), some (ab_I i48), none, none] [] w49 (tm_Qv N T (fun w2 => (∀ (p : Nat) (j : Int), ¬ (p = (gu + 3) ∨ (p = gu ∧ (j = 4 ∨ j = 5))) → tm_g w2 p j = tm_g w p j))) := by
          intro n
          induction n with
          | zero =>
            intro i48  w49 hWw49 hFw49 li48 ui48 mL47
            exfalso
            omega
          | succ nL47 ihL47 =>
            intro i48  w49 hWw49 hFw49 li48 ui48 mL47
            refine ev_iload dt_Gu_findLook_21 rfl ?_
            refine ev_aload_n dt_Gu_findLook_23 rfl rfl ?_
            refine tm_getI (K := 7) dt_Gu_findLook_24 hWw49 ot0 fl_Gu_76 rfl rfl (fun v50 kv50 lv50 uv50 => ?_)
            have z51 := (hFw49 o 7 (by omega)).symm.trans kv50
            refine ev_icmp_ge (tgt := 94) dt_Gu_findLook_27 (by decide) (by omega) (by omega) (fun h52 => ?_) (fun h52 => ?_)
            · skip
              refine ev_iinc (l' := [_, _, _, _, _, _, _]) dt_Gu_findLook_94 rfl rfl ?_
              refine ev_goto (tgt := 10) dt_Gu_findLook_97 (by decide) ?_
              exact tm_loc (tm_le_s (tm_le_s (tm_le_s (tm_le_s (tm_le_n (tm_le_n (tm_le_n tm_le_0))))))) (ihL21 ((i22 + 1)) w49 hWw49 hFw49 (by omega) (by omega) (by omega))
            · skip
              refine ev_aload_n dt_Gu_findLook_30 rfl rfl ?_
              refine ev_iload dt_Gu_findLook_31 rfl ?_
              refine ev_iload_n dt_Gu_findLook_33 rfl rfl ?_
              refine ev_aload_n dt_Gu_findLook_34 rfl rfl ?_
              refine tm_getR dt_Gu_findLook_35 hWw49 gut0 fl_Gu_11 rfl ?_
              refine ev_iload_n dt_Gu_findLook_38 rfl rfl ?_
              refine tm_iaload dt_Gu_findLook_39 hWw49 gut1 (by omega) (by omega) (by omega) (fun v53 kv53 lv53 uv53 => ?_)
              refine ev_aload_n dt_Gu_findLook_40 rfl rfl ?_
              refine tm_getR dt_Gu_findLook_41 hWw49 gut0 fl_Gu_15 rfl ?_
              refine ev_iload_n dt_Gu_findLook_44 rfl rfl ?_
              refine tm_iaload dt_Gu_findLook_45 hWw49 gut2 (by omega) (by omega) (by omega) (fun v54 kv54 lv54 uv54 => ?_)
              refine tm_sp dt_Gu_findLook_46 (tm_Gu_sortsSeen hWw49 h_o (i48) (by omega) (by omega) (a) (by omega) (by omega) (v53) (by omega) (by omega) (v54) (by omega) (by omega)) kb_Gu_60 sc_Gu_sortsSeen rfl (Nat.le_of_ble_eq_true rfl) (by decide) (fun v55 hv55 => ?_)
              refine ev_istore (l' := [_, _, _, _, _, _, _]) dt_Gu_findLook_49 (Nat.le_of_ble_eq_true rfl) rfl ?_
              refine ev_iconst dt_Gu_findLook_51 ?_
              refine ev_istore (l' := [_, _, _, _, _, _, _]) dt_Gu_findLook_52 (Nat.le_of_ble_eq_true rfl) rfl ?_
              have L56 : ∀ (n : Nat) (i57 : Int)  (w58 : ab_W), tm_W N T w58 → (∀ (p : Nat) (j : Int), ¬ (p = (gu + 3) ∨ (p = gu ∧ (j = 4 ∨ j = 5))) → tm_g w58 p j = tm_g w p j) → 0 ≤ i57 → i57 ≤ 5 → 5 - i57 < (n : Int) → ab_Ev g_G g_rs mt_Gu_findLook 2 0 0 54 [some (ab_R gu), some (ab_R o), some (ab_I a), some (ab_I i22), some (ab_I i48), some (ab_I v55), some (ab_I i57)] [] w58 (tm_Qv N T (fun w2 => (∀ (p : Nat) (j : Int), ¬ (p = (gu + 3) ∨ (p = gu ∧ (j = 4 ∨ j = 5))) → tm_g w2 p j = tm_g w p j))) := by
                intro n
                induction n with
                | zero =>
                  intro i57  w58 hWw58 hFw58 li57 ui57 mL56
                  exfalso
                  omega
                | succ nL56 ihL56 =>
                  intro i57  w58 hWw58 hFw58 li57 ui57 mL56
                  refine ev_iload dt_Gu_findLook_54 rfl ?_
                  refine ev_iconst dt_Gu_findLook_56 ?_
                  refine ev_icmp_ge (tgt := 88) dt_Gu_findLook_57 (by decide) (by omega) (by omega) (fun h59 => ?_) (fun h59 => ?_)
                  · skip
                    refine ev_iinc (l' := [_, _, _, _, _, _, _]) dt_Gu_findLook_88 rfl rfl ?_
                    refine ev_goto (tgt := 21) dt_Gu_findLook_91 (by decide) ?_
                    exact tm_loc (tm_le_s (tm_le_s (tm_le_s (tm_le_s (tm_le_s (tm_le_n (tm_le_n tm_le_0))))))) (ihL47 ((i48 + 1)) w58 hWw58 hFw58 (by omega) (by omega) (by omega))
                  · skip
                    refine ev_aload_n dt_Gu_findLook_60 rfl rfl ?_
                    refine tm_getR dt_Gu_findLook_61 hWw58 gut0 fl_Gu_18 rfl ?_
                    refine ev_iload dt_Gu_findLook_64 rfl ?_
                    refine ev_iconst dt_Gu_findLook_66 ?_
                    refine ev_imul dt_Gu_findLook_67 ?_
                    refine ev_iload dt_Gu_findLook_68 rfl ?_
                    refine ev_iadd dt_Gu_findLook_70 ?_
                    refine ev_dup2 dt_Gu_findLook_71 rfl rfl ?_
                    refine tm_iaload dt_Gu_findLook_72 hWw58 gut3 (by omega) (by omega) (by omega) (fun v60 kv60 lv60 uv60 => ?_)
                    refine ev_iload dt_Gu_findLook_73 rfl ?_
                    refine ev_iload dt_Gu_findLook_75 rfl ?_
                    refine tm_ishr dt_Gu_findLook_77 (by omega) (by omega) (by omega) (fun v61 x1 x2 => ?_)
                    have hv61 : 0 ≤ v61 ∧ v61 ≤ 31 := by omega
                    clear x1 x2
                    refine ev_iconst dt_Gu_findLook_78 ?_
                    refine tm_iand dt_Gu_findLook_79 (by omega) (by omega) (fun v62 x1 x2 x3 => ?_)
                    have hv62 : 0 ≤ v62 ∧ v62 ≤ 1 := by omega
                    clear x1 x2 x3
                    refine ev_iadd dt_Gu_findLook_80 ?_
                    refine tm_any (fun v63 hv63 _ => ?_)
                    refine tm_iastore dt_Gu_findLook_81 hWw58 gut3 (by omega) (by omega) (by omega) (by omega) (by omega) (fun w64 hWw64 kkw64 hfw64 => ?_)
                    have hFw64 : ∀ (p : Nat) (j : Int), ¬ (p = (gu + 3) ∨ (p = gu ∧ (j = 4 ∨ j = 5))) → tm_g w64 p j = tm_g w p j := fun p j h => (hfw64 p j (by omega)).trans (hFw58 p j h)
                    refine ev_iinc (l' := [_, _, _, _, _, _, _]) dt_Gu_findLook_82 rfl rfl ?_
                    refine ev_goto (tgt := 54) dt_Gu_findLook_85 (by decide) ?_
                    exact tm_loc (tm_le_s (tm_le_s (tm_le_s (tm_le_s (tm_le_s (tm_le_s (tm_le_s tm_le_0))))))) (ihL56 ((i57 + 1)) w64 hWw64 hFw64 (by omega) (by omega) (by omega))
              exact tm_loc (tm_le_s (tm_le_s (tm_le_s (tm_le_s (tm_le_s (tm_le_s (tm_le_s tm_le_0))))))) (L56 (5 - (0) + 1 : Int).toNat (0)  w49 hWw49 hFw49 (by omega) (by omega) (by omega))
        exact tm_loc (tm_le_s (tm_le_s (tm_le_s (tm_le_s (tm_le_s (tm_le_n (tm_le_n tm_le_0))))))) (L47 (7 - (0) + 1 : Int).toNat (0)  w23 hWw23 hFw23 (by omega) (by omega) (by omega))
  exact tm_loc (tm_le_s (tm_le_s (tm_le_s (tm_le_s (tm_le_n (tm_le_n (tm_le_n tm_le_0))))))) (L21 (84 - (0) + 1 : Int).toNat (0)  w20 hWw20 hFw20 (by omega) (by omega) (by omega))
