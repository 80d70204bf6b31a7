theorem dt_Tu_hasHouse_0 : decode prog_1_method_37_code 0 = .ok (.iload_n 1, 1) := by decide +kernel
theorem dt_Tu_hasHouse_1 : decode prog_1_method_37_code 1 = .ok (.ifCond .lt 18, 3) := by decide +kernel
theorem dt_Tu_hasHouse_4 : decode prog_1_method_37_code 4 = .ok (.iload_n 1, 1) := by decide +kernel
theorem dt_Tu_hasHouse_5 : decode prog_1_method_37_code 5 = .ok (.aload_n 0, 1) := by decide +kernel
theorem dt_Tu_hasHouse_6 : decode prog_1_method_37_code 6 = .ok (.getfield 19, 3) := by decide +kernel
theorem dt_Tu_hasHouse_9 : decode prog_1_method_37_code 9 = .ok (.getfield 102, 3) := by decide +kernel
theorem dt_Tu_hasHouse_12 : decode prog_1_method_37_code 12 = .ok (.if_icmp .ge 7, 3) := by decide +kernel
theorem dt_Tu_hasHouse_15 : decode prog_1_method_37_code 15 = .ok (.iconst 1, 1) := by decide +kernel
theorem dt_Tu_hasHouse_16 : decode prog_1_method_37_code 16 = .ok (.goto 4, 3) := by decide +kernel
theorem dt_Tu_hasHouse_19 : decode prog_1_method_37_code 19 = .ok (.iconst 0, 1) := by decide +kernel
theorem dt_Tu_hasHouse_20 : decode prog_1_method_37_code 20 = .ok (.ireturn, 1) := by decide +kernel
set_option maxHeartbeats 4000000 in
set_option maxRecDepth 10000 in
theorem tm_Tu_hasHouse {N : Nat} {T : Nat → tm_S} {w : ab_W} {tu tp im md rl ac rr ma pl tr gu a b : Nat} (hW : tm_W N T w) (h_all : is_All T tu tp im md rl ac rr ma pl tr gu a b) (kn : tm_g w tu 1 = some (ab_R a)) (kt : tm_g w tu 2 = some (ab_R b)) (y1 : Int) (l_y1 : (-2147483648) ≤ y1) (u_y1 : y1 ≤ 2147483647) : ab_Mt g_G g_rs mt_Tu_hasHouse 0 0 0 [ab_R tu, ab_I y1] w (tm_P w (fun v => 0 ≤ v ∧ v ≤ 1 ∧ (¬ v = 0 → 0 ≤ y1 ∧ y1 ≤ 6))) := by
  obtain ⟨tut0, imt0, mdt0, rlt0, h_tp, h_ac, h_rr, h_ma, hzz⟩ := id h_all
  obtain ⟨h_pl, h_tr, h_gu, h_a, h_b, e_all, e_ab⟩ := hzz
  obtain ⟨tpt0, tpt1⟩ := id h_tp
  obtain ⟨act0, act1, act2, act3⟩ := id h_ac
  obtain ⟨rrt0, rrt1⟩ := id h_rr
  obtain ⟨mat0, mat1⟩ := id h_ma
  obtain ⟨plt0, plt1, plt2, plt3, plt4⟩ := id h_pl
  obtain ⟨trt0, trt1, trt2, trt3, trt4, trt5⟩ := id h_tr
  obtain ⟨gut0, gut1, gut2, gut3⟩ := id h_gu
  obtain ⟨at0, at1, at2, at3, at4, at5, at6, at7, at8, at9, at10, at11, at12⟩ := id h_a
  have ad := is_Ri.d h_a
  obtain ⟨bt0, bt1, bt2, bt3, bt4, bt5, bt6, bt7, bt8, bt9, bt10, bt11, bt12⟩ := id h_b
  have bd := is_Ri.d h_b
  refine ab_Mt.of rfl (Nat.le_of_ble_eq_true rfl) ?_
  show ab_Ev g_G g_rs mt_Tu_hasHouse _ _ _ 0 [some (ab_R tu), some (ab_I y1)] [] _ _
  refine ev_iload_n dt_Tu_hasHouse_0 rfl rfl ?_
  refine ev_if_lt (tgt := 19) dt_Tu_hasHouse_1 (by decide) (by omega) (fun h1 => ?_) (fun h1 => ?_)
  · skip
    refine ev_iconst dt_Tu_hasHouse_19 ?_
    exact ev_zreturn dt_Tu_hasHouse_20 rfl (by omega) ⟨rfl, _, rfl, by omega⟩
  · skip
    refine ev_iload_n dt_Tu_hasHouse_4 rfl rfl ?_
    refine ev_aload_n dt_Tu_hasHouse_5 rfl rfl ?_
    refine tm_getK (K := 1) dt_Tu_hasHouse_6 hW tut0 fl_Tu_19 rfl kn ?_
    refine tm_getI (K := 7) dt_Tu_hasHouse_9 hW at0 fl_Tu_102 rfl rfl (fun v2 kv2 lv2 uv2 => ?_)
    refine ev_icmp_ge (tgt := 19) dt_Tu_hasHouse_12 (by decide) (by omega) (by omega) (fun h3 => ?_) (fun h3 => ?_)
    · skip
      refine ev_iconst dt_Tu_hasHouse_19 ?_
      exact ev_zreturn dt_Tu_hasHouse_20 rfl (by omega) ⟨rfl, _, rfl, by omega⟩
    · skip
      refine ev_iconst dt_Tu_hasHouse_15 ?_
      refine ev_goto (tgt := 20) dt_Tu_hasHouse_16 (by decide) ?_
      exact ev_zreturn dt_Tu_hasHouse_20 rfl (by omega) ⟨rfl, _, rfl, by omega⟩
theorem dt_Tu_hasRule_0 : decode prog_1_method_38_code 0 = .ok (.iload_n 1, 1) := by decide +kernel
theorem dt_Tu_hasRule_1 : decode prog_1_method_38_code 1 = .ok (.ifCond .lt 15, 3) := by decide +kernel
theorem dt_Tu_hasRule_4 : decode prog_1_method_38_code 4 = .ok (.iload_n 1, 1) := by decide +kernel
theorem dt_Tu_hasRule_5 : decode prog_1_method_38_code 5 = .ok (.aload_n 0, 1) := by decide +kernel
theorem dt_Tu_hasRule_6 : decode prog_1_method_38_code 6 = .ok (.getfield 105, 3) := by decide +kernel
theorem dt_Tu_hasRule_9 : decode prog_1_method_38_code 9 = .ok (.if_icmp .ge 7, 3) := by decide +kernel
theorem dt_Tu_hasRule_12 : decode prog_1_method_38_code 12 = .ok (.iconst 1, 1) := by decide +kernel
theorem dt_Tu_hasRule_13 : decode prog_1_method_38_code 13 = .ok (.goto 4, 3) := by decide +kernel
theorem dt_Tu_hasRule_16 : decode prog_1_method_38_code 16 = .ok (.iconst 0, 1) := by decide +kernel
theorem dt_Tu_hasRule_17 : decode prog_1_method_38_code 17 = .ok (.ireturn, 1) := by decide +kernel
set_option maxHeartbeats 4000000 in
set_option maxRecDepth 10000 in
theorem tm_Tu_hasRule {N : Nat} {T : Nat → tm_S} {w : ab_W} {tu tp im md rl ac rr ma pl tr gu a b : Nat} (hW : tm_W N T w) (h_all : is_All T tu tp im md rl ac rr ma pl tr gu a b) (kn : tm_g w tu 1 = some (ab_R a)) (kt : tm_g w tu 2 = some (ab_R b)) (y1 : Int) (l_y1 : (-2147483648) ≤ y1) (u_y1 : y1 ≤ 2147483647) (rc : Int) (k_rc : tm_g w tu 6 = some (ab_I rc)) : ab_Mt g_G g_rs mt_Tu_hasRule 0 0 0 [ab_R tu, ab_I y1] w (tm_P w (fun v => 0 ≤ v ∧ v ≤ 1 ∧ (¬ v = 0 → 0 ≤ y1 ∧ y1 < rc))) := by
  obtain ⟨tut0, imt0, mdt0, rlt0, h_tp, h_ac, h_rr, h_ma, hzz⟩ := id h_all
  obtain ⟨h_pl, h_tr, h_gu, h_a, h_b, e_all, e_ab⟩ := hzz
  obtain ⟨tpt0, tpt1⟩ := id h_tp
  obtain ⟨act0, act1, act2, act3⟩ := id h_ac
  obtain ⟨rrt0, rrt1⟩ := id h_rr
  obtain ⟨mat0, mat1⟩ := id h_ma
  obtain ⟨plt0, plt1, plt2, plt3, plt4⟩ := id h_pl
  obtain ⟨trt0, trt1, trt2, trt3, trt4, trt5⟩ := id h_tr
  obtain ⟨gut0, gut1, gut2, gut3⟩ := id h_gu
  obtain ⟨at0, at1, at2, at3, at4, at5, at6, at7, at8, at9, at10, at11, at12⟩ := id h_a
  have ad := is_Ri.d h_a
  obtain ⟨bt0, bt1, bt2, bt3, bt4, bt5, bt6, bt7, bt8, bt9, bt10, bt11, bt12⟩ := id h_b
  have bd := is_Ri.d h_b
  refine ab_Mt.of rfl (Nat.le_of_ble_eq_true rfl) ?_
  show ab_Ev g_G g_rs mt_Tu_hasRule _ _ _ 0 [some (ab_R tu), some (ab_I y1)] [] _ _
  have b_rc : 0 ≤ rc ∧ rc ≤ 6 := by obtain ⟨a, e, h0, h1⟩ := tm_peek (k := 6) (K := 6) hW tut0 rfl rfl; rw [k_rc] at e; injection e with e; injection e with e; omega
  refine ev_iload_n dt_Tu_hasRule_0 rfl rfl ?_
  refine ev_if_lt (tgt := 16) dt_Tu_hasRule_1 (by decide) (by omega) (fun h4 => ?_) (fun h4 => ?_)
  · skip
    refine ev_iconst dt_Tu_hasRule_16 ?_
    exact ev_zreturn dt_Tu_hasRule_17 rfl (by omega) ⟨rfl, _, rfl, by omega⟩
  · skip
    refine ev_iload_n dt_Tu_hasRule_4 rfl rfl ?_
    refine ev_aload_n dt_Tu_hasRule_5 rfl rfl ?_
    refine tm_getK (K := 6) dt_Tu_hasRule_6 hW tut0 fl_Tu_105 rfl k_rc ?_
    refine ev_icmp_ge (tgt := 16) dt_Tu_hasRule_9 (by decide) (by omega) (by omega) (fun h5 => ?_) (fun h5 => ?_)
    · skip
      refine ev_iconst dt_Tu_hasRule_16 ?_
      exact ev_zreturn dt_Tu_hasRule_17 rfl (by omega) ⟨rfl, _, rfl, by omega⟩
    · skip
      refine ev_iconst dt_Tu_hasRule_12 ?_
      refine ev_goto (tgt := 17) dt_Tu_hasRule_13 (by decide) ?_
      exact ev_zreturn dt_Tu_hasRule_17 rfl (by omega) ⟨rfl, _, rfl, by omega⟩
theorem dt_Tu_feed_0 : decode prog_1_method_2_code 0 = .ok (.aload_n 0, 1) := by decide +kernel
theorem dt_Tu_feed_1 : decode prog_1_method_2_code 1 = .ok (.getfield 10, 3) := by decide +kernel
theorem dt_Tu_feed_4 : decode prog_1_method_2_code 4 = .ok (.getfield 82, 3) := by decide +kernel
theorem dt_Tu_feed_7 : decode prog_1_method_2_code 7 = .ok (.bipush 20, 2) := by decide +kernel
theorem dt_Tu_feed_9 : decode prog_1_method_2_code 9 = .ok (.iadd, 1) := by decide +kernel
theorem dt_Tu_feed_10 : decode prog_1_method_2_code 10 = .ok (.sipush 400, 3) := by decide +kernel
theorem dt_Tu_feed_13 : decode prog_1_method_2_code 13 = .ok (.if_icmp .le 5, 3) := by decide +kernel
theorem dt_Tu_feed_16 : decode prog_1_method_2_code 16 = .ok (.iconst (-1), 1) := by decide +kernel
theorem dt_Tu_feed_17 : decode prog_1_method_2_code 17 = .ok (.ireturn, 1) := by decide +kernel
theorem dt_Tu_feed_18 : decode prog_1_method_2_code 18 = .ok (.aload_n 0, 1) := by decide +kernel
theorem dt_Tu_feed_19 : decode prog_1_method_2_code 19 = .ok (.getfield 10, 3) := by decide +kernel
theorem dt_Tu_feed_22 : decode prog_1_method_2_code 22 = .ok (.iload_n 1, 1) := by decide +kernel
theorem dt_Tu_feed_23 : decode prog_1_method_2_code 23 = .ok (.invokevirtual 86, 3) := by decide +kernel
theorem dt_Tu_feed_26 : decode prog_1_method_2_code 26 = .ok (.aload_n 0, 1) := by decide +kernel
theorem dt_Tu_feed_27 : decode prog_1_method_2_code 27 = .ok (.getfield 10, 3) := by decide +kernel
theorem dt_Tu_feed_30 : decode prog_1_method_2_code 30 = .ok (.iload_n 2, 1) := by decide +kernel
theorem dt_Tu_feed_31 : decode prog_1_method_2_code 31 = .ok (.invokevirtual 86, 3) := by decide +kernel
theorem dt_Tu_feed_34 : decode prog_1_method_2_code 34 = .ok (.aload_n 0, 1) := by decide +kernel
theorem dt_Tu_feed_35 : decode prog_1_method_2_code 35 = .ok (.getfield 10, 3) := by decide +kernel
theorem dt_Tu_feed_38 : decode prog_1_method_2_code 38 = .ok (.iload_n 3, 1) := by decide +kernel
theorem dt_Tu_feed_39 : decode prog_1_method_2_code 39 = .ok (.invokevirtual 86, 3) := by decide +kernel
theorem dt_Tu_feed_42 : decode prog_1_method_2_code 42 = .ok (.aload_n 0, 1) := by decide +kernel
theorem dt_Tu_feed_43 : decode prog_1_method_2_code 43 = .ok (.getfield 10, 3) := by decide +kernel
theorem dt_Tu_feed_46 : decode prog_1_method_2_code 46 = .ok (.iload 4, 2) := by decide +kernel
theorem dt_Tu_feed_48 : decode prog_1_method_2_code 48 = .ok (.invokevirtual 86, 3) := by decide +kernel
theorem dt_Tu_feed_51 : decode prog_1_method_2_code 51 = .ok (.aload_n 0, 1) := by decide +kernel
theorem dt_Tu_feed_52 : decode prog_1_method_2_code 52 = .ok (.getfield 10, 3) := by decide +kernel
theorem dt_Tu_feed_55 : decode prog_1_method_2_code 55 = .ok (.iload 5, 2) := by decide +kernel
theorem dt_Tu_feed_57 : decode prog_1_method_2_code 57 = .ok (.invokevirtual 86, 3) := by decide +kernel
theorem dt_Tu_feed_60 : decode prog_1_method_2_code 60 = .ok (.aload_n 0, 1) := by decide +kernel
theorem dt_Tu_feed_61 : decode prog_1_method_2_code 61 = .ok (.getfield 10, 3) := by decide +kernel
theorem dt_Tu_feed_64 : decode prog_1_method_2_code 64 = .ok (.getfield 82, 3) := by decide +kernel
theorem dt_Tu_feed_67 : decode prog_1_method_2_code 67 = .ok (.ireturn, 1) := by decide +kernel
set_option maxHeartbeats 4000000 in
set_option maxRecDepth 10000 in
theorem tm_Tu_feed {N : Nat} {T : Nat → tm_S} {w : ab_W} {tu tp im md rl ac rr ma pl tr gu a b : Nat} (hW : tm_W N T w) (h_all : is_All T tu tp im md rl ac rr ma pl tr gu a b) (kn : tm_g w tu 1 = some (ab_R a)) (kt : tm_g w tu 2 = some (ab_R b)) (y1 : Int) (l_y1 : (-2147483648) ≤ y1) (u_y1 : y1 ≤ 2147483647) (y2 : Int) (l_y2 : (-2147483648) ≤ y2) (u_y2 : y2 ≤ 2147483647) (y3 : Int) (l_y3 : (-2147483648) ≤ y3) (u_y3 : y3 ≤ 2147483647) (y4 : Int) (l_y4 : (-2147483648) ≤ y4) (u_y4 : y4 ≤ 2147483647) (y5 : Int) (l_y5 : (-2147483648) ≤ y5) (u_y5 : y5 ≤ 2147483647) : ab_Mt g_G g_rs mt_Tu_feed 1 0 0 [ab_R tu, ab_I y1, ab_I y2, ab_I y3, ab_I y4, ab_I y5] w (tm_Qi N T (fun v w2 => (∀ (p : Nat) (j : Int), ¬ ((p = tp ∧ (j = 1)) ∨ p = (tp + 1)) → tm_g w2 p j = tm_g w p j) ∧ ((-2147483648) ≤ v ∧ v ≤ 2147483647))) := by
  obtain ⟨tut0, imt0, mdt0, rlt0, h_tp, h_ac, h_rr, h_ma, hzz⟩ := id h_all
  obtain ⟨h_pl, h_tr, h_gu, h_a, h_b, e_all, e_ab⟩ := hzz
  obtain ⟨tpt0, tpt1⟩ := id h_tp
  obtain ⟨act0, act1, act2, act3⟩ := id h_ac
  obtain ⟨rrt0, rrt1⟩ := id h_rr
  obtain ⟨mat0, mat1⟩ := id h_ma
  obtain ⟨plt0, plt1, plt2, plt3, plt4⟩ := id h_pl
  obtain ⟨trt0, trt1, trt2, trt3, trt4, trt5⟩ := id h_tr
  obtain ⟨gut0, gut1, gut2, gut3⟩ := id h_gu
  obtain ⟨at0, at1, at2, at3, at4, at5, at6, at7, at8, at9, at10, at11, at12⟩ := id h_a
  have ad := is_Ri.d h_a
  obtain ⟨bt0, bt1, bt2, bt3, bt4, bt5, bt6, bt7, bt8, bt9, bt10, bt11, bt12⟩ := id h_b
  have bd := is_Ri.d h_b
  have hF0 : ∀ (p : Nat) (j : Int), ¬ ((p = tp ∧ (j = 1)) ∨ p = (tp + 1)) → tm_g w p j = tm_g w p j := fun _ _ _ => rfl
  refine ab_Mt.of rfl (Nat.le_of_ble_eq_true rfl) ?_
  show ab_Ev g_G g_rs mt_Tu_feed _ _ _ 0 [some (ab_R tu), some (ab_I y1), some (ab_I y2), some (ab_I y3), some (ab_I y4), some (ab_I y5)] [] _ _
  refine ev_aload_n dt_Tu_feed_0 rfl rfl ?_
  refine tm_getR dt_Tu_feed_1 hW tut0 fl_Tu_10 rfl ?_
  refine tm_getI (K := 1) dt_Tu_feed_4 hW tpt0 fl_Tu_82 rfl rfl (fun v6 kv6 lv6 uv6 => ?_)
  refine ev_bipush dt_Tu_feed_7 rfl ?_
  refine ev_iadd dt_Tu_feed_9 ?_
  refine ev_sipush dt_Tu_feed_10 rfl ?_
  refine ev_icmp_le (tgt := 18) dt_Tu_feed_13 (by decide) (by omega) (by omega) (fun h7 => ?_) (fun h7 => ?_)
  · skip
    refine ev_aload_n dt_Tu_feed_18 rfl rfl ?_
    refine tm_getR dt_Tu_feed_19 hW tut0 fl_Tu_10 rfl ?_
    refine ev_iload_n dt_Tu_feed_22 rfl rfl ?_
    refine tm_vv dt_Tu_feed_23 (tm_Ta_putBytes hW h_tp (y1) (by omega) (by omega)) kb_Tu_86 ⟨im_Ta_putBytes, se_Ta_putBytes⟩ rfl hW tpt0 rfl (Nat.le_of_ble_eq_true rfl) (by decide) (fun w8 hWw8 hRw8 => ?_)
    have hfw8 := hRw8
    have hFw8 : ∀ (p : Nat) (j : Int), ¬ ((p = tp ∧ (j = 1)) ∨ p = (tp + 1)) → tm_g w8 p j = tm_g w p j := fun p j h => (hfw8 p j (by omega)).trans (hF0 p j h)
    refine ev_aload_n dt_Tu_feed_26 rfl rfl ?_
    refine tm_getR dt_Tu_feed_27 hWw8 tut0 fl_Tu_10 rfl ?_
    refine ev_iload_n dt_Tu_feed_30 rfl rfl ?_
    refine tm_vv dt_Tu_feed_31 (tm_Ta_putBytes hWw8 h_tp (y2) (by omega) (by omega)) kb_Tu_86 ⟨im_Ta_putBytes, se_Ta_putBytes⟩ rfl hWw8 tpt0 rfl (Nat.le_of_ble_eq_true rfl) (by decide) (fun w9 hWw9 hRw9 => ?_)
    have hfw9 := hRw9
    have hFw9 : ∀ (p : Nat) (j : Int), ¬ ((p = tp ∧ (j = 1)) ∨ p = (tp + 1)) → tm_g w9 p j = tm_g w p j := fun p j h => (hfw9 p j (by omega)).trans (hFw8 p j h)
    refine ev_aload_n dt_Tu_feed_34 rfl rfl ?_
    refine tm_getR dt_Tu_feed_35 hWw9 tut0 fl_Tu_10 rfl ?_
    refine ev_iload_n dt_Tu_feed_38 rfl rfl ?_
    refine tm_vv dt_Tu_feed_39 (tm_Ta_putBytes hWw9 h_tp (y3) (by omega) (by omega)) kb_Tu_86 ⟨im_Ta_putBytes, se_Ta_putBytes⟩ rfl hWw9 tpt0 rfl (Nat.le_of_ble_eq_true rfl) (by decide) (fun w10 hWw10 hRw10 => ?_)
    have hfw10 := hRw10
    have hFw10 : ∀ (p : Nat) (j : Int), ¬ ((p = tp ∧ (j = 1)) ∨ p = (tp + 1)) → tm_g w10 p j = tm_g w p j := fun p j h => (hfw10 p j (by omega)).trans (hFw9 p j h)
    refine ev_aload_n dt_Tu_feed_42 rfl rfl ?_
    refine tm_getR dt_Tu_feed_43 hWw10 tut0 fl_Tu_10 rfl ?_
    refine ev_iload dt_Tu_feed_46 rfl ?_
    refine tm_vv dt_Tu_feed_48 (tm_Ta_putBytes hWw10 h_tp (y4) (by omega) (by omega)) kb_Tu_86 ⟨im_Ta_putBytes, se_Ta_putBytes⟩ rfl hWw10 tpt0 rfl (Nat.le_of_ble_eq_true rfl) (by decide) (fun w11 hWw11 hRw11 => ?_)
    have hfw11 := hRw11
    have hFw11 : ∀ (p : Nat) (j : Int), ¬ ((p = tp ∧ (j = 1)) ∨ p = (tp + 1)) → tm_g w11 p j = tm_g w p j := fun p j h => (hfw11 p j (by omega)).trans (hFw10 p j h)
    refine ev_aload_n dt_Tu_feed_51 rfl rfl ?_
    refine tm_getR dt_Tu_feed_52 hWw11 tut0 fl_Tu_10 rfl ?_
    refine ev_iload dt_Tu_feed_55 rfl ?_
    refine tm_vv dt_Tu_feed_57 (tm_Ta_putBytes hWw11 h_tp (y5) (by omega) (by omega)) kb_Tu_86 ⟨im_Ta_putBytes, se_Ta_putBytes⟩ rfl hWw11 tpt0 rfl (Nat.le_of_ble_eq_true rfl) (by decide) (fun w12 hWw12 hRw12 => ?_)
    have hfw12 := hRw12
    have hFw12 : ∀ (p : Nat) (j : Int), ¬ ((p = tp ∧ (j = 1)) ∨ p = (tp + 1)) → tm_g w12 p j = tm_g w p j := fun p j h => (hfw12 p j (by omega)).trans (hFw11 p j h)
    refine ev_aload_n dt_Tu_feed_60 rfl rfl ?_
    refine tm_getR dt_Tu_feed_61 hWw12 tut0 fl_Tu_10 rfl ?_
    refine tm_getI (K := 1) dt_Tu_feed_64 hWw12 tpt0 fl_Tu_82 rfl rfl (fun v13 kv13 lv13 uv13 => ?_)
    exact ev_ireturn dt_Tu_feed_67 rfl ⟨hWw12, _, rfl, ⟨hFw12, by omega⟩⟩
  · skip
    refine ev_iconst dt_Tu_feed_16 ?_
    exact ev_ireturn dt_Tu_feed_17 rfl ⟨hW, _, rfl, ⟨hF0, by omega⟩⟩
theorem dt_Tu_end_0 : decode prog_1_method_3_code 0 = .ok (.iload_n 1, 1) := by decide +kernel
theorem dt_Tu_end_1 : decode prog_1_method_3_code 1 = .ok (.ifCond .lt 14, 3) := by decide +kernel
theorem dt_Tu_end_4 : decode prog_1_method_3_code 4 = .ok (.iload_n 1, 1) := by decide +kernel
theorem dt_Tu_end_5 : decode prog_1_method_3_code 5 = .ok (.aload_n 0, 1) := by decide +kernel
theorem dt_Tu_end_6 : decode prog_1_method_3_code 6 = .ok (.getfield 10, 3) := by decide +kernel
theorem dt_Tu_end_9 : decode prog_1_method_3_code 9 = .ok (.getfield 82, 3) := by decide +kernel
theorem dt_Tu_end_12 : decode prog_1_method_3_code 12 = .ok (.if_icmp .le 5, 3) := by decide +kernel
theorem dt_Tu_end_15 : decode prog_1_method_3_code 15 = .ok (.iconst (-1), 1) := by decide +kernel
theorem dt_Tu_end_16 : decode prog_1_method_3_code 16 = .ok (.ireturn, 1) := by decide +kernel
theorem dt_Tu_end_17 : decode prog_1_method_3_code 17 = .ok (.aload_n 0, 1) := by decide +kernel
theorem dt_Tu_end_18 : decode prog_1_method_3_code 18 = .ok (.getfield 10, 3) := by decide +kernel
theorem dt_Tu_end_21 : decode prog_1_method_3_code 21 = .ok (.iload_n 1, 1) := by decide +kernel
theorem dt_Tu_end_22 : decode prog_1_method_3_code 22 = .ok (.putfield 82, 3) := by decide +kernel
theorem dt_Tu_end_25 : decode prog_1_method_3_code 25 = .ok (.iload_n 1, 1) := by decide +kernel
theorem dt_Tu_end_26 : decode prog_1_method_3_code 26 = .ok (.ireturn, 1) := by decide +kernel
set_option maxHeartbeats 4000000 in
set_option maxRecDepth 10000 in
theorem tm_Tu_end {N : Nat} {T : Nat → tm_S} {w : ab_W} {tu tp im md rl ac rr ma pl tr gu a b : Nat} (hW : tm_W N T w) (h_all : is_All T tu tp im md rl ac rr ma pl tr gu a b) (kn : tm_g w tu 1 = some (ab_R a)) (kt : tm_g w tu 2 = some (ab_R b)) (y1 : Int) (l_y1 : (-2147483648) ≤ y1) (u_y1 : y1 ≤ 2147483647) : ab_Mt g_G g_rs mt_Tu_end 0 0 0 [ab_R tu, ab_I y1] w (tm_Qi N T (fun v w2 => (∀ (p : Nat) (j : Int), ¬ ((p = tp ∧ (j = 1))) → tm_g w2 p j = tm_g w p j) ∧ ((-2147483648) ≤ v ∧ v ≤ 2147483647))) := by
  obtain ⟨tut0, imt0, mdt0, rlt0, h_tp, h_ac, h_rr, h_ma, hzz⟩ := id h_all
  obtain ⟨h_pl, h_tr, h_gu, h_a, h_b, e_all, e_ab⟩ := hzz
  obtain ⟨tpt0, tpt1⟩ := id h_tp
  obtain ⟨act0, act1, act2, act3⟩ := id h_ac
  obtain ⟨rrt0, rrt1⟩ := id h_rr
  obtain ⟨mat0, mat1⟩ := id h_ma
  obtain ⟨plt0, plt1, plt2, plt3, plt4⟩ := id h_pl
  obtain ⟨trt0, trt1, trt2, trt3, trt4, trt5⟩ := id h_tr
  obtain ⟨gut0, gut1, gut2, gut3⟩ := id h_gu
  obtain ⟨at0, at1, at2, at3, at4, at5, at6, at7, at8, at9, at10, at11, at12⟩ := id h_a
  have ad := is_Ri.d h_a
  obtain ⟨bt0, bt1, bt2, bt3, bt4, bt5, bt6, bt7, bt8, bt9, bt10, bt11, bt12⟩ := id h_b
  have bd := is_Ri.d h_b
  have hF0 : ∀ (p : Nat) (j : Int), ¬ ((p = tp ∧ (j = 1))) → tm_g w p j = tm_g w p j := fun _ _ _ => rfl
  refine ab_Mt.of rfl (Nat.le_of_ble_eq_true rfl) ?_
  show ab_Ev g_G g_rs mt_Tu_end _ _ _ 0 [some (ab_R tu), some (ab_I y1)] [] _ _
  refine ev_iload_n dt_Tu_end_0 rfl rfl ?_
  refine ev_if_lt (tgt := 15) dt_Tu_end_1 (by decide) (by omega) (fun h14 => ?_) (fun h14 => ?_)
  · skip
    refine ev_iconst dt_Tu_end_15 ?_
    exact ev_ireturn dt_Tu_end_16 rfl ⟨hW, _, rfl, ⟨hF0, by omega⟩⟩
  · skip
    refine ev_iload_n dt_Tu_end_4 rfl rfl ?_
    refine ev_aload_n dt_Tu_end_5 rfl rfl ?_
    refine tm_getR dt_Tu_end_6 hW tut0 fl_Tu_10 rfl ?_
    refine tm_getI (K := 1) dt_Tu_end_9 hW tpt0 fl_Tu_82 rfl rfl (fun v15 kv15 lv15 uv15 => ?_)
    refine ev_icmp_le (tgt := 17) dt_Tu_end_12 (by decide) (by omega) (by omega) (fun h16 => ?_) (fun h16 => ?_)
    · skip
      refine ev_aload_n dt_Tu_end_17 rfl rfl ?_
      refine tm_getR dt_Tu_end_18 hW tut0 fl_Tu_10 rfl ?_
      refine ev_iload_n dt_Tu_end_21 rfl rfl ?_
      refine tm_putI (K := 1) dt_Tu_end_22 hW tpt0 (fp_Tu_82 _) rfl rfl trivial (by omega) (by omega) (fun w17 hWw17 kkw17 hfw17 => ?_)
      have hFw17 : ∀ (p : Nat) (j : Int), ¬ ((p = tp ∧ (j = 1))) → tm_g w17 p j = tm_g w p j := fun p j h => (hfw17 p j (by omega)).trans (hF0 p j h)
      refine ev_iload_n dt_Tu_end_25 rfl rfl ?_
      exact ev_ireturn dt_Tu_end_26 rfl ⟨hWw17, _, rfl, ⟨hFw17, by omega⟩⟩
    · skip
      refine ev_iconst dt_Tu_end_15 ?_
      exact ev_ireturn dt_Tu_end_16 rfl ⟨hW, _, rfl, ⟨hF0, by omega⟩⟩
theorem dt_Tu_house_0 : decode prog_1_method_6_code 0 = .ok (.aload_n 0, 1) := by decide +kernel
theorem dt_Tu_house_1 : decode prog_1_method_6_code 1 = .ok (.iload_n 1, 1) := by decide +kernel
theorem dt_Tu_house_2 : decode prog_1_method_6_code 2 = .ok (.invokevirtual 118, 3) := by decide +kernel
theorem dt_Tu_house_5 : decode prog_1_method_6_code 5 = .ok (.ifCond .ne 7, 3) := by decide +kernel
theorem dt_Tu_house_8 : decode prog_1_method_6_code 8 = .ok (.sipush (-1000), 3) := by decide +kernel
theorem dt_Tu_house_11 : decode prog_1_method_6_code 11 = .ok (.ireturn, 1) := by decide +kernel
theorem dt_Tu_house_12 : decode prog_1_method_6_code 12 = .ok (.iload_n 2, 1) := by decide +kernel
theorem dt_Tu_house_13 : decode prog_1_method_6_code 13 = .ok (.bipush 100, 2) := by decide +kernel
theorem dt_Tu_house_15 : decode prog_1_method_6_code 15 = .ok (.if_icmp .lt 26, 3) := by decide +kernel
theorem dt_Tu_house_18 : decode prog_1_method_6_code 18 = .ok (.iload_n 2, 1) := by decide +kernel
theorem dt_Tu_house_19 : decode prog_1_method_6_code 19 = .ok (.bipush 105, 2) := by decide +kernel
theorem dt_Tu_house_21 : decode prog_1_method_6_code 21 = .ok (.if_icmp .ge 20, 3) := by decide +kernel
theorem dt_Tu_house_24 : decode prog_1_method_6_code 24 = .ok (.aload_n 0, 1) := by decide +kernel
theorem dt_Tu_house_25 : decode prog_1_method_6_code 25 = .ok (.getfield 19, 3) := by decide +kernel
theorem dt_Tu_house_28 : decode prog_1_method_6_code 28 = .ok (.getfield 122, 3) := by decide +kernel
theorem dt_Tu_house_31 : decode prog_1_method_6_code 31 = .ok (.iload_n 1, 1) := by decide +kernel
theorem dt_Tu_house_32 : decode prog_1_method_6_code 32 = .ok (.iconst 5, 1) := by decide +kernel
theorem dt_Tu_house_33 : decode prog_1_method_6_code 33 = .ok (.imul, 1) := by decide +kernel
theorem dt_Tu_house_34 : decode prog_1_method_6_code 34 = .ok (.iload_n 2, 1) := by decide +kernel
theorem dt_Tu_house_35 : decode prog_1_method_6_code 35 = .ok (.iadd, 1) := by decide +kernel
theorem dt_Tu_house_36 : decode prog_1_method_6_code 36 = .ok (.bipush 100, 2) := by decide +kernel
theorem dt_Tu_house_38 : decode prog_1_method_6_code 38 = .ok (.isub, 1) := by decide +kernel
theorem dt_Tu_house_39 : decode prog_1_method_6_code 39 = .ok (.iaload, 1) := by decide +kernel
theorem dt_Tu_house_40 : decode prog_1_method_6_code 40 = .ok (.ireturn, 1) := by decide +kernel
theorem dt_Tu_house_41 : decode prog_1_method_6_code 41 = .ok (.iload_n 2, 1) := by decide +kernel
theorem dt_Tu_house_42 : decode prog_1_method_6_code 42 = .ok (.tableswitch 144 0 6 #[42, 52, 62, 71, 94, 103, 127], 42) := by decide +kernel
theorem dt_Tu_house_84 : decode prog_1_method_6_code 84 = .ok (.aload_n 0, 1) := by decide +kernel
theorem dt_Tu_house_85 : decode prog_1_method_6_code 85 = .ok (.getfield 19, 3) := by decide +kernel
theorem dt_Tu_house_88 : decode prog_1_method_6_code 88 = .ok (.getfield 126, 3) := by decide +kernel
theorem dt_Tu_house_91 : decode prog_1_method_6_code 91 = .ok (.iload_n 1, 1) := by decide +kernel
theorem dt_Tu_house_92 : decode prog_1_method_6_code 92 = .ok (.iaload, 1) := by decide +kernel
theorem dt_Tu_house_93 : decode prog_1_method_6_code 93 = .ok (.ireturn, 1) := by decide +kernel
theorem dt_Tu_house_94 : decode prog_1_method_6_code 94 = .ok (.aload_n 0, 1) := by decide +kernel
theorem dt_Tu_house_95 : decode prog_1_method_6_code 95 = .ok (.getfield 19, 3) := by decide +kernel
theorem dt_Tu_house_98 : decode prog_1_method_6_code 98 = .ok (.getfield 129, 3) := by decide +kernel
theorem dt_Tu_house_101 : decode prog_1_method_6_code 101 = .ok (.iload_n 1, 1) := by decide +kernel
theorem dt_Tu_house_102 : decode prog_1_method_6_code 102 = .ok (.iaload, 1) := by decide +kernel
theorem dt_Tu_house_103 : decode prog_1_method_6_code 103 = .ok (.ireturn, 1) := by decide +kernel
theorem dt_Tu_house_104 : decode prog_1_method_6_code 104 = .ok (.aload_n 0, 1) := by decide +kernel
theorem dt_Tu_house_105 : decode prog_1_method_6_code 105 = .ok (.getfield 19, 3) := by decide +kernel
theorem dt_Tu_house_108 : decode prog_1_method_6_code 108 = .ok (.iload_n 1, 1) := by decide +kernel
theorem dt_Tu_house_109 : decode prog_1_method_6_code 109 = .ok (.invokevirtual 132, 3) := by decide +kernel
theorem dt_Tu_house_112 : decode prog_1_method_6_code 112 = .ok (.ireturn, 1) := by decide +kernel
theorem dt_Tu_house_113 : decode prog_1_method_6_code 113 = .ok (.aload_n 0, 1) := by decide +kernel
theorem dt_Tu_house_114 : decode prog_1_method_6_code 114 = .ok (.getfield 19, 3) := by decide +kernel
theorem dt_Tu_house_117 : decode prog_1_method_6_code 117 = .ok (.aload_n 0, 1) := by decide +kernel
theorem dt_Tu_house_118 : decode prog_1_method_6_code 118 = .ok (.getfield 19, 3) := by decide +kernel
theorem dt_Tu_house_121 : decode prog_1_method_6_code 121 = .ok (.iload_n 1, 1) := by decide +kernel
theorem dt_Tu_house_122 : decode prog_1_method_6_code 122 = .ok (.invokevirtual 132, 3) := by decide +kernel
theorem dt_Tu_house_125 : decode prog_1_method_6_code 125 = .ok (.aload_n 0, 1) := by decide +kernel
theorem dt_Tu_house_126 : decode prog_1_method_6_code 126 = .ok (.getfield 19, 3) := by decide +kernel
theorem dt_Tu_house_129 : decode prog_1_method_6_code 129 = .ok (.getfield 136, 3) := by decide +kernel
theorem dt_Tu_house_132 : decode prog_1_method_6_code 132 = .ok (.invokevirtual 139, 3) := by decide +kernel
theorem dt_Tu_house_135 : decode prog_1_method_6_code 135 = .ok (.ireturn, 1) := by decide +kernel
theorem dt_Tu_house_136 : decode prog_1_method_6_code 136 = .ok (.aload_n 0, 1) := by decide +kernel
theorem dt_Tu_house_137 : decode prog_1_method_6_code 137 = .ok (.getfield 19, 3) := by decide +kernel
theorem dt_Tu_house_140 : decode prog_1_method_6_code 140 = .ok (.iload_n 1, 1) := by decide +kernel
theorem dt_Tu_house_141 : decode prog_1_method_6_code 141 = .ok (.invokevirtual 143, 3) := by decide +kernel
theorem dt_Tu_house_144 : decode prog_1_method_6_code 144 = .ok (.ireturn, 1) := by decide +kernel
theorem dt_Tu_house_145 : decode prog_1_method_6_code 145 = .ok (.aload_n 0, 1) := by decide +kernel
theorem dt_Tu_house_146 : decode prog_1_method_6_code 146 = .ok (.getfield 19, 3) := by decide +kernel
theorem dt_Tu_house_149 : decode prog_1_method_6_code 149 = .ok (.aload_n 0, 1) := by decide +kernel
theorem dt_Tu_house_150 : decode prog_1_method_6_code 150 = .ok (.getfield 19, 3) := by decide +kernel
theorem dt_Tu_house_153 : decode prog_1_method_6_code 153 = .ok (.iload_n 1, 1) := by decide +kernel
theorem dt_Tu_house_154 : decode prog_1_method_6_code 154 = .ok (.invokevirtual 132, 3) := by decide +kernel
theorem dt_Tu_house_157 : decode prog_1_method_6_code 157 = .ok (.invokevirtual 146, 3) := by decide +kernel
theorem dt_Tu_house_160 : decode prog_1_method_6_code 160 = .ok (.ifCond .eq 7, 3) := by decide +kernel
theorem dt_Tu_house_163 : decode prog_1_method_6_code 163 = .ok (.iconst 1, 1) := by decide +kernel
theorem dt_Tu_house_164 : decode prog_1_method_6_code 164 = .ok (.goto 4, 3) := by decide +kernel
theorem dt_Tu_house_167 : decode prog_1_method_6_code 167 = .ok (.iconst 0, 1) := by decide +kernel
theorem dt_Tu_house_168 : decode prog_1_method_6_code 168 = .ok (.ireturn, 1) := by decide +kernel
theorem dt_Tu_house_169 : decode prog_1_method_6_code 169 = .ok (.aload_n 0, 1) := by decide +kernel
theorem dt_Tu_house_170 : decode prog_1_method_6_code 170 = .ok (.getfield 19, 3) := by decide +kernel
theorem dt_Tu_house_173 : decode prog_1_method_6_code 173 = .ok (.iload_n 1, 1) := by decide +kernel
theorem dt_Tu_house_174 : decode prog_1_method_6_code 174 = .ok (.invokevirtual 149, 3) := by decide +kernel
theorem dt_Tu_house_177 : decode prog_1_method_6_code 177 = .ok (.ifCond .eq 7, 3) := by decide +kernel
theorem dt_Tu_house_180 : decode prog_1_method_6_code 180 = .ok (.iconst 1, 1) := by decide +kernel
theorem dt_Tu_house_181 : decode prog_1_method_6_code 181 = .ok (.goto 4, 3) := by decide +kernel
theorem dt_Tu_house_184 : decode prog_1_method_6_code 184 = .ok (.iconst 0, 1) := by decide +kernel
theorem dt_Tu_house_185 : decode prog_1_method_6_code 185 = .ok (.ireturn, 1) := by decide +kernel
theorem dt_Tu_house_186 : decode prog_1_method_6_code 186 = .ok (.sipush (-1000), 3) := by decide +kernel
theorem dt_Tu_house_189 : decode prog_1_method_6_code 189 = .ok (.ireturn, 1) := by decide +kernel
set_option maxHeartbeats 4000000 in
set_option maxRecDepth 10000 in
theorem tm_Tu_house {N : Nat} {T : Nat → tm_S} {w : ab_W} {tu tp im md rl ac rr ma pl tr gu a b : Nat} (hW : tm_W N T w) (h_all : is_All T tu tp im md rl ac rr ma pl tr gu a b) (kn : tm_g w tu 1 = some (ab_R a)) (kt : tm_g w tu 2 = some (ab_R b)) (y1 : Int) (l_y1 : (-2147483648) ≤ y1) (u_y1 : y1 ≤ 2147483647) (y2 : Int) (l_y2 : (-2147483648) ≤ y2) (u_y2 : y2 ≤ 2147483647) : ab_Mt g_G g_rs mt_Tu_house 3 0 0 [ab_R tu, ab_I y1, ab_I y2] w (tm_P w (fun v => (-2147483648) ≤ v ∧ v ≤ 2147483647)) := by
  obtain ⟨tut0, imt0, mdt0, rlt0, h_tp, h_ac, h_rr, h_ma, hzz⟩ := id h_all
  obtain ⟨h_pl, h_tr, h_gu, h_a, h_b, e_all, e_ab⟩ := hzz
  obtain ⟨tpt0, tpt1⟩ := id h_tp
  obtain ⟨act0, act1, act2, act3⟩ := id h_ac
  obtain ⟨rrt0, rrt1⟩ := id h_rr
  obtain ⟨mat0, mat1⟩ := id h_ma
  obtain ⟨plt0, plt1, plt2, plt3, plt4⟩ := id h_pl
  obtain ⟨trt0, trt1, trt2, trt3, trt4, trt5⟩ := id h_tr
  obtain ⟨gut0, gut1, gut2, gut3⟩ := id h_gu
  obtain ⟨at0, at1, at2, at3, at4, at5, at6, at7, at8, at9, at10, at11, at12⟩ := id h_a
  have ad := is_Ri.d h_a
  obtain ⟨bt0, bt1, bt2, bt3, bt4, bt5, bt6, bt7, bt8, bt9, bt10, bt11, bt12⟩ := id h_b
  have bd := is_Ri.d h_b
  refine ab_Mt.of rfl (Nat.le_of_ble_eq_true rfl) ?_
  show ab_Ev g_G g_rs mt_Tu_house _ _ _ 0 [some (ab_R tu), some (ab_I y1), some (ab_I y2)] [] _ _
  refine ev_aload_n dt_Tu_house_0 rfl rfl ?_
  refine ev_iload_n dt_Tu_house_1 rfl rfl ?_
  refine tm_vp dt_Tu_house_2 (tm_Tu_hasHouse hW h_all kn kt (y1) (by omega) (by omega)) kb_Tu_118 ⟨im_Tu_hasHouse, se_Tu_hasHouse⟩ rfl hW tut0 rfl (Nat.le_of_ble_eq_true rfl) (by decide) (fun v18 hv18 => ?_)
  refine ev_if_ne (tgt := 12) dt_Tu_house_5 (by decide) (by omega) (fun h19 => ?_) (fun h19 => ?_)
  · skip
    refine ev_iload_n dt_Tu_house_12 rfl rfl ?_
    refine ev_bipush dt_Tu_house_13 rfl ?_
    refine ev_icmp_lt (tgt := 41) dt_Tu_house_15 (by decide) (by omega) (by omega) (fun h20 => ?_) (fun h20 => ?_)
    · skip
      refine ev_iload_n dt_Tu_house_41 rfl rfl ?_
      rcases (by omega : y2 = 0 ∨ y2 = 1 ∨ y2 = 2 ∨ y2 = 3 ∨ y2 = 4 ∨ y2 = 5 ∨ y2 = 6 ∨ y2 < 0 ∨ 6 < y2) with c21 | c21 | c21 | c21 | c21 | c21 | c21 | c21 | c21
      · skip
        refine ev_tableIn (off := 42) (tgt := 84) dt_Tu_house_42 (by omega) (by omega) (by omega) (by rw [c21]; rfl) (by decide) ?_
        refine ev_aload_n dt_Tu_house_84 rfl rfl ?_
        refine tm_getK (K := 1) dt_Tu_house_85 hW tut0 fl_Tu_19 rfl kn ?_
        refine tm_getR dt_Tu_house_88 hW at0 fl_Tu_126 rfl ?_
        refine ev_iload_n dt_Tu_house_91 rfl rfl ?_
        refine tm_iaload dt_Tu_house_92 hW at1 (by omega) (by omega) (by omega) (fun v22 kv22 lv22 uv22 => ?_)
        exact ev_ireturn dt_Tu_house_93 rfl ⟨rfl, _, rfl, by omega⟩
      · skip
        refine ev_tableIn (off := 52) (tgt := 94) dt_Tu_house_42 (by omega) (by omega) (by omega) (by rw [c21]; rfl) (by decide) ?_
        refine ev_aload_n dt_Tu_house_94 rfl rfl ?_
        refine tm_getK (K := 1) dt_Tu_house_95 hW tut0 fl_Tu_19 rfl kn ?_
        refine tm_getR dt_Tu_house_98 hW at0 fl_Tu_129 rfl ?_
        refine ev_iload_n dt_Tu_house_101 rfl rfl ?_
        refine tm_iaload dt_Tu_house_102 hW at3 (by omega) (by omega) (by omega) (fun v23 kv23 lv23 uv23 => ?_)
        exact ev_ireturn dt_Tu_house_103 rfl ⟨rfl, _, rfl, by omega⟩
      · skip
        refine ev_tableIn (off := 62) (tgt := 104) dt_Tu_house_42 (by omega) (by omega) (by omega) (by rw [c21]; rfl) (by decide) ?_
        refine ev_aload_n dt_Tu_house_104 rfl rfl ?_
        refine tm_getK (K := 1) dt_Tu_house_105 hW tut0 fl_Tu_19 rfl kn ?_
        refine ev_iload_n dt_Tu_house_108 rfl rfl ?_
        refine tm_vp dt_Tu_house_109 (tm_Ri_facing hW h_a (y1) (by omega) (by omega)) kb_Tu_132 ⟨im_Ri_facing, se_Ri_facing⟩ rfl hW at0 rfl (Nat.le_of_ble_eq_true rfl) (by decide) (fun v24 hv24 => ?_)
        exact ev_ireturn dt_Tu_house_112 rfl ⟨rfl, _, rfl, by omega⟩
      · skip
        refine ev_tableIn (off := 71) (tgt := 113) dt_Tu_house_42 (by omega) (by omega) (by omega) (by rw [c21]; rfl) (by decide) ?_
        refine ev_aload_n dt_Tu_house_113 rfl rfl ?_
        refine tm_getK (K := 1) dt_Tu_house_114 hW tut0 fl_Tu_19 rfl kn ?_
        refine ev_aload_n dt_Tu_house_117 rfl rfl ?_
        refine tm_getK (K := 1) dt_Tu_house_118 hW tut0 fl_Tu_19 rfl kn ?_
        refine ev_iload_n dt_Tu_house_121 rfl rfl ?_
        refine tm_vp dt_Tu_house_122 (tm_Ri_facing hW h_a (y1) (by omega) (by omega)) kb_Tu_132 ⟨im_Ri_facing, se_Ri_facing⟩ rfl hW at0 rfl (Nat.le_of_ble_eq_true rfl) (by decide) (fun v25 hv25 => ?_)
        refine ev_aload_n dt_Tu_house_125 rfl rfl ?_
        refine tm_getK (K := 1) dt_Tu_house_126 hW tut0 fl_Tu_19 rfl kn ?_
        refine tm_getI (K := 2) dt_Tu_house_129 hW at0 fl_Tu_136 rfl rfl (fun v26 kv26 lv26 uv26 => ?_)
        refine tm_vp dt_Tu_house_132 (tm_Ri_sortsAt hW h_a (v25) (by omega) (by omega) (v26) (by omega) (by omega)) kb_Tu_139 ⟨im_Ri_sortsAt, se_Ri_sortsAt⟩ rfl hW at0 rfl (Nat.le_of_ble_eq_true rfl) (by decide) (fun v27 hv27 => ?_)
        exact ev_ireturn dt_Tu_house_135 rfl ⟨rfl, _, rfl, by omega⟩
      · skip
        refine ev_tableIn (off := 94) (tgt := 136) dt_Tu_house_42 (by omega) (by omega) (by omega) (by rw [c21]; rfl) (by decide) ?_
        refine ev_aload_n dt_Tu_house_136 rfl rfl ?_
        refine tm_getK (K := 1) dt_Tu_house_137 hW tut0 fl_Tu_19 rfl kn ?_
        refine ev_iload_n dt_Tu_house_140 rfl rfl ?_
        refine tm_vp dt_Tu_house_141 (tm_Ri_likesNow hW h_a (y1) (by omega) (by omega)) kb_Tu_143 ⟨im_Ri_likesNow, se_Ri_likesNow⟩ rfl hW at0 rfl (Nat.le_of_ble_eq_true rfl) (by decide) (fun v28 hv28 => ?_)
        exact ev_ireturn dt_Tu_house_144 rfl ⟨rfl, _, rfl, by omega⟩
      · skip
        refine ev_tableIn (off := 103) (tgt := 145) dt_Tu_house_42 (by omega) (by omega) (by omega) (by rw [c21]; rfl) (by decide) ?_
        refine ev_aload_n dt_Tu_house_145 rfl rfl ?_
        refine tm_getK (K := 1) dt_Tu_house_146 hW tut0 fl_Tu_19 rfl kn ?_
        refine ev_aload_n dt_Tu_house_149 rfl rfl ?_
        refine tm_getK (K := 1) dt_Tu_house_150 hW tut0 fl_Tu_19 rfl kn ?_
        refine ev_iload_n dt_Tu_house_153 rfl rfl ?_
        refine tm_vp dt_Tu_house_154 (tm_Ri_facing hW h_a (y1) (by omega) (by omega)) kb_Tu_132 ⟨im_Ri_facing, se_Ri_facing⟩ rfl hW at0 rfl (Nat.le_of_ble_eq_true rfl) (by decide) (fun v29 hv29 => ?_)
        refine tm_vp dt_Tu_house_157 (tm_Ri_isGate hW h_a (v29) (by omega) (by omega)) kb_Tu_146 ⟨im_Ri_isGate, se_Ri_isGate⟩ rfl hW at0 rfl (Nat.le_of_ble_eq_true rfl) (by decide) (fun v30 hv30 => ?_)
        refine ev_if_eq (tgt := 167) dt_Tu_house_160 (by decide) (by omega) (fun h31 => ?_) (fun h31 => ?_)
        · skip
          refine ev_iconst dt_Tu_house_167 ?_
          exact ev_ireturn dt_Tu_house_168 rfl ⟨rfl, _, rfl, by omega⟩
        · skip
          refine ev_iconst dt_Tu_house_163 ?_
          refine ev_goto (tgt := 168) dt_Tu_house_164 (by decide) ?_
          exact ev_ireturn dt_Tu_house_168 rfl ⟨rfl, _, rfl, by omega⟩
      · skip
        refine ev_tableIn (off := 127) (tgt := 169) dt_Tu_house_42 (by omega) (by omega) (by omega) (by rw [c21]; rfl) (by decide) ?_
        refine ev_aload_n dt_Tu_house_169 rfl rfl ?_
        refine tm_getK (K := 1) dt_Tu_house_170 hW tut0 fl_Tu_19 rfl kn ?_
        refine ev_iload_n dt_Tu_house_173 rfl rfl ?_
        refine tm_vp dt_Tu_house_174 (tm_Ri_wantsStay hW h_a (y1) (by omega) (by omega)) kb_Tu_149 ⟨im_Ri_wantsStay, se_Ri_wantsStay⟩ rfl hW at0 rfl (Nat.le_of_ble_eq_true rfl) (by decide) (fun v32 hv32 => ?_)
        refine ev_if_eq (tgt := 184) dt_Tu_house_177 (by decide) (by omega) (fun h33 => ?_) (fun h33 => ?_)
        · skip
          refine ev_iconst dt_Tu_house_184 ?_
          exact ev_ireturn dt_Tu_house_185 rfl ⟨rfl, _, rfl, by omega⟩
        · skip
          refine ev_iconst dt_Tu_house_180 ?_
          refine ev_goto (tgt := 185) dt_Tu_house_181 (by decide) ?_
          exact ev_ireturn dt_Tu_house_185 rfl ⟨rfl, _, rfl, by omega⟩
      · skip
        refine ev_tableOut (tgt := 186) dt_Tu_house_42 (by omega) (by omega) (by decide) ?_
        refine ev_sipush dt_Tu_house_186 rfl ?_
        exact ev_ireturn dt_Tu_house_189 rfl ⟨rfl, _, rfl, by omega⟩
      · skip
        refine ev_tableOut (tgt := 186) dt_Tu_house_42 (by omega) (by omega) (by decide) ?_
        refine ev_sipush dt_Tu_house_186 rfl ?_
        exact ev_ireturn dt_Tu_house_189 rfl ⟨rfl, _, rfl, by omega⟩
    · skip
      refine ev_iload_n dt_Tu_house_18 rfl rfl ?_
      refine ev_bipush dt_Tu_house_19 rfl ?_
      refine ev_icmp_ge (tgt := 41) dt_Tu_house_21 (by decide) (by omega) (by omega) (fun h34 => ?_) (fun h34 => ?_)
      · skip
        refine ev_iload_n dt_Tu_house_41 rfl rfl ?_
        have c35 : 6 < y2 := by omega
        · skip
          refine ev_tableOut (tgt := 186) dt_Tu_house_42 (by omega) (by omega) (by decide) ?_
          refine ev_sipush dt_Tu_house_186 rfl ?_
          exact ev_ireturn dt_Tu_house_189 rfl ⟨rfl, _, rfl, by omega⟩
      · skip
        refine ev_aload_n dt_Tu_house_24 rfl rfl ?_
        refine tm_getK (K := 1) dt_Tu_house_25 hW tut0 fl_Tu_19 rfl kn ?_
        refine tm_getR dt_Tu_house_28 hW at0 fl_Tu_122 rfl ?_
        refine ev_iload_n dt_Tu_house_31 rfl rfl ?_
        refine ev_iconst dt_Tu_house_32 ?_
        refine ev_imul dt_Tu_house_33 ?_
        refine ev_iload_n dt_Tu_house_34 rfl rfl ?_
        refine ev_iadd dt_Tu_house_35 ?_
        refine ev_bipush dt_Tu_house_36 rfl ?_
        refine ev_isub dt_Tu_house_38 ?_
        refine tm_iaload dt_Tu_house_39 hW at4 (by omega) (by omega) (by omega) (fun v36 kv36 lv36 uv36 => ?_)
        exact ev_ireturn dt_Tu_house_40 rfl ⟨rfl, _, rfl, by omega⟩
  · skip
    refine ev_sipush dt_Tu_house_8 rfl ?_
    exact ev_ireturn dt_Tu_house_11 rfl ⟨rfl, _, rfl, by omega⟩
theorem dt_Tu_direction_0 : decode prog_1_method_7_code 0 = .ok (.aload_n 0, 1) := by decide +kernel
theorem dt_Tu_direction_1 : decode prog_1_method_7_code 1 = .ok (.getfield 19, 3) := by decide +kernel
theorem dt_Tu_direction_4 : decode prog_1_method_7_code 4 = .ok (.getfield 152, 3) := by decide +kernel
theorem dt_Tu_direction_7 : decode prog_1_method_7_code 7 = .ok (.ifCond .eq 10, 3) := by decide +kernel
theorem dt_Tu_direction_10 : decode prog_1_method_7_code 10 = .ok (.iload_n 1, 1) := by decide +kernel
theorem dt_Tu_direction_11 : decode prog_1_method_7_code 11 = .ok (.invokestatic 156, 3) := by decide +kernel
theorem dt_Tu_direction_14 : decode prog_1_method_7_code 14 = .ok (.ifCond .ne 6, 3) := by decide +kernel
theorem dt_Tu_direction_17 : decode prog_1_method_7_code 17 = .ok (.bipush (-2), 2) := by decide +kernel
theorem dt_Tu_direction_19 : decode prog_1_method_7_code 19 = .ok (.ireturn, 1) := by decide +kernel
theorem dt_Tu_direction_20 : decode prog_1_method_7_code 20 = .ok (.iload_n 2, 1) := by decide +kernel
theorem dt_Tu_direction_21 : decode prog_1_method_7_code 21 = .ok (.tableswitch 69 0 2 #[27, 36, 53], 27) := by decide +kernel
theorem dt_Tu_direction_48 : decode prog_1_method_7_code 48 = .ok (.aload_n 0, 1) := by decide +kernel
theorem dt_Tu_direction_49 : decode prog_1_method_7_code 49 = .ok (.getfield 19, 3) := by decide +kernel
theorem dt_Tu_direction_52 : decode prog_1_method_7_code 52 = .ok (.iload_n 1, 1) := by decide +kernel
theorem dt_Tu_direction_53 : decode prog_1_method_7_code 53 = .ok (.invokevirtual 159, 3) := by decide +kernel
theorem dt_Tu_direction_56 : decode prog_1_method_7_code 56 = .ok (.ireturn, 1) := by decide +kernel
theorem dt_Tu_direction_57 : decode prog_1_method_7_code 57 = .ok (.aload_n 0, 1) := by decide +kernel
theorem dt_Tu_direction_58 : decode prog_1_method_7_code 58 = .ok (.getfield 19, 3) := by decide +kernel
theorem dt_Tu_direction_61 : decode prog_1_method_7_code 61 = .ok (.iload_n 1, 1) := by decide +kernel
theorem dt_Tu_direction_62 : decode prog_1_method_7_code 62 = .ok (.invokevirtual 146, 3) := by decide +kernel
theorem dt_Tu_direction_65 : decode prog_1_method_7_code 65 = .ok (.ifCond .eq 7, 3) := by decide +kernel
theorem dt_Tu_direction_68 : decode prog_1_method_7_code 68 = .ok (.iconst 1, 1) := by decide +kernel
theorem dt_Tu_direction_69 : decode prog_1_method_7_code 69 = .ok (.goto 4, 3) := by decide +kernel
theorem dt_Tu_direction_72 : decode prog_1_method_7_code 72 = .ok (.iconst 0, 1) := by decide +kernel
theorem dt_Tu_direction_73 : decode prog_1_method_7_code 73 = .ok (.ireturn, 1) := by decide +kernel
theorem dt_Tu_direction_74 : decode prog_1_method_7_code 74 = .ok (.aload_n 0, 1) := by decide +kernel
theorem dt_Tu_direction_75 : decode prog_1_method_7_code 75 = .ok (.getfield 19, 3) := by decide +kernel
theorem dt_Tu_direction_78 : decode prog_1_method_7_code 78 = .ok (.iload_n 1, 1) := by decide +kernel
theorem dt_Tu_direction_79 : decode prog_1_method_7_code 79 = .ok (.aload_n 0, 1) := by decide +kernel
theorem dt_Tu_direction_80 : decode prog_1_method_7_code 80 = .ok (.getfield 19, 3) := by decide +kernel
theorem dt_Tu_direction_83 : decode prog_1_method_7_code 83 = .ok (.getfield 136, 3) := by decide +kernel
theorem dt_Tu_direction_86 : decode prog_1_method_7_code 86 = .ok (.invokevirtual 139, 3) := by decide +kernel
theorem dt_Tu_direction_89 : decode prog_1_method_7_code 89 = .ok (.ireturn, 1) := by decide +kernel
theorem dt_Tu_direction_90 : decode prog_1_method_7_code 90 = .ok (.bipush (-2), 2) := by decide +kernel
theorem dt_Tu_direction_92 : decode prog_1_method_7_code 92 = .ok (.ireturn, 1) := by decide +kernel
set_option maxHeartbeats 4000000 in
set_option maxRecDepth 10000 in
theorem tm_Tu_direction {N : Nat} {T : Nat → tm_S} {w : ab_W} {tu tp im md rl ac rr ma pl tr gu a b : Nat} (hW : tm_W N T w) (h_all : is_All T tu tp im md rl ac rr ma pl tr gu a b) (kn : tm_g w tu 1 = some (ab_R a)) (kt : tm_g w tu 2 = some (ab_R b)) (y1 : Int) (l_y1 : (-2147483648) ≤ y1) (u_y1 : y1 ≤ 2147483647) (y2 : Int) (l_y2 : (-2147483648) ≤ y2) (u_y2 : y2 ≤ 2147483647) : ab_Mt g_G g_rs mt_Tu_direction 3 0 0 [ab_R tu, ab_I y1, ab_I y2] w (tm_P w (fun v => (-2147483648) ≤ v ∧ v ≤ 2147483647)) := by
  obtain ⟨tut0, imt0, mdt0, rlt0, h_tp, h_ac, h_rr, h_ma, hzz⟩ := id h_all
  obtain ⟨h_pl, h_tr, h_gu, h_a, h_b, e_all, e_ab⟩ := hzz
  obtain ⟨tpt0, tpt1⟩ := id h_tp
  obtain ⟨act0, act1, act2, act3⟩ := id h_ac
  obtain ⟨rrt0, rrt1⟩ := id h_rr
  obtain ⟨mat0, mat1⟩ := id h_ma
  obtain ⟨plt0, plt1, plt2, plt3, plt4⟩ := id h_pl
  obtain ⟨trt0, trt1, trt2, trt3, trt4, trt5⟩ := id h_tr
  obtain ⟨gut0, gut1, gut2, gut3⟩ := id h_gu
  obtain ⟨at0, at1, at2, at3, at4, at5, at6, at7, at8, at9, at10, at11, at12⟩ := id h_a
  have ad := is_Ri.d h_a
  obtain ⟨bt0, bt1, bt2, bt3, bt4, bt5, bt6, bt7, bt8, bt9, bt10, bt11, bt12⟩ := id h_b
  have bd := is_Ri.d h_b
  refine ab_Mt.of rfl (Nat.le_of_ble_eq_true rfl) ?_
  show ab_Ev g_G g_rs mt_Tu_direction _ _ _ 0 [some (ab_R tu), some (ab_I y1), some (ab_I y2)] [] _ _
  refine ev_aload_n dt_Tu_direction_0 rfl rfl ?_
  refine tm_getK (K := 1) dt_Tu_direction_1 hW tut0 fl_Tu_19 rfl kn ?_
  refine tm_getI (K := 0) dt_Tu_direction_4 hW at0 fl_Tu_152 rfl rfl (fun v37 kv37 lv37 uv37 => ?_)
  refine ev_if_eq (tgt := 17) dt_Tu_direction_7 (by decide) (by omega) (fun h38 => ?_) (fun h38 => ?_)
  · skip
    refine ev_bipush dt_Tu_direction_17 rfl ?_
    exact ev_ireturn dt_Tu_direction_19 rfl ⟨rfl, _, rfl, by omega⟩
  · skip
    refine ev_iload_n dt_Tu_direction_10 rfl rfl ?_
    refine tm_sp dt_Tu_direction_11 (tm_Tu_isDirection hW (y1) (by omega) (by omega)) kb_Tu_156 sc_Tu_isDirection rfl (Nat.le_of_ble_eq_true rfl) (by decide) (fun v39 hv39 => ?_)
    refine ev_if_ne (tgt := 20) dt_Tu_direction_14 (by decide) (by omega) (fun h40 => ?_) (fun h40 => ?_)
    · skip
      refine ev_iload_n dt_Tu_direction_20 rfl rfl ?_
      rcases (by omega : y2 = 0 ∨ y2 = 1 ∨ y2 = 2 ∨ y2 < 0 ∨ 2 < y2) with c41 | c41 | c41 | c41 | c41
      · skip
        refine ev_tableIn (off := 27) (tgt := 48) dt_Tu_direction_21 (by omega) (by omega) (by omega) (by rw [c41]; rfl) (by decide) ?_
        refine ev_aload_n dt_Tu_direction_48 rfl rfl ?_
        refine tm_getK (K := 1) dt_Tu_direction_49 hW tut0 fl_Tu_19 rfl kn ?_
        refine ev_iload_n dt_Tu_direction_52 rfl rfl ?_
        refine tm_vp dt_Tu_direction_53 (tm_Ri_houseFacing hW h_a (y1) (by omega) (by omega)) kb_Tu_159 ⟨im_Ri_houseFacing, se_Ri_houseFacing⟩ rfl hW at0 rfl (Nat.le_of_ble_eq_true rfl) (by decide) (fun v42 hv42 => ?_)
        exact ev_ireturn dt_Tu_direction_56 rfl ⟨rfl, _, rfl, by omega⟩
      · skip
        refine ev_tableIn (off := 36) (tgt := 57) dt_Tu_direction_21 (by omega) (by omega) (by omega) (by rw [c41]; rfl) (by decide) ?_
        refine ev_aload_n dt_Tu_direction_57 rfl rfl ?_
        refine tm_getK (K := 1) dt_Tu_direction_58 hW tut0 fl_Tu_19 rfl kn ?_
        refine ev_iload_n dt_Tu_direction_61 rfl rfl ?_
        refine tm_vp dt_Tu_direction_62 (tm_Ri_isGate hW h_a (y1) (by omega) (by omega)) kb_Tu_146 ⟨im_Ri_isGate, se_Ri_isGate⟩ rfl hW at0 rfl (Nat.le_of_ble_eq_true rfl) (by decide) (fun v43 hv43 => ?_)
        refine ev_if_eq (tgt := 72) dt_Tu_direction_65 (by decide) (by omega) (fun h44 => ?_) (fun h44 => ?_)
        · skip
          refine ev_iconst dt_Tu_direction_72 ?_
          exact ev_ireturn dt_Tu_direction_73 rfl ⟨rfl, _, rfl, by omega⟩
        · skip
          refine ev_iconst dt_Tu_direction_68 ?_
          refine ev_goto (tgt := 73) dt_Tu_direction_69 (by decide) ?_
          exact ev_ireturn dt_Tu_direction_73 rfl ⟨rfl, _, rfl, by omega⟩
      · skip
        refine ev_tableIn (off := 53) (tgt := 74) dt_Tu_direction_21 (by omega) (by omega) (by omega) (by rw [c41]; rfl) (by decide) ?_
        refine ev_aload_n dt_Tu_direction_74 rfl rfl ?_
        refine tm_getK (K := 1) dt_Tu_direction_75 hW tut0 fl_Tu_19 rfl kn ?_
        refine ev_iload_n dt_Tu_direction_78 rfl rfl ?_
        refine ev_aload_n dt_Tu_direction_79 rfl rfl ?_
        refine tm_getK (K := 1) dt_Tu_direction_80 hW tut0 fl_Tu_19 rfl kn ?_
        refine tm_getI (K := 2) dt_Tu_direction_83 hW at0 fl_Tu_136 rfl rfl (fun v45 kv45 lv45 uv45 => ?_)
        refine tm_vp dt_Tu_direction_86 (tm_Ri_sortsAt hW h_a (y1) (by omega) (by omega) (v45) (by omega) (by omega)) kb_Tu_139 ⟨im_Ri_sortsAt, se_Ri_sortsAt⟩ rfl hW at0 rfl (Nat.le_of_ble_eq_true rfl) (by decide) (fun v46 hv46 => ?_)
        exact ev_ireturn dt_Tu_direction_89 rfl ⟨rfl, _, rfl, by omega⟩
      · skip
        refine ev_tableOut (tgt := 90) dt_Tu_direction_21 (by omega) (by omega) (by decide) ?_
        refine ev_bipush dt_Tu_direction_90 rfl ?_
        exact ev_ireturn dt_Tu_direction_92 rfl ⟨rfl, _, rfl, by omega⟩
      · skip
        refine ev_tableOut (tgt := 90) dt_Tu_direction_21 (by omega) (by omega) (by decide) ?_
        refine ev_bipush dt_Tu_direction_90 rfl ?_
        exact ev_ireturn dt_Tu_direction_92 rfl ⟨rfl, _, rfl, by omega⟩
    · skip
      refine ev_bipush dt_Tu_direction_17 rfl ?_
      exact ev_ireturn dt_Tu_direction_19 rfl ⟨rfl, _, rfl, by omega⟩
theorem dt_Tu_rateOf_0 : decode prog_1_method_8_code 0 = .ok (.aload_n 0, 1) := by decide +kernel
theorem dt_Tu_rateOf_1 : decode prog_1_method_8_code 1 = .ok (.getfield 19, 3) := by decide +kernel
theorem dt_Tu_rateOf_4 : decode prog_1_method_8_code 4 = .ok (.getfield 152, 3) := by decide +kernel
theorem dt_Tu_rateOf_7 : decode prog_1_method_8_code 7 = .ok (.ifCond .eq 22, 3) := by decide +kernel
theorem dt_Tu_rateOf_10 : decode prog_1_method_8_code 10 = .ok (.iload_n 1, 1) := by decide +kernel
theorem dt_Tu_rateOf_11 : decode prog_1_method_8_code 11 = .ok (.invokestatic 162, 3) := by decide +kernel
theorem dt_Tu_rateOf_14 : decode prog_1_method_8_code 14 = .ok (.ifCond .eq 15, 3) := by decide +kernel
theorem dt_Tu_rateOf_17 : decode prog_1_method_8_code 17 = .ok (.aload_n 0, 1) := by decide +kernel
theorem dt_Tu_rateOf_18 : decode prog_1_method_8_code 18 = .ok (.getfield 19, 3) := by decide +kernel
theorem dt_Tu_rateOf_21 : decode prog_1_method_8_code 21 = .ok (.getfield 165, 3) := by decide +kernel
theorem dt_Tu_rateOf_24 : decode prog_1_method_8_code 24 = .ok (.iload_n 1, 1) := by decide +kernel
theorem dt_Tu_rateOf_25 : decode prog_1_method_8_code 25 = .ok (.iaload, 1) := by decide +kernel
theorem dt_Tu_rateOf_26 : decode prog_1_method_8_code 26 = .ok (.goto 6, 3) := by decide +kernel
theorem dt_Tu_rateOf_29 : decode prog_1_method_8_code 29 = .ok (.sipush (-1000), 3) := by decide +kernel
theorem dt_Tu_rateOf_32 : decode prog_1_method_8_code 32 = .ok (.ireturn, 1) := by decide +kernel
set_option maxHeartbeats 4000000 in
set_option maxRecDepth 10000 in
theorem tm_Tu_rateOf {N : Nat} {T : Nat → tm_S} {w : ab_W} {tu tp im md rl ac rr ma pl tr gu a b : Nat} (hW : tm_W N T w) (h_all : is_All T tu tp im md rl ac rr ma pl tr gu a b) (kn : tm_g w tu 1 = some (ab_R a)) (kt : tm_g w tu 2 = some (ab_R b)) (y1 : Int) (l_y1 : (-2147483648) ≤ y1) (u_y1 : y1 ≤ 2147483647) : ab_Mt g_G g_rs mt_Tu_rateOf 1 0 0 [ab_R tu, ab_I y1] w (tm_P w (fun v => (-2147483648) ≤ v ∧ v ≤ 2147483647)) := by
  obtain ⟨tut0, imt0, mdt0, rlt0, h_tp, h_ac, h_rr, h_ma, hzz⟩ := id h_all
  obtain ⟨h_pl, h_tr, h_gu, h_a, h_b, e_all, e_ab⟩ := hzz
  obtain ⟨tpt0, tpt1⟩ := id h_tp
  obtain ⟨act0, act1, act2, act3⟩ := id h_ac
  obtain ⟨rrt0, rrt1⟩ := id h_rr
  obtain ⟨mat0, mat1⟩ := id h_ma
  obtain ⟨plt0, plt1, plt2, plt3, plt4⟩ := id h_pl
  obtain ⟨trt0, trt1, trt2, trt3, trt4, trt5⟩ := id h_tr
  obtain ⟨gut0, gut1, gut2, gut3⟩ := id h_gu
  obtain ⟨at0, at1, at2, at3, at4, at5, at6, at7, at8, at9, at10, at11, at12⟩ := id h_a
  have ad := is_Ri.d h_a
  obtain ⟨bt0, bt1, bt2, bt3, bt4, bt5, bt6, bt7, bt8, bt9, bt10, bt11, bt12⟩ := id h_b
  have bd := is_Ri.d h_b
  refine ab_Mt.of rfl (Nat.le_of_ble_eq_true rfl) ?_
  show ab_Ev g_G g_rs mt_Tu_rateOf _ _ _ 0 [some (ab_R tu), some (ab_I y1)] [] _ _
  refine ev_aload_n dt_Tu_rateOf_0 rfl rfl ?_
  refine tm_getK (K := 1) dt_Tu_rateOf_1 hW tut0 fl_Tu_19 rfl kn ?_
  refine tm_getI (K := 0) dt_Tu_rateOf_4 hW at0 fl_Tu_152 rfl rfl (fun v47 kv47 lv47 uv47 => ?_)
  refine ev_if_eq (tgt := 29) dt_Tu_rateOf_7 (by decide) (by omega) (fun h48 => ?_) (fun h48 => ?_)
  · skip
    refine ev_sipush dt_Tu_rateOf_29 rfl ?_
    exact ev_ireturn dt_Tu_rateOf_32 rfl ⟨rfl, _, rfl, by omega⟩
  · skip
    refine ev_iload_n dt_Tu_rateOf_10 rfl rfl ?_
    refine tm_sp dt_Tu_rateOf_11 (tm_Tu_isHour hW (y1) (by omega) (by omega)) kb_Tu_162 sc_Tu_isHour rfl (Nat.le_of_ble_eq_true rfl) (by decide) (fun v49 hv49 => ?_)
    refine ev_if_eq (tgt := 29) dt_Tu_rateOf_14 (by decide) (by omega) (fun h50 => ?_) (fun h50 => ?_)
    · skip
      refine ev_sipush dt_Tu_rateOf_29 rfl ?_
      exact ev_ireturn dt_Tu_rateOf_32 rfl ⟨rfl, _, rfl, by omega⟩
    · skip
      refine ev_aload_n dt_Tu_rateOf_17 rfl rfl ?_
      refine tm_getK (K := 1) dt_Tu_rateOf_18 hW tut0 fl_Tu_19 rfl kn ?_
      refine tm_getR dt_Tu_rateOf_21 hW at0 fl_Tu_165 rfl ?_
      refine ev_iload_n dt_Tu_rateOf_24 rfl rfl ?_
      refine tm_iaload dt_Tu_rateOf_25 hW at6 (by omega) (by omega) (by omega) (fun v51 kv51 lv51 uv51 => ?_)
      refine ev_goto (tgt := 32) dt_Tu_rateOf_26 (by decide) ?_
      exact ev_ireturn dt_Tu_rateOf_32 rfl ⟨rfl, _, rfl, by omega⟩
theorem dt_Tu_worn_0 : decode prog_1_method_9_code 0 = .ok (.aload_n 0, 1) := by decide +kernel
theorem dt_Tu_worn_1 : decode prog_1_method_9_code 1 = .ok (.getfield 19, 3) := by decide +kernel
theorem dt_Tu_worn_4 : decode prog_1_method_9_code 4 = .ok (.getfield 152, 3) := by decide +kernel
theorem dt_Tu_worn_7 : decode prog_1_method_9_code 7 = .ok (.ifCond .eq 22, 3) := by decide +kernel
theorem dt_Tu_worn_10 : decode prog_1_method_9_code 10 = .ok (.iload_n 1, 1) := by decide +kernel
theorem dt_Tu_worn_11 : decode prog_1_method_9_code 11 = .ok (.invokestatic 156, 3) := by decide +kernel
theorem dt_Tu_worn_14 : decode prog_1_method_9_code 14 = .ok (.ifCond .eq 15, 3) := by decide +kernel
theorem dt_Tu_worn_17 : decode prog_1_method_9_code 17 = .ok (.aload_n 0, 1) := by decide +kernel
theorem dt_Tu_worn_18 : decode prog_1_method_9_code 18 = .ok (.getfield 19, 3) := by decide +kernel
theorem dt_Tu_worn_21 : decode prog_1_method_9_code 21 = .ok (.getfield 168, 3) := by decide +kernel
theorem dt_Tu_worn_24 : decode prog_1_method_9_code 24 = .ok (.iload_n 1, 1) := by decide +kernel
theorem dt_Tu_worn_25 : decode prog_1_method_9_code 25 = .ok (.iaload, 1) := by decide +kernel
theorem dt_Tu_worn_26 : decode prog_1_method_9_code 26 = .ok (.goto 4, 3) := by decide +kernel
theorem dt_Tu_worn_29 : decode prog_1_method_9_code 29 = .ok (.iconst (-1), 1) := by decide +kernel
theorem dt_Tu_worn_30 : decode prog_1_method_9_code 30 = .ok (.ireturn, 1) := by decide +kernel
set_option maxHeartbeats 4000000 in
set_option maxRecDepth 10000 in
theorem tm_Tu_worn {N : Nat} {T : Nat → tm_S} {w : ab_W} {tu tp im md rl ac rr ma pl tr gu a b : Nat} (hW : tm_W N T w) (h_all : is_All T tu tp im md rl ac rr ma pl tr gu a b) (kn : tm_g w tu 1 = some (ab_R a)) (kt : tm_g w tu 2 = some (ab_R b)) (y1 : Int) (l_y1 : (-2147483648) ≤ y1) (u_y1 : y1 ≤ 2147483647) : ab_Mt g_G g_rs mt_Tu_worn 1 0 0 [ab_R tu, ab_I y1] w (tm_P w (fun v => (-2147483648) ≤ v ∧ v ≤ 2147483647)) := by
  obtain ⟨tut0, imt0, mdt0, rlt0, h_tp, h_ac, h_rr, h_ma, hzz⟩ := id h_all
  obtain ⟨h_pl, h_tr, h_gu, h_a, h_b, e_all, e_ab⟩ := hzz
  obtain ⟨tpt0, tpt1⟩ := id h_tp
  obtain ⟨act0, act1, act2, act3⟩ := id h_ac
  obtain ⟨rrt0, rrt1⟩ := id h_rr
  obtain ⟨mat0, mat1⟩ := id h_ma
  obtain ⟨plt0, plt1, plt2, plt3, plt4⟩ := id h_pl
  obtain ⟨trt0, trt1, trt2, trt3, trt4, trt5⟩ := id h_tr
  obtain ⟨gut0, gut1, gut2, gut3⟩ := id h_gu
  obtain ⟨at0, at1, at2, at3, at4, at5, at6, at7, at8, at9, at10, at11, at12⟩ := id h_a
  have ad := is_Ri.d h_a
  obtain ⟨bt0, bt1, bt2, bt3, bt4, bt5, bt6, bt7, bt8, bt9, bt10, bt11, bt12⟩ := id h_b
  have bd := is_Ri.d h_b
  refine ab_Mt.of rfl (Nat.le_of_ble_eq_true rfl) ?_
  show ab_Ev g_G g_rs mt_Tu_worn _ _ _ 0 [some (ab_R tu), some (ab_I y1)] [] _ _
  refine ev_aload_n dt_Tu_worn_0 rfl rfl ?_
  refine tm_getK (K := 1) dt_Tu_worn_1 hW tut0 fl_Tu_19 rfl kn ?_
  refine tm_getI (K := 0) dt_Tu_worn_4 hW at0 fl_Tu_152 rfl rfl (fun v52 kv52 lv52 uv52 => ?_)
  refine ev_if_eq (tgt := 29) dt_Tu_worn_7 (by decide) (by omega) (fun h53 => ?_) (fun h53 => ?_)
  · skip
    refine ev_iconst dt_Tu_worn_29 ?_
    exact ev_ireturn dt_Tu_worn_30 rfl ⟨rfl, _, rfl, by omega⟩
  · skip
    refine ev_iload_n dt_Tu_worn_10 rfl rfl ?_
    refine tm_sp dt_Tu_worn_11 (tm_Tu_isDirection hW (y1) (by omega) (by omega)) kb_Tu_156 sc_Tu_isDirection rfl (Nat.le_of_ble_eq_true rfl) (by decide) (fun v54 hv54 => ?_)
    refine ev_if_eq (tgt := 29) dt_Tu_worn_14 (by decide) (by omega) (fun h55 => ?_) (fun h55 => ?_)
    · skip
      refine ev_iconst dt_Tu_worn_29 ?_
      exact ev_ireturn dt_Tu_worn_30 rfl ⟨rfl, _, rfl, by omega⟩
    · skip
      refine ev_aload_n dt_Tu_worn_17 rfl rfl ?_
      refine tm_getK (K := 1) dt_Tu_worn_18 hW tut0 fl_Tu_19 rfl kn ?_
      refine tm_getR dt_Tu_worn_21 hW at0 fl_Tu_168 rfl ?_
      refine ev_iload_n dt_Tu_worn_24 rfl rfl ?_
      refine tm_iaload dt_Tu_worn_25 hW at7 (by omega) (by omega) (by omega) (fun v56 kv56 lv56 uv56 => ?_)
      refine ev_goto (tgt := 30) dt_Tu_worn_26 (by decide) ?_
      exact ev_ireturn dt_Tu_worn_30 rfl ⟨rfl, _, rfl, by omega⟩
theorem dt_Tu_count_0 : decode prog_1_method_10_code 0 = .ok (.iload_n 1, 1) := by decide +kernel
theorem dt_Tu_count_1 : decode prog_1_method_10_code 1 = .ok (.tableswitch 217 0 14 #[75, 83, 91, 99, 104, 112, 120, 128, 150, 166, 174, 185, 193, 201, 209], 75) := by decide +kernel
theorem dt_Tu_count_76 : decode prog_1_method_10_code 76 = .ok (.aload_n 0, 1) := by decide +kernel
theorem dt_Tu_count_77 : decode prog_1_method_10_code 77 = .ok (.getfield 19, 3) := by decide +kernel
theorem dt_Tu_count_80 : decode prog_1_method_10_code 80 = .ok (.getfield 102, 3) := by decide +kernel
theorem dt_Tu_count_83 : decode prog_1_method_10_code 83 = .ok (.ireturn, 1) := by decide +kernel
theorem dt_Tu_count_84 : decode prog_1_method_10_code 84 = .ok (.aload_n 0, 1) := by decide +kernel
theorem dt_Tu_count_85 : decode prog_1_method_10_code 85 = .ok (.getfield 19, 3) := by decide +kernel
theorem dt_Tu_count_88 : decode prog_1_method_10_code 88 = .ok (.getfield 171, 3) := by decide +kernel
theorem dt_Tu_count_91 : decode prog_1_method_10_code 91 = .ok (.ireturn, 1) := by decide +kernel
theorem dt_Tu_count_92 : decode prog_1_method_10_code 92 = .ok (.aload_n 0, 1) := by decide +kernel
theorem dt_Tu_count_93 : decode prog_1_method_10_code 93 = .ok (.getfield 19, 3) := by decide +kernel
theorem dt_Tu_count_96 : decode prog_1_method_10_code 96 = .ok (.getfield 174, 3) := by decide +kernel
theorem dt_Tu_count_99 : decode prog_1_method_10_code 99 = .ok (.ireturn, 1) := by decide +kernel
theorem dt_Tu_count_100 : decode prog_1_method_10_code 100 = .ok (.aload_n 0, 1) := by decide +kernel
theorem dt_Tu_count_101 : decode prog_1_method_10_code 101 = .ok (.getfield 105, 3) := by decide +kernel
theorem dt_Tu_count_104 : decode prog_1_method_10_code 104 = .ok (.ireturn, 1) := by decide +kernel
theorem dt_Tu_count_105 : decode prog_1_method_10_code 105 = .ok (.aload_n 0, 1) := by decide +kernel
theorem dt_Tu_count_106 : decode prog_1_method_10_code 106 = .ok (.getfield 19, 3) := by decide +kernel
theorem dt_Tu_count_109 : decode prog_1_method_10_code 109 = .ok (.getfield 177, 3) := by decide +kernel
theorem dt_Tu_count_112 : decode prog_1_method_10_code 112 = .ok (.ireturn, 1) := by decide +kernel
theorem dt_Tu_count_113 : decode prog_1_method_10_code 113 = .ok (.aload_n 0, 1) := by decide +kernel
theorem dt_Tu_count_114 : decode prog_1_method_10_code 114 = .ok (.getfield 19, 3) := by decide +kernel
theorem dt_Tu_count_117 : decode prog_1_method_10_code 117 = .ok (.getfield 136, 3) := by decide +kernel
theorem dt_Tu_count_120 : decode prog_1_method_10_code 120 = .ok (.ireturn, 1) := by decide +kernel
theorem dt_Tu_count_121 : decode prog_1_method_10_code 121 = .ok (.aload_n 0, 1) := by decide +kernel
theorem dt_Tu_count_122 : decode prog_1_method_10_code 122 = .ok (.getfield 19, 3) := by decide +kernel
theorem dt_Tu_count_125 : decode prog_1_method_10_code 125 = .ok (.getfield 180, 3) := by decide +kernel
theorem dt_Tu_count_128 : decode prog_1_method_10_code 128 = .ok (.ireturn, 1) := by decide +kernel
theorem dt_Tu_count_129 : decode prog_1_method_10_code 129 = .ok (.aload_n 0, 1) := by decide +kernel
theorem dt_Tu_count_130 : decode prog_1_method_10_code 130 = .ok (.getfield 19, 3) := by decide +kernel
theorem dt_Tu_count_133 : decode prog_1_method_10_code 133 = .ok (.aload_n 0, 1) := by decide +kernel
theorem dt_Tu_count_134 : decode prog_1_method_10_code 134 = .ok (.getfield 19, 3) := by decide +kernel
theorem dt_Tu_count_137 : decode prog_1_method_10_code 137 = .ok (.getfield 177, 3) := by decide +kernel
theorem dt_Tu_count_140 : decode prog_1_method_10_code 140 = .ok (.aload_n 0, 1) := by decide +kernel
theorem dt_Tu_count_141 : decode prog_1_method_10_code 141 = .ok (.getfield 19, 3) := by decide +kernel
theorem dt_Tu_count_144 : decode prog_1_method_10_code 144 = .ok (.getfield 136, 3) := by decide +kernel
theorem dt_Tu_count_147 : decode prog_1_method_10_code 147 = .ok (.invokevirtual 183, 3) := by decide +kernel
theorem dt_Tu_count_150 : decode prog_1_method_10_code 150 = .ok (.ireturn, 1) := by decide +kernel
theorem dt_Tu_count_151 : decode prog_1_method_10_code 151 = .ok (.aload_n 0, 1) := by decide +kernel
theorem dt_Tu_count_152 : decode prog_1_method_10_code 152 = .ok (.getfield 19, 3) := by decide +kernel
theorem dt_Tu_count_155 : decode prog_1_method_10_code 155 = .ok (.getfield 186, 3) := by decide +kernel
theorem dt_Tu_count_158 : decode prog_1_method_10_code 158 = .ok (.ifCond .eq 7, 3) := by decide +kernel
theorem dt_Tu_count_161 : decode prog_1_method_10_code 161 = .ok (.iconst 1, 1) := by decide +kernel
theorem dt_Tu_count_162 : decode prog_1_method_10_code 162 = .ok (.goto 4, 3) := by decide +kernel
theorem dt_Tu_count_165 : decode prog_1_method_10_code 165 = .ok (.iconst 0, 1) := by decide +kernel
theorem dt_Tu_count_166 : decode prog_1_method_10_code 166 = .ok (.ireturn, 1) := by decide +kernel
theorem dt_Tu_count_167 : decode prog_1_method_10_code 167 = .ok (.aload_n 0, 1) := by decide +kernel
theorem dt_Tu_count_168 : decode prog_1_method_10_code 168 = .ok (.getfield 19, 3) := by decide +kernel
theorem dt_Tu_count_171 : decode prog_1_method_10_code 171 = .ok (.getfield 189, 3) := by decide +kernel
theorem dt_Tu_count_174 : decode prog_1_method_10_code 174 = .ok (.ireturn, 1) := by decide +kernel
theorem dt_Tu_count_175 : decode prog_1_method_10_code 175 = .ok (.aload_n 0, 1) := by decide +kernel
theorem dt_Tu_count_176 : decode prog_1_method_10_code 176 = .ok (.getfield 19, 3) := by decide +kernel
theorem dt_Tu_count_179 : decode prog_1_method_10_code 179 = .ok (.getfield 192, 3) := by decide +kernel
theorem dt_Tu_count_182 : decode prog_1_method_10_code 182 = .ok (.getfield 196, 3) := by decide +kernel
theorem dt_Tu_count_185 : decode prog_1_method_10_code 185 = .ok (.ireturn, 1) := by decide +kernel
theorem dt_Tu_count_186 : decode prog_1_method_10_code 186 = .ok (.aload_n 0, 1) := by decide +kernel
theorem dt_Tu_count_187 : decode prog_1_method_10_code 187 = .ok (.getfield 43, 3) := by decide +kernel
theorem dt_Tu_count_190 : decode prog_1_method_10_code 190 = .ok (.getfield 201, 3) := by decide +kernel
theorem dt_Tu_count_193 : decode prog_1_method_10_code 193 = .ok (.ireturn, 1) := by decide +kernel
theorem dt_Tu_count_194 : decode prog_1_method_10_code 194 = .ok (.aload_n 0, 1) := by decide +kernel
theorem dt_Tu_count_195 : decode prog_1_method_10_code 195 = .ok (.getfield 19, 3) := by decide +kernel
theorem dt_Tu_count_198 : decode prog_1_method_10_code 198 = .ok (.getfield 96, 3) := by decide +kernel
theorem dt_Tu_count_201 : decode prog_1_method_10_code 201 = .ok (.ireturn, 1) := by decide +kernel
theorem dt_Tu_count_202 : decode prog_1_method_10_code 202 = .ok (.aload_n 0, 1) := by decide +kernel
theorem dt_Tu_count_203 : decode prog_1_method_10_code 203 = .ok (.getfield 10, 3) := by decide +kernel
theorem dt_Tu_count_206 : decode prog_1_method_10_code 206 = .ok (.getfield 82, 3) := by decide +kernel
theorem dt_Tu_count_209 : decode prog_1_method_10_code 209 = .ok (.ireturn, 1) := by decide +kernel
theorem dt_Tu_count_210 : decode prog_1_method_10_code 210 = .ok (.aload_n 0, 1) := by decide +kernel
theorem dt_Tu_count_211 : decode prog_1_method_10_code 211 = .ok (.getfield 19, 3) := by decide +kernel
theorem dt_Tu_count_214 : decode prog_1_method_10_code 214 = .ok (.invokevirtual 204, 3) := by decide +kernel
theorem dt_Tu_count_217 : decode prog_1_method_10_code 217 = .ok (.ireturn, 1) := by decide +kernel
theorem dt_Tu_count_218 : decode prog_1_method_10_code 218 = .ok (.ldc 208, 2) := by decide +kernel
theorem dt_Tu_count_220 : decode prog_1_method_10_code 220 = .ok (.ireturn, 1) := by decide +kernel
set_option maxHeartbeats 4000000 in
set_option maxRecDepth 10000 in
theorem tm_Tu_count {N : Nat} {T : Nat → tm_S} {w : ab_W} {tu tp im md rl ac rr ma pl tr gu a b : Nat} (hW : tm_W N T w) (h_all : is_All T tu tp im md rl ac rr ma pl tr gu a b) (kn : tm_g w tu 1 = some (ab_R a)) (kt : tm_g w tu 2 = some (ab_R b)) (y1 : Int) (l_y1 : (-2147483648) ≤ y1) (u_y1 : y1 ≤ 2147483647) : ab_Mt g_G g_rs mt_Tu_count 3 0 0 [ab_R tu, ab_I y1] w (tm_P w (fun v => (-2147483648) ≤ v ∧ v ≤ 2147483647)) := by
  obtain ⟨tut0, imt0, mdt0, rlt0, h_tp, h_ac, h_rr, h_ma, hzz⟩ := id h_all
  obtain ⟨h_pl, h_tr, h_gu, h_a, h_b, e_all, e_ab⟩ := hzz
  obtain ⟨tpt0, tpt1⟩ := id h_tp
  obtain ⟨act0, act1, act2, act3⟩ := id h_ac
  obtain ⟨rrt0, rrt1⟩ := id h_rr
  obtain ⟨mat0, mat1⟩ := id h_ma
  obtain ⟨plt0, plt1, plt2, plt3, plt4⟩ := id h_pl
  obtain ⟨trt0, trt1, trt2, trt3, trt4, trt5⟩ := id h_tr
  obtain ⟨gut0, gut1, gut2, gut3⟩ := id h_gu
  obtain ⟨at0, at1, at2, at3, at4, at5, at6, at7, at8, at9, at10, at11, at12⟩ := id h_a
  have ad := is_Ri.d h_a
  obtain ⟨bt0, bt1, bt2, bt3, bt4, bt5, bt6, bt7, bt8, bt9, bt10, bt11, bt12⟩ := id h_b
  have bd := is_Ri.d h_b
  refine ab_Mt.of rfl (Nat.le_of_ble_eq_true rfl) ?_
  show ab_Ev g_G g_rs mt_Tu_count _ _ _ 0 [some (ab_R tu), some (ab_I y1)] [] _ _
  refine ev_iload_n dt_Tu_count_0 rfl rfl ?_
  rcases (by omega : y1 = 0 ∨ y1 = 1 ∨ y1 = 2 ∨ y1 = 3 ∨ y1 = 4 ∨ y1 = 5 ∨ y1 = 6 ∨ y1 = 7 ∨ y1 = 8 ∨ y1 = 9 ∨ y1 = 10 ∨ y1 = 11 ∨ y1 = 12 ∨ y1 = 13 ∨ y1 = 14 ∨ y1 < 0 ∨ 14 < y1) with c57 | c57 | c57 | c57 | c57 | c57 | c57 | c57 | c57 | c57 | c57 | c57 | c57 | c57 | c57 | c57 | c57
  · skip
    refine ev_tableIn (off := 75) (tgt := 76) dt_Tu_count_1 (by omega) (by omega) (by omega) (by rw [c57]; rfl) (by decide) ?_
    refine ev_aload_n dt_Tu_count_76 rfl rfl ?_
    refine tm_getK (K := 1) dt_Tu_count_77 hW tut0 fl_Tu_19 rfl kn ?_
    refine tm_getI (K := 7) dt_Tu_count_80 hW at0 fl_Tu_102 rfl rfl (fun v58 kv58 lv58 uv58 => ?_)
    exact ev_ireturn dt_Tu_count_83 rfl ⟨rfl, _, rfl, by omega⟩
  · skip
    refine ev_tableIn (off := 83) (tgt := 84) dt_Tu_count_1 (by omega) (by omega) (by omega) (by rw [c57]; rfl) (by decide) ?_
    refine ev_aload_n dt_Tu_count_84 rfl rfl ?_
    refine tm_getK (K := 1) dt_Tu_count_85 hW tut0 fl_Tu_19 rfl kn ?_
    refine tm_getI (K := 8) dt_Tu_count_88 hW at0 fl_Tu_171 rfl rfl (fun v59 kv59 lv59 uv59 => ?_)
    exact ev_ireturn dt_Tu_count_91 rfl ⟨rfl, _, rfl, by omega⟩
  · skip
    refine ev_tableIn (off := 91) (tgt := 92) dt_Tu_count_1 (by omega) (by omega) (by omega) (by rw [c57]; rfl) (by decide) ?_
    refine ev_aload_n dt_Tu_count_92 rfl rfl ?_
    refine tm_getK (K := 1) dt_Tu_count_93 hW tut0 fl_Tu_19 rfl kn ?_
    refine tm_getI (K := 9) dt_Tu_count_96 hW at0 fl_Tu_174 rfl rfl (fun v60 kv60 lv60 uv60 => ?_)
    exact ev_ireturn dt_Tu_count_99 rfl ⟨rfl, _, rfl, by omega⟩
  · skip
    refine ev_tableIn (off := 99) (tgt := 100) dt_Tu_count_1 (by omega) (by omega) (by omega) (by rw [c57]; rfl) (by decide) ?_
    refine ev_aload_n dt_Tu_count_100 rfl rfl ?_
    refine tm_getI (K := 6) dt_Tu_count_101 hW tut0 fl_Tu_105 rfl rfl (fun v61 kv61 lv61 uv61 => ?_)
    exact ev_ireturn dt_Tu_count_104 rfl ⟨rfl, _, rfl, by omega⟩
  · skip
    refine ev_tableIn (off := 104) (tgt := 105) dt_Tu_count_1 (by omega) (by omega) (by omega) (by rw [c57]; rfl) (by decide) ?_
    refine ev_aload_n dt_Tu_count_105 rfl rfl ?_
    refine tm_getK (K := 1) dt_Tu_count_106 hW tut0 fl_Tu_19 rfl kn ?_
    refine tm_getI (K := 1) dt_Tu_count_109 hW at0 fl_Tu_177 rfl rfl (fun v62 kv62 lv62 uv62 => ?_)
    exact ev_ireturn dt_Tu_count_112 rfl ⟨rfl, _, rfl, by omega⟩
  · skip
    refine ev_tableIn (off := 112) (tgt := 113) dt_Tu_count_1 (by omega) (by omega) (by omega) (by rw [c57]; rfl) (by decide) ?_
    refine ev_aload_n dt_Tu_count_113 rfl rfl ?_
    refine tm_getK (K := 1) dt_Tu_count_114 hW tut0 fl_Tu_19 rfl kn ?_
    refine tm_getI (K := 2) dt_Tu_count_117 hW at0 fl_Tu_136 rfl rfl (fun v63 kv63 lv63 uv63 => ?_)
    exact ev_ireturn dt_Tu_count_120 rfl ⟨rfl, _, rfl, by omega⟩
  · skip
    refine ev_tableIn (off := 120) (tgt := 121) dt_Tu_count_1 (by omega) (by omega) (by omega) (by rw [c57]; rfl) (by decide) ?_
    refine ev_aload_n dt_Tu_count_121 rfl rfl ?_
    refine tm_getK (K := 1) dt_Tu_count_122 hW tut0 fl_Tu_19 rfl kn ?_
    refine tm_getI (K := 3) dt_Tu_count_125 hW at0 fl_Tu_180 rfl rfl (fun v64 kv64 lv64 uv64 => ?_)
    exact ev_ireturn dt_Tu_count_128 rfl ⟨rfl, _, rfl, by omega⟩
  · skip
    refine ev_tableIn (off := 128) (tgt := 129) dt_Tu_count_1 (by omega) (by omega) (by omega) (by rw [c57]; rfl) (by decide) ?_
    refine ev_aload_n dt_Tu_count_129 rfl rfl ?_
    refine tm_getK (K := 1) dt_Tu_count_130 hW tut0 fl_Tu_19 rfl kn ?_
    refine ev_aload_n dt_Tu_count_133 rfl rfl ?_
    refine tm_getK (K := 1) dt_Tu_count_134 hW tut0 fl_Tu_19 rfl kn ?_
    refine tm_getI (K := 1) dt_Tu_count_137 hW at0 fl_Tu_177 rfl rfl (fun v65 kv65 lv65 uv65 => ?_)
    refine ev_aload_n dt_Tu_count_140 rfl rfl ?_
    refine tm_getK (K := 1) dt_Tu_count_141 hW tut0 fl_Tu_19 rfl kn ?_
    refine tm_getI (K := 2) dt_Tu_count_144 hW at0 fl_Tu_136 rfl rfl (fun v66 kv66 lv66 uv66 => ?_)
    refine tm_vp dt_Tu_count_147 (tm_Ri_allLike hW h_a (v65) (by omega) (by omega) (v66) (by omega) (by omega)) kb_Tu_183 ⟨im_Ri_allLike, se_Ri_allLike⟩ rfl hW at0 rfl (Nat.le_of_ble_eq_true rfl) (by decide) (fun v67 hv67 => ?_)
    exact ev_ireturn dt_Tu_count_150 rfl ⟨rfl, _, rfl, by omega⟩
  · skip
    refine ev_tableIn (off := 150) (tgt := 151) dt_Tu_count_1 (by omega) (by omega) (by omega) (by rw [c57]; rfl) (by decide) ?_
    refine ev_aload_n dt_Tu_count_151 rfl rfl ?_
    refine tm_getK (K := 1) dt_Tu_count_152 hW tut0 fl_Tu_19 rfl kn ?_
    refine tm_getI (K := 4) dt_Tu_count_155 hW at0 fl_Tu_186 rfl rfl (fun v68 kv68 lv68 uv68 => ?_)
    refine ev_if_eq (tgt := 165) dt_Tu_count_158 (by decide) (by omega) (fun h69 => ?_) (fun h69 => ?_)
    · skip
      refine ev_iconst dt_Tu_count_165 ?_
      exact ev_ireturn dt_Tu_count_166 rfl ⟨rfl, _, rfl, by omega⟩
    · skip
      refine ev_iconst dt_Tu_count_161 ?_
      refine ev_goto (tgt := 166) dt_Tu_count_162 (by decide) ?_
      exact ev_ireturn dt_Tu_count_166 rfl ⟨rfl, _, rfl, by omega⟩
  · skip
    refine ev_tableIn (off := 166) (tgt := 167) dt_Tu_count_1 (by omega) (by omega) (by omega) (by rw [c57]; rfl) (by decide) ?_
    refine ev_aload_n dt_Tu_count_167 rfl rfl ?_
    refine tm_getK (K := 1) dt_Tu_count_168 hW tut0 fl_Tu_19 rfl kn ?_
    refine tm_getI (K := 5) dt_Tu_count_171 hW at0 fl_Tu_189 rfl rfl (fun v70 kv70 lv70 uv70 => ?_)
    exact ev_ireturn dt_Tu_count_174 rfl ⟨rfl, _, rfl, by omega⟩
  · skip
    refine ev_tableIn (off := 174) (tgt := 175) dt_Tu_count_1 (by omega) (by omega) (by omega) (by rw [c57]; rfl) (by decide) ?_
    refine ev_aload_n dt_Tu_count_175 rfl rfl ?_
    refine tm_getK (K := 1) dt_Tu_count_176 hW tut0 fl_Tu_19 rfl kn ?_
    refine tm_getR dt_Tu_count_179 hW at0 fl_Tu_192 rfl ?_
    refine tm_getI (K := 0) dt_Tu_count_182 hW at8 fl_Tu_196 rfl rfl (fun v71 kv71 lv71 uv71 => ?_)
    exact ev_ireturn dt_Tu_count_185 rfl ⟨rfl, _, rfl, by omega⟩
  · skip
    refine ev_tableIn (off := 185) (tgt := 186) dt_Tu_count_1 (by omega) (by omega) (by omega) (by rw [c57]; rfl) (by decide) ?_
    refine ev_aload_n dt_Tu_count_186 rfl rfl ?_
    refine tm_getR dt_Tu_count_187 hW tut0 fl_Tu_43 rfl ?_
    refine tm_getI (K := 3) dt_Tu_count_190 hW act0 fl_Tu_201 rfl rfl (fun v72 kv72 lv72 uv72 => ?_)
    exact ev_ireturn dt_Tu_count_193 rfl ⟨rfl, _, rfl, by omega⟩
  · skip
    refine ev_tableIn (off := 193) (tgt := 194) dt_Tu_count_1 (by omega) (by omega) (by omega) (by rw [c57]; rfl) (by decide) ?_
    refine ev_aload_n dt_Tu_count_194 rfl rfl ?_
    refine tm_getK (K := 1) dt_Tu_count_195 hW tut0 fl_Tu_19 rfl kn ?_
    refine tm_getI (K := 6) dt_Tu_count_198 hW at0 fl_Tu_96 rfl rfl (fun v73 kv73 lv73 uv73 => ?_)
    exact ev_ireturn dt_Tu_count_201 rfl ⟨rfl, _, rfl, by omega⟩
  · skip
    refine ev_tableIn (off := 201) (tgt := 202) dt_Tu_count_1 (by omega) (by omega) (by omega) (by rw [c57]; rfl) (by decide) ?_
    refine ev_aload_n dt_Tu_count_202 rfl rfl ?_
    refine tm_getR dt_Tu_count_203 hW tut0 fl_Tu_10 rfl ?_
    refine tm_getI (K := 1) dt_Tu_count_206 hW tpt0 fl_Tu_82 rfl rfl (fun v74 kv74 lv74 uv74 => ?_)
    exact ev_ireturn dt_Tu_count_209 rfl ⟨rfl, _, rfl, by omega⟩
  · skip
    refine ev_tableIn (off := 209) (tgt := 210) dt_Tu_count_1 (by omega) (by omega) (by omega) (by rw [c57]; rfl) (by decide) ?_
    refine ev_aload_n dt_Tu_count_210 rfl rfl ?_
    refine tm_getK (K := 1) dt_Tu_count_211 hW tut0 fl_Tu_19 rfl kn ?_
    refine tm_vp dt_Tu_count_214 (tm_Ri_allVotes hW h_a) kb_Tu_204 ⟨im_Ri_allVotes, se_Ri_allVotes⟩ rfl hW at0 rfl (Nat.le_of_ble_eq_true rfl) (by decide) (fun v75 hv75 => ?_)
    exact ev_ireturn dt_Tu_count_217 rfl ⟨rfl, _, rfl, by omega⟩
  · skip
    refine ev_tableOut (tgt := 218) dt_Tu_count_1 (by omega) (by omega) (by decide) ?_
    refine ev_ldc (n := -100000) dt_Tu_count_218 cn_Tu_208 rfl ?_
    exact ev_ireturn dt_Tu_count_220 rfl ⟨rfl, _, rfl, by omega⟩
  · skip
    refine ev_tableOut (tgt := 218) dt_Tu_count_1 (by omega) (by omega) (by decide) ?_
    refine ev_ldc (n := -100000) dt_Tu_count_218 cn_Tu_208 rfl ?_
    exact ev_ireturn dt_Tu_count_220 rfl ⟨rfl, _, rfl, by omega⟩
theorem dt_Tu_faces_0 : decode prog_1_method_20_code 0 = .ok (.aload_n 0, 1) := by decide +kernel
theorem dt_Tu_faces_1 : decode prog_1_method_20_code 1 = .ok (.iload_n 1, 1) := by decide +kernel
theorem dt_Tu_faces_2 : decode prog_1_method_20_code 2 = .ok (.invokevirtual 118, 3) := by decide +kernel
theorem dt_Tu_faces_5 : decode prog_1_method_20_code 5 = .ok (.ifCond .eq 14, 3) := by decide +kernel
theorem dt_Tu_faces_8 : decode prog_1_method_20_code 8 = .ok (.iload_n 2, 1) := by decide +kernel
theorem dt_Tu_faces_9 : decode prog_1_method_20_code 9 = .ok (.ifCond .lt 10, 3) := by decide +kernel
theorem dt_Tu_faces_12 : decode prog_1_method_20_code 12 = .ok (.iload_n 2, 1) := by decide +kernel
theorem dt_Tu_faces_13 : decode prog_1_method_20_code 13 = .ok (.sipush 200, 3) := by decide +kernel
theorem dt_Tu_faces_16 : decode prog_1_method_20_code 16 = .ok (.if_icmp .le 5, 3) := by decide +kernel
theorem dt_Tu_faces_19 : decode prog_1_method_20_code 19 = .ok (.iconst (-1), 1) := by decide +kernel
theorem dt_Tu_faces_20 : decode prog_1_method_20_code 20 = .ok (.ireturn, 1) := by decide +kernel
theorem dt_Tu_faces_21 : decode prog_1_method_20_code 21 = .ok (.aload_n 0, 1) := by decide +kernel
theorem dt_Tu_faces_22 : decode prog_1_method_20_code 22 = .ok (.getfield 19, 3) := by decide +kernel
theorem dt_Tu_faces_25 : decode prog_1_method_20_code 25 = .ok (.getfield 126, 3) := by decide +kernel
theorem dt_Tu_faces_28 : decode prog_1_method_20_code 28 = .ok (.iload_n 1, 1) := by decide +kernel
theorem dt_Tu_faces_29 : decode prog_1_method_20_code 29 = .ok (.iaload, 1) := by decide +kernel
theorem dt_Tu_faces_30 : decode prog_1_method_20_code 30 = .ok (.aload_n 0, 1) := by decide +kernel
theorem dt_Tu_faces_31 : decode prog_1_method_20_code 31 = .ok (.getfield 19, 3) := by decide +kernel
theorem dt_Tu_faces_34 : decode prog_1_method_20_code 34 = .ok (.iload_n 2, 1) := by decide +kernel
theorem dt_Tu_faces_35 : decode prog_1_method_20_code 35 = .ok (.invokevirtual 241, 3) := by decide +kernel
theorem dt_Tu_faces_38 : decode prog_1_method_20_code 38 = .ok (.invokestatic 244, 3) := by decide +kernel
theorem dt_Tu_faces_41 : decode prog_1_method_20_code 41 = .ok (.ireturn, 1) := by decide +kernel
set_option maxHeartbeats 4000000 in
set_option maxRecDepth 10000 in
theorem tm_Tu_faces {N : Nat} {T : Nat → tm_S} {w : ab_W} {tu tp im md rl ac rr ma pl tr gu a b : Nat} (hW : tm_W N T w) (h_all : is_All T tu tp im md rl ac rr ma pl tr gu a b) (kn : tm_g w tu 1 = some (ab_R a)) (kt : tm_g w tu 2 = some (ab_R b)) (y1 : Int) (l_y1 : (-2147483648) ≤ y1) (u_y1 : y1 ≤ 2147483647) (y2 : Int) (l_y2 : (-2147483648) ≤ y2) (u_y2 : y2 ≤ 2147483647) : ab_Mt g_G g_rs mt_Tu_faces 3 0 0 [ab_R tu, ab_I y1, ab_I y2] w (tm_P w (fun v => (-2147483648) ≤ v ∧ v ≤ 2147483647)) := by
  obtain ⟨tut0, imt0, mdt0, rlt0, h_tp, h_ac, h_rr, h_ma, hzz⟩ := id h_all
  obtain ⟨h_pl, h_tr, h_gu, h_a, h_b, e_all, e_ab⟩ := hzz
  obtain ⟨tpt0, tpt1⟩ := id h_tp
  obtain ⟨act0, act1, act2, act3⟩ := id h_ac
  obtain ⟨rrt0, rrt1⟩ := id h_rr
  obtain ⟨mat0, mat1⟩ := id h_ma
  obtain ⟨plt0, plt1, plt2, plt3, plt4⟩ := id h_pl
  obtain ⟨trt0, trt1, trt2, trt3, trt4, trt5⟩ := id h_tr
  obtain ⟨gut0, gut1, gut2, gut3⟩ := id h_gu
  obtain ⟨at0, at1, at2, at3, at4, at5, at6, at7, at8, at9, at10, at11, at12⟩ := id h_a
  have ad := is_Ri.d h_a
  obtain ⟨bt0, bt1, bt2, bt3, bt4, bt5, bt6, bt7, bt8, bt9, bt10, bt11, bt12⟩ := id h_b
  have bd := is_Ri.d h_b
  refine ab_Mt.of rfl (Nat.le_of_ble_eq_true rfl) ?_
  show ab_Ev g_G g_rs mt_Tu_faces _ _ _ 0 [some (ab_R tu), some (ab_I y1), some (ab_I y2)] [] _ _
  refine ev_aload_n dt_Tu_faces_0 rfl rfl ?_
  refine ev_iload_n dt_Tu_faces_1 rfl rfl ?_
  refine tm_vp dt_Tu_faces_2 (tm_Tu_hasHouse hW h_all kn kt (y1) (by omega) (by omega)) kb_Tu_118 ⟨im_Tu_hasHouse, se_Tu_hasHouse⟩ rfl hW tut0 rfl (Nat.le_of_ble_eq_true rfl) (by decide) (fun v76 hv76 => ?_)
  refine ev_if_eq (tgt := 19) dt_Tu_faces_5 (by decide) (by omega) (fun h77 => ?_) (fun h77 => ?_)
  · skip
    refine ev_iconst dt_Tu_faces_19 ?_
    exact ev_ireturn dt_Tu_faces_20 rfl ⟨rfl, _, rfl, by omega⟩
  · skip
    refine ev_iload_n dt_Tu_faces_8 rfl rfl ?_
    refine ev_if_lt (tgt := 19) dt_Tu_faces_9 (by decide) (by omega) (fun h78 => ?_) (fun h78 => ?_)
    · skip
      refine ev_iconst dt_Tu_faces_19 ?_
      exact ev_ireturn dt_Tu_faces_20 rfl ⟨rfl, _, rfl, by omega⟩
    · skip
      refine ev_iload_n dt_Tu_faces_12 rfl rfl ?_
      refine ev_sipush dt_Tu_faces_13 rfl ?_
      refine ev_icmp_le (tgt := 21) dt_Tu_faces_16 (by decide) (by omega) (by omega) (fun h79 => ?_) (fun h79 => ?_)
      · skip
        refine ev_aload_n dt_Tu_faces_21 rfl rfl ?_
        refine tm_getK (K := 1) dt_Tu_faces_22 hW tut0 fl_Tu_19 rfl kn ?_
        refine tm_getR dt_Tu_faces_25 hW at0 fl_Tu_126 rfl ?_
        refine ev_iload_n dt_Tu_faces_28 rfl rfl ?_
        refine tm_iaload dt_Tu_faces_29 hW at1 (by omega) (by omega) (by omega) (fun v80 kv80 lv80 uv80 => ?_)
        refine ev_aload_n dt_Tu_faces_30 rfl rfl ?_
        refine tm_getK (K := 1) dt_Tu_faces_31 hW tut0 fl_Tu_19 rfl kn ?_
        refine ev_iload_n dt_Tu_faces_34 rfl rfl ?_
        refine tm_vp dt_Tu_faces_35 (tm_Ri_angleOn hW h_a (y2) (by omega) (by omega)) kb_Tu_241 ⟨im_Ri_angleOn, se_Ri_angleOn⟩ rfl hW at0 rfl (Nat.le_of_ble_eq_true rfl) (by decide) (fun v81 hv81 => ?_)
        refine tm_sp dt_Tu_faces_38 (tm_Tu_facedBy hW (v80) (by omega) (by omega) (v81) (by omega) (by omega)) kb_Tu_244 sc_Tu_facedBy rfl (Nat.le_of_ble_eq_true rfl) (by decide) (fun v82 hv82 => ?_)
        exact ev_ireturn dt_Tu_faces_41 rfl ⟨rfl, _, rfl, by omega⟩
      · skip
        refine ev_iconst dt_Tu_faces_19 ?_
        exact ev_ireturn dt_Tu_faces_20 rfl ⟨rfl, _, rfl, by omega⟩
theorem dt_Tu_sees_0 : decode prog_1_method_21_code 0 = .ok (.aload_n 0, 1) := by decide +kernel
theorem dt_Tu_sees_1 : decode prog_1_method_21_code 1 = .ok (.iload_n 1, 1) := by decide +kernel
theorem dt_Tu_sees_2 : decode prog_1_method_21_code 2 = .ok (.invokevirtual 118, 3) := by decide +kernel
theorem dt_Tu_sees_5 : decode prog_1_method_21_code 5 = .ok (.ifCond .eq 14, 3) := by decide +kernel
theorem dt_Tu_sees_8 : decode prog_1_method_21_code 8 = .ok (.iload_n 2, 1) := by decide +kernel
theorem dt_Tu_sees_9 : decode prog_1_method_21_code 9 = .ok (.ifCond .lt 10, 3) := by decide +kernel
theorem dt_Tu_sees_12 : decode prog_1_method_21_code 12 = .ok (.iload_n 2, 1) := by decide +kernel
theorem dt_Tu_sees_13 : decode prog_1_method_21_code 13 = .ok (.sipush 200, 3) := by decide +kernel
theorem dt_Tu_sees_16 : decode prog_1_method_21_code 16 = .ok (.if_icmp .le 5, 3) := by decide +kernel
theorem dt_Tu_sees_19 : decode prog_1_method_21_code 19 = .ok (.iconst (-1), 1) := by decide +kernel
theorem dt_Tu_sees_20 : decode prog_1_method_21_code 20 = .ok (.ireturn, 1) := by decide +kernel
theorem dt_Tu_sees_21 : decode prog_1_method_21_code 21 = .ok (.aload_n 0, 1) := by decide +kernel
theorem dt_Tu_sees_22 : decode prog_1_method_21_code 22 = .ok (.getfield 19, 3) := by decide +kernel
theorem dt_Tu_sees_25 : decode prog_1_method_21_code 25 = .ok (.aload_n 0, 1) := by decide +kernel
theorem dt_Tu_sees_26 : decode prog_1_method_21_code 26 = .ok (.getfield 19, 3) := by decide +kernel
theorem dt_Tu_sees_29 : decode prog_1_method_21_code 29 = .ok (.getfield 126, 3) := by decide +kernel
theorem dt_Tu_sees_32 : decode prog_1_method_21_code 32 = .ok (.iload_n 1, 1) := by decide +kernel
theorem dt_Tu_sees_33 : decode prog_1_method_21_code 33 = .ok (.iaload, 1) := by decide +kernel
theorem dt_Tu_sees_34 : decode prog_1_method_21_code 34 = .ok (.aload_n 0, 1) := by decide +kernel
theorem dt_Tu_sees_35 : decode prog_1_method_21_code 35 = .ok (.getfield 19, 3) := by decide +kernel
theorem dt_Tu_sees_38 : decode prog_1_method_21_code 38 = .ok (.iload_n 2, 1) := by decide +kernel
theorem dt_Tu_sees_39 : decode prog_1_method_21_code 39 = .ok (.invokevirtual 241, 3) := by decide +kernel
theorem dt_Tu_sees_42 : decode prog_1_method_21_code 42 = .ok (.invokestatic 244, 3) := by decide +kernel
theorem dt_Tu_sees_45 : decode prog_1_method_21_code 45 = .ok (.aload_n 0, 1) := by decide +kernel
theorem dt_Tu_sees_46 : decode prog_1_method_21_code 46 = .ok (.getfield 19, 3) := by decide +kernel
theorem dt_Tu_sees_49 : decode prog_1_method_21_code 49 = .ok (.iload_n 2, 1) := by decide +kernel
theorem dt_Tu_sees_50 : decode prog_1_method_21_code 50 = .ok (.invokevirtual 247, 3) := by decide +kernel
theorem dt_Tu_sees_53 : decode prog_1_method_21_code 53 = .ok (.invokevirtual 139, 3) := by decide +kernel
theorem dt_Tu_sees_56 : decode prog_1_method_21_code 56 = .ok (.ireturn, 1) := by decide +kernel
set_option maxHeartbeats 4000000 in
set_option maxRecDepth 10000 in
theorem tm_Tu_sees {N : Nat} {T : Nat → tm_S} {w : ab_W} {tu tp im md rl ac rr ma pl tr gu a b : Nat} (hW : tm_W N T w) (h_all : is_All T tu tp im md rl ac rr ma pl tr gu a b) (kn : tm_g w tu 1 = some (ab_R a)) (kt : tm_g w tu 2 = some (ab_R b)) (y1 : Int) (l_y1 : (-2147483648) ≤ y1) (u_y1 : y1 ≤ 2147483647) (y2 : Int) (l_y2 : (-2147483648) ≤ y2) (u_y2 : y2 ≤ 2147483647) : ab_Mt g_G g_rs mt_Tu_sees 3 0 0 [ab_R tu, ab_I y1, ab_I y2] w (tm_P w (fun v => (-2147483648) ≤ v ∧ v ≤ 2147483647)) := by
  obtain ⟨tut0, imt0, mdt0, rlt0, h_tp, h_ac, h_rr, h_ma, hzz⟩ := id h_all
  obtain ⟨h_pl, h_tr, h_gu, h_a, h_b, e_all, e_ab⟩ := hzz
  obtain ⟨tpt0, tpt1⟩ := id h_tp
  obtain ⟨act0, act1, act2, act3⟩ := id h_ac
  obtain ⟨rrt0, rrt1⟩ := id h_rr
  obtain ⟨mat0, mat1⟩ := id h_ma
  obtain ⟨plt0, plt1, plt2, plt3, plt4⟩ := id h_pl
  obtain ⟨trt0, trt1, trt2, trt3, trt4, trt5⟩ := id h_tr
  obtain ⟨gut0, gut1, gut2, gut3⟩ := id h_gu
  obtain ⟨at0, at1, at2, at3, at4, at5, at6, at7, at8, at9, at10, at11, at12⟩ := id h_a
  have ad := is_Ri.d h_a
  obtain ⟨bt0, bt1, bt2, bt3, bt4, bt5, bt6, bt7, bt8, bt9, bt10, bt11, bt12⟩ := id h_b
  have bd := is_Ri.d h_b
  refine ab_Mt.of rfl (Nat.le_of_ble_eq_true rfl) ?_
  show ab_Ev g_G g_rs mt_Tu_sees _ _ _ 0 [some (ab_R tu), some (ab_I y1), some (ab_I y2)] [] _ _
  refine ev_aload_n dt_Tu_sees_0 rfl rfl ?_
  refine ev_iload_n dt_Tu_sees_1 rfl rfl ?_
  refine tm_vp dt_Tu_sees_2 (tm_Tu_hasHouse hW h_all kn kt (y1) (by omega) (by omega)) kb_Tu_118 ⟨im_Tu_hasHouse, se_Tu_hasHouse⟩ rfl hW tut0 rfl (Nat.le_of_ble_eq_true rfl) (by decide) (fun v83 hv83 => ?_)
  refine ev_if_eq (tgt := 19) dt_Tu_sees_5 (by decide) (by omega) (fun h84 => ?_) (fun h84 => ?_)
  · skip
    refine ev_iconst dt_Tu_sees_19 ?_
    exact ev_ireturn dt_Tu_sees_20 rfl ⟨rfl, _, rfl, by omega⟩
  · skip
    refine ev_iload_n dt_Tu_sees_8 rfl rfl ?_
    refine ev_if_lt (tgt := 19) dt_Tu_sees_9 (by decide) (by omega) (fun h85 => ?_) (fun h85 => ?_)
    · skip
      refine ev_iconst dt_Tu_sees_19 ?_
      exact ev_ireturn dt_Tu_sees_20 rfl ⟨rfl, _, rfl, by omega⟩
    · skip
      refine ev_iload_n dt_Tu_sees_12 rfl rfl ?_
      refine ev_sipush dt_Tu_sees_13 rfl ?_
      refine ev_icmp_le (tgt := 21) dt_Tu_sees_16 (by decide) (by omega) (by omega) (fun h86 => ?_) (fun h86 => ?_)
      · skip
        refine ev_aload_n dt_Tu_sees_21 rfl rfl ?_
        refine tm_getK (K := 1) dt_Tu_sees_22 hW tut0 fl_Tu_19 rfl kn ?_
        refine ev_aload_n dt_Tu_sees_25 rfl rfl ?_
        refine tm_getK (K := 1) dt_Tu_sees_26 hW tut0 fl_Tu_19 rfl kn ?_
        refine tm_getR dt_Tu_sees_29 hW at0 fl_Tu_126 rfl ?_
        refine ev_iload_n dt_Tu_sees_32 rfl rfl ?_
        refine tm_iaload dt_Tu_sees_33 hW at1 (by omega) (by omega) (by omega) (fun v87 kv87 lv87 uv87 => ?_)
        refine ev_aload_n dt_Tu_sees_34 rfl rfl ?_
        refine tm_getK (K := 1) dt_Tu_sees_35 hW tut0 fl_Tu_19 rfl kn ?_
        refine ev_iload_n dt_Tu_sees_38 rfl rfl ?_
        refine tm_vp dt_Tu_sees_39 (tm_Ri_angleOn hW h_a (y2) (by omega) (by omega)) kb_Tu_241 ⟨im_Ri_angleOn, se_Ri_angleOn⟩ rfl hW at0 rfl (Nat.le_of_ble_eq_true rfl) (by decide) (fun v88 hv88 => ?_)
        refine tm_sp dt_Tu_sees_42 (tm_Tu_facedBy hW (v87) (by omega) (by omega) (v88) (by omega) (by omega)) kb_Tu_244 sc_Tu_facedBy rfl (Nat.le_of_ble_eq_true rfl) (by decide) (fun v89 hv89 => ?_)
        refine ev_aload_n dt_Tu_sees_45 rfl rfl ?_
        refine tm_getK (K := 1) dt_Tu_sees_46 hW tut0 fl_Tu_19 rfl kn ?_
        refine ev_iload_n dt_Tu_sees_49 rfl rfl ?_
        refine tm_vp dt_Tu_sees_50 (tm_Ri_hourOn hW h_a (y2) (by omega) (by omega)) kb_Tu_247 ⟨im_Ri_hourOn, se_Ri_hourOn⟩ rfl hW at0 rfl (Nat.le_of_ble_eq_true rfl) (by decide) (fun v90 hv90 => ?_)
        refine tm_vp dt_Tu_sees_53 (tm_Ri_sortsAt hW h_a (v89) (by omega) (by omega) (v90) (by omega) (by omega)) kb_Tu_139 ⟨im_Ri_sortsAt, se_Ri_sortsAt⟩ rfl hW at0 rfl (Nat.le_of_ble_eq_true rfl) (by decide) (fun v91 hv91 => ?_)
        exact ev_ireturn dt_Tu_sees_56 rfl ⟨rfl, _, rfl, by omega⟩
      · skip
        refine ev_iconst dt_Tu_sees_19 ?_
        exact ev_ireturn dt_Tu_sees_20 rfl ⟨rfl, _, rfl, by omega⟩
theorem dt_Tu_day_0 : decode prog_1_method_22_code 0 = .ok (.aload_n 0, 1) := by decide +kernel
theorem dt_Tu_day_1 : decode prog_1_method_22_code 1 = .ok (.iload_n 1, 1) := by decide +kernel
theorem dt_Tu_day_2 : decode prog_1_method_22_code 2 = .ok (.invokevirtual 118, 3) := by decide +kernel
theorem dt_Tu_day_5 : decode prog_1_method_22_code 5 = .ok (.ifCond .eq 23, 3) := by decide +kernel
theorem dt_Tu_day_8 : decode prog_1_method_22_code 8 = .ok (.aload_n 0, 1) := by decide +kernel
theorem dt_Tu_day_9 : decode prog_1_method_22_code 9 = .ok (.getfield 19, 3) := by decide +kernel
theorem dt_Tu_day_12 : decode prog_1_method_22_code 12 = .ok (.iload_n 1, 1) := by decide +kernel
theorem dt_Tu_day_13 : decode prog_1_method_22_code 13 = .ok (.aload_n 0, 1) := by decide +kernel
theorem dt_Tu_day_14 : decode prog_1_method_22_code 14 = .ok (.getfield 19, 3) := by decide +kernel
theorem dt_Tu_day_17 : decode prog_1_method_22_code 17 = .ok (.getfield 126, 3) := by decide +kernel
theorem dt_Tu_day_20 : decode prog_1_method_22_code 20 = .ok (.iload_n 1, 1) := by decide +kernel
theorem dt_Tu_day_21 : decode prog_1_method_22_code 21 = .ok (.iaload, 1) := by decide +kernel
theorem dt_Tu_day_22 : decode prog_1_method_22_code 22 = .ok (.invokevirtual 250, 3) := by decide +kernel
theorem dt_Tu_day_25 : decode prog_1_method_22_code 25 = .ok (.goto 5, 3) := by decide +kernel
theorem dt_Tu_day_28 : decode prog_1_method_22_code 28 = .ok (.ldc 208, 2) := by decide +kernel
theorem dt_Tu_day_30 : decode prog_1_method_22_code 30 = .ok (.ireturn, 1) := by decide +kernel
set_option maxHeartbeats 4000000 in
set_option maxRecDepth 10000 in
theorem tm_Tu_day {N : Nat} {T : Nat → tm_S} {w : ab_W} {tu tp im md rl ac rr ma pl tr gu a b : Nat} (hW : tm_W N T w) (h_all : is_All T tu tp im md rl ac rr ma pl tr gu a b) (kn : tm_g w tu 1 = some (ab_R a)) (kt : tm_g w tu 2 = some (ab_R b)) (y1 : Int) (l_y1 : (-2147483648) ≤ y1) (u_y1 : y1 ≤ 2147483647) : ab_Mt g_G g_rs mt_Tu_day 3 0 0 [ab_R tu, ab_I y1] w (tm_P w (fun v => (-2147483648) ≤ v ∧ v ≤ 2147483647)) := by
  obtain ⟨tut0, imt0, mdt0, rlt0, h_tp, h_ac, h_rr, h_ma, hzz⟩ := id h_all
  obtain ⟨h_pl, h_tr, h_gu, h_a, h_b, e_all, e_ab⟩ := hzz
  obtain ⟨tpt0, tpt1⟩ := id h_tp
  obtain ⟨act0, act1, act2, act3⟩ := id h_ac
  obtain ⟨rrt0, rrt1⟩ := id h_rr
  obtain ⟨mat0, mat1⟩ := id h_ma
  obtain ⟨plt0, plt1, plt2, plt3, plt4⟩ := id h_pl
  obtain ⟨trt0, trt1, trt2, trt3, trt4, trt5⟩ := id h_tr
  obtain ⟨gut0, gut1, gut2, gut3⟩ := id h_gu
  obtain ⟨at0, at1, at2, at3, at4, at5, at6, at7, at8, at9, at10, at11, at12⟩ := id h_a
  have ad := is_Ri.d h_a
  obtain ⟨bt0, bt1, bt2, bt3, bt4, bt5, bt6, bt7, bt8, bt9, bt10, bt11, bt12⟩ := id h_b
  have bd := is_Ri.d h_b
  refine ab_Mt.of rfl (Nat.le_of_ble_eq_true rfl) ?_
  show ab_Ev g_G g_rs mt_Tu_day _ _ _ 0 [some (ab_R tu), some (ab_I y1)] [] _ _
  refine ev_aload_n dt_Tu_day_0 rfl rfl ?_
  refine ev_iload_n dt_Tu_day_1 rfl rfl ?_
  refine tm_vp dt_Tu_day_2 (tm_Tu_hasHouse hW h_all kn kt (y1) (by omega) (by omega)) kb_Tu_118 ⟨im_Tu_hasHouse, se_Tu_hasHouse⟩ rfl hW tut0 rfl (Nat.le_of_ble_eq_true rfl) (by decide) (fun v92 hv92 => ?_)
  refine ev_if_eq (tgt := 28) dt_Tu_day_5 (by decide) (by omega) (fun h93 => ?_) (fun h93 => ?_)
  · skip
    refine ev_ldc (n := -100000) dt_Tu_day_28 cn_Tu_208 rfl ?_
    exact ev_ireturn dt_Tu_day_30 rfl ⟨rfl, _, rfl, by omega⟩
  · skip
    refine ev_aload_n dt_Tu_day_8 rfl rfl ?_
    refine tm_getK (K := 1) dt_Tu_day_9 hW tut0 fl_Tu_19 rfl kn ?_
    refine ev_iload_n dt_Tu_day_12 rfl rfl ?_
    refine ev_aload_n dt_Tu_day_13 rfl rfl ?_
    refine tm_getK (K := 1) dt_Tu_day_14 hW tut0 fl_Tu_19 rfl kn ?_
    refine tm_getR dt_Tu_day_17 hW at0 fl_Tu_126 rfl ?_
    refine ev_iload_n dt_Tu_day_20 rfl rfl ?_
    refine tm_iaload dt_Tu_day_21 hW at1 (by omega) (by omega) (by omega) (fun v94 kv94 lv94 uv94 => ?_)
    refine tm_vp dt_Tu_day_22 (tm_Ri_dayIn hW h_a (y1) (by omega) (by omega) (v94) (by omega) (by omega)) kb_Tu_250 ⟨im_Ri_dayIn, se_Ri_dayIn⟩ rfl hW at0 rfl (Nat.le_of_ble_eq_true rfl) (by decide) (fun v95 hv95 => ?_)
    refine ev_goto (tgt := 30) dt_Tu_day_25 (by decide) ?_
    exact ev_ireturn dt_Tu_day_30 rfl ⟨rfl, _, rfl, by omega⟩
theorem dt_Tu_errand_0 : decode prog_1_method_23_code 0 = .ok (.aload_n 0, 1) := by decide +kernel
theorem dt_Tu_errand_1 : decode prog_1_method_23_code 1 = .ok (.iload_n 1, 1) := by decide +kernel
theorem dt_Tu_errand_2 : decode prog_1_method_23_code 2 = .ok (.invokevirtual 118, 3) := by decide +kernel
theorem dt_Tu_errand_5 : decode prog_1_method_23_code 5 = .ok (.ifCond .eq 42, 3) := by decide +kernel
theorem dt_Tu_errand_8 : decode prog_1_method_23_code 8 = .ok (.iload_n 2, 1) := by decide +kernel
theorem dt_Tu_errand_9 : decode prog_1_method_23_code 9 = .ok (.invokestatic 156, 3) := by decide +kernel
theorem dt_Tu_errand_12 : decode prog_1_method_23_code 12 = .ok (.ifCond .eq 35, 3) := by decide +kernel
theorem dt_Tu_errand_15 : decode prog_1_method_23_code 15 = .ok (.aload_n 0, 1) := by decide +kernel
theorem dt_Tu_errand_16 : decode prog_1_method_23_code 16 = .ok (.getfield 19, 3) := by decide +kernel
theorem dt_Tu_errand_19 : decode prog_1_method_23_code 19 = .ok (.iload_n 2, 1) := by decide +kernel
theorem dt_Tu_errand_20 : decode prog_1_method_23_code 20 = .ok (.invokevirtual 146, 3) := by decide +kernel
theorem dt_Tu_errand_23 : decode prog_1_method_23_code 23 = .ok (.ifCond .eq 24, 3) := by decide +kernel
theorem dt_Tu_errand_26 : decode prog_1_method_23_code 26 = .ok (.iload_n 3, 1) := by decide +kernel
theorem dt_Tu_errand_27 : decode prog_1_method_23_code 27 = .ok (.ifCond .lt 20, 3) := by decide +kernel
theorem dt_Tu_errand_30 : decode prog_1_method_23_code 30 = .ok (.iload_n 3, 1) := by decide +kernel
theorem dt_Tu_errand_31 : decode prog_1_method_23_code 31 = .ok (.bipush 24, 2) := by decide +kernel
theorem dt_Tu_errand_33 : decode prog_1_method_23_code 33 = .ok (.if_icmp .gt 14, 3) := by decide +kernel
theorem dt_Tu_errand_36 : decode prog_1_method_23_code 36 = .ok (.iload 4, 2) := by decide +kernel
theorem dt_Tu_errand_38 : decode prog_1_method_23_code 38 = .ok (.ifCond .lt 9, 3) := by decide +kernel
theorem dt_Tu_errand_41 : decode prog_1_method_23_code 41 = .ok (.iload 4, 2) := by decide +kernel
theorem dt_Tu_errand_43 : decode prog_1_method_23_code 43 = .ok (.iconst 1, 1) := by decide +kernel
theorem dt_Tu_errand_44 : decode prog_1_method_23_code 44 = .ok (.if_icmp .le 5, 3) := by decide +kernel
theorem dt_Tu_errand_47 : decode prog_1_method_23_code 47 = .ok (.iconst (-1), 1) := by decide +kernel
theorem dt_Tu_errand_48 : decode prog_1_method_23_code 48 = .ok (.ireturn, 1) := by decide +kernel
theorem dt_Tu_errand_49 : decode prog_1_method_23_code 49 = .ok (.aload_n 0, 1) := by decide +kernel
theorem dt_Tu_errand_50 : decode prog_1_method_23_code 50 = .ok (.getfield 19, 3) := by decide +kernel
theorem dt_Tu_errand_53 : decode prog_1_method_23_code 53 = .ok (.getfield 126, 3) := by decide +kernel
theorem dt_Tu_errand_56 : decode prog_1_method_23_code 56 = .ok (.iload_n 1, 1) := by decide +kernel
theorem dt_Tu_errand_57 : decode prog_1_method_23_code 57 = .ok (.iaload, 1) := by decide +kernel
theorem dt_Tu_errand_58 : decode prog_1_method_23_code 58 = .ok (.istore 5, 2) := by decide +kernel
theorem dt_Tu_errand_60 : decode prog_1_method_23_code 60 = .ok (.aload_n 0, 1) := by decide +kernel
theorem dt_Tu_errand_61 : decode prog_1_method_23_code 61 = .ok (.getfield 19, 3) := by decide +kernel
theorem dt_Tu_errand_64 : decode prog_1_method_23_code 64 = .ok (.getfield 177, 3) := by decide +kernel
theorem dt_Tu_errand_67 : decode prog_1_method_23_code 67 = .ok (.istore 6, 2) := by decide +kernel
theorem dt_Tu_errand_69 : decode prog_1_method_23_code 69 = .ok (.iconst (-1), 1) := by decide +kernel
theorem dt_Tu_errand_70 : decode prog_1_method_23_code 70 = .ok (.istore 7, 2) := by decide +kernel
theorem dt_Tu_errand_72 : decode prog_1_method_23_code 72 = .ok (.iconst 0, 1) := by decide +kernel
theorem dt_Tu_errand_73 : decode prog_1_method_23_code 73 = .ok (.istore 8, 2) := by decide +kernel
theorem dt_Tu_errand_75 : decode prog_1_method_23_code 75 = .ok (.iload 8, 2) := by decide +kernel
theorem dt_Tu_errand_77 : decode prog_1_method_23_code 77 = .ok (.bipush 96, 2) := by decide +kernel
theorem dt_Tu_errand_79 : decode prog_1_method_23_code 79 = .ok (.if_icmp .gt 104, 3) := by decide +kernel
theorem dt_Tu_errand_82 : decode prog_1_method_23_code 82 = .ok (.iload 7, 2) := by decide +kernel
theorem dt_Tu_errand_84 : decode prog_1_method_23_code 84 = .ok (.ifCond .ge 10, 3) := by decide +kernel
theorem dt_Tu_errand_87 : decode prog_1_method_23_code 87 = .ok (.iload 8, 2) := by decide +kernel
theorem dt_Tu_errand_89 : decode prog_1_method_23_code 89 = .ok (.bipush 48, 2) := by decide +kernel
theorem dt_Tu_errand_91 : decode prog_1_method_23_code 91 = .ok (.if_icmp .gt 92, 3) := by decide +kernel
theorem dt_Tu_errand_94 : decode prog_1_method_23_code 94 = .ok (.iload 5, 2) := by decide +kernel
theorem dt_Tu_errand_96 : decode prog_1_method_23_code 96 = .ok (.iload 6, 2) := by decide +kernel
theorem dt_Tu_errand_98 : decode prog_1_method_23_code 98 = .ok (.invokestatic 244, 3) := by decide +kernel
theorem dt_Tu_errand_101 : decode prog_1_method_23_code 101 = .ok (.istore 9, 2) := by decide +kernel
theorem dt_Tu_errand_103 : decode prog_1_method_23_code 103 = .ok (.iload 7, 2) := by decide +kernel
theorem dt_Tu_errand_105 : decode prog_1_method_23_code 105 = .ok (.ifCond .ge 13, 3) := by decide +kernel
theorem dt_Tu_errand_108 : decode prog_1_method_23_code 108 = .ok (.iload 9, 2) := by decide +kernel
theorem dt_Tu_errand_110 : decode prog_1_method_23_code 110 = .ok (.iload_n 2, 1) := by decide +kernel
theorem dt_Tu_errand_111 : decode prog_1_method_23_code 111 = .ok (.if_icmp .ne 7, 3) := by decide +kernel
theorem dt_Tu_errand_114 : decode prog_1_method_23_code 114 = .ok (.iload 8, 2) := by decide +kernel
theorem dt_Tu_errand_116 : decode prog_1_method_23_code 116 = .ok (.istore 7, 2) := by decide +kernel
theorem dt_Tu_errand_118 : decode prog_1_method_23_code 118 = .ok (.iload 7, 2) := by decide +kernel
theorem dt_Tu_errand_120 : decode prog_1_method_23_code 120 = .ok (.ifCond .lt 44, 3) := by decide +kernel
theorem dt_Tu_errand_123 : decode prog_1_method_23_code 123 = .ok (.aload_n 0, 1) := by decide +kernel
theorem dt_Tu_errand_124 : decode prog_1_method_23_code 124 = .ok (.getfield 19, 3) := by decide +kernel
theorem dt_Tu_errand_127 : decode prog_1_method_23_code 127 = .ok (.iload 9, 2) := by decide +kernel
theorem dt_Tu_errand_129 : decode prog_1_method_23_code 129 = .ok (.invokevirtual 146, 3) := by decide +kernel
theorem dt_Tu_errand_132 : decode prog_1_method_23_code 132 = .ok (.ifCond .eq 32, 3) := by decide +kernel
theorem dt_Tu_errand_135 : decode prog_1_method_23_code 135 = .ok (.iload 8, 2) := by decide +kernel
theorem dt_Tu_errand_137 : decode prog_1_method_23_code 137 = .ok (.iload 7, 2) := by decide +kernel
theorem dt_Tu_errand_139 : decode prog_1_method_23_code 139 = .ok (.iload_n 3, 1) := by decide +kernel
theorem dt_Tu_errand_140 : decode prog_1_method_23_code 140 = .ok (.iadd, 1) := by decide +kernel
theorem dt_Tu_errand_141 : decode prog_1_method_23_code 141 = .ok (.iload_n 2, 1) := by decide +kernel
theorem dt_Tu_errand_142 : decode prog_1_method_23_code 142 = .ok (.iload 9, 2) := by decide +kernel
theorem dt_Tu_errand_144 : decode prog_1_method_23_code 144 = .ok (.invokestatic 253, 3) := by decide +kernel
theorem dt_Tu_errand_147 : decode prog_1_method_23_code 147 = .ok (.iadd, 1) := by decide +kernel
theorem dt_Tu_errand_148 : decode prog_1_method_23_code 148 = .ok (.if_icmp .lt 16, 3) := by decide +kernel
theorem dt_Tu_errand_151 : decode prog_1_method_23_code 151 = .ok (.iload 4, 2) := by decide +kernel
theorem dt_Tu_errand_153 : decode prog_1_method_23_code 153 = .ok (.ifCond .ne 8, 3) := by decide +kernel
theorem dt_Tu_errand_156 : decode prog_1_method_23_code 156 = .ok (.iload 7, 2) := by decide +kernel
theorem dt_Tu_errand_158 : decode prog_1_method_23_code 158 = .ok (.goto 5, 3) := by decide +kernel
theorem dt_Tu_errand_161 : decode prog_1_method_23_code 161 = .ok (.iload 8, 2) := by decide +kernel
theorem dt_Tu_errand_163 : decode prog_1_method_23_code 163 = .ok (.ireturn, 1) := by decide +kernel
theorem dt_Tu_errand_164 : decode prog_1_method_23_code 164 = .ok (.aload_n 0, 1) := by decide +kernel
theorem dt_Tu_errand_165 : decode prog_1_method_23_code 165 = .ok (.getfield 19, 3) := by decide +kernel
theorem dt_Tu_errand_168 : decode prog_1_method_23_code 168 = .ok (.iload 6, 2) := by decide +kernel
theorem dt_Tu_errand_170 : decode prog_1_method_23_code 170 = .ok (.iload 8, 2) := by decide +kernel
theorem dt_Tu_errand_172 : decode prog_1_method_23_code 172 = .ok (.invokevirtual 256, 3) := by decide +kernel
theorem dt_Tu_errand_175 : decode prog_1_method_23_code 175 = .ok (.istore 6, 2) := by decide +kernel
theorem dt_Tu_errand_177 : decode prog_1_method_23_code 177 = .ok (.iinc 8 1, 3) := by decide +kernel
theorem dt_Tu_errand_180 : decode prog_1_method_23_code 180 = .ok (.goto (-105), 3) := by decide +kernel
theorem dt_Tu_errand_183 : decode prog_1_method_23_code 183 = .ok (.bipush (-2), 2) := by decide +kernel
theorem dt_Tu_errand_185 : decode prog_1_method_23_code 185 = .ok (.ireturn, 1) := by decide +kernel
set_option maxHeartbeats 4000000 in
set_option maxRecDepth 10000 in
theorem tm_Tu_errand {N : Nat} {T : Nat → tm_S} {w : ab_W} {tu tp im md rl ac rr ma pl tr gu a b : Nat} (hW : tm_W N T w) (h_all : is_All T tu tp im md rl ac rr ma pl tr gu a b) (kn : tm_g w tu 1 = some (ab_R a)) (kt : tm_g w tu 2 = some (ab_R b)) (y1 : Int) (l_y1 : (-2147483648) ≤ y1) (u_y1 : y1 ≤ 2147483647) (y2 : Int) (l_y2 : (-2147483648) ≤ y2) (u_y2 : y2 ≤ 2147483647) (y3 : Int) (l_y3 : (-2147483648) ≤ y3) (u_y3 : y3 ≤ 2147483647) (y4 : Int) (l_y4 : (-2147483648) ≤ y4) (u_y4 : y4 ≤ 2147483647) : ab_Mt g_G g_rs mt_Tu_errand 2 0 0 [ab_R tu, ab_I y1, ab_I y2, ab_I y3, ab_I y4] w (tm_P w (fun v => (-2147483648) ≤ v ∧ v ≤ 2147483647)) := by
  obtain ⟨tut0, imt0, mdt0, rlt0, h_tp, h_ac, h_rr, h_ma, hzz⟩ := id h_all
  obtain ⟨h_pl, h_tr, h_gu, h_a, h_b, e_all, e_ab⟩ := hzz
  obtain ⟨tpt0, tpt1⟩ := id h_tp
  obtain ⟨act0, act1, act2, act3⟩ := id h_ac
  obtain ⟨rrt0, rrt1⟩ := id h_rr
  obtain ⟨mat0, mat1⟩ := id h_ma
  obtain ⟨plt0, plt1, plt2, plt3, plt4⟩ := id h_pl
  obtain ⟨trt0, trt1, trt2, trt3, trt4, trt5⟩ := id h_tr
  obtain ⟨gut0, gut1, gut2, gut3⟩ := id h_gu
  obtain ⟨at0, at1, at2, at3, at4, at5, at6, at7, at8, at9, at10, at11, at12⟩ := id h_a
  have ad := is_Ri.d h_a
  obtain ⟨bt0, bt1, bt2, bt3, bt4, bt5, bt6, bt7, bt8, bt9, bt10, bt11, bt12⟩ := id h_b
  have bd := is_Ri.d h_b
  refine ab_Mt.of rfl (Nat.le_of_ble_eq_true rfl) ?_
  show ab_Ev g_G g_rs mt_Tu_errand _ _ _ 0 [some (ab_R tu), some (ab_I y1), some (ab_I y2), some (ab_I y3), some (ab_I y4), none, none, none, none, none] [] _ _
  refine ev_aload_n dt_Tu_errand_0 rfl rfl ?_
  refine ev_iload_n dt_Tu_errand_1 rfl rfl ?_
  refine tm_vp dt_Tu_errand_2 (tm_Tu_hasHouse hW h_all kn kt (y1) (by omega) (by omega)) kb_Tu_118 ⟨im_Tu_hasHouse, se_Tu_hasHouse⟩ rfl hW tut0 rfl (Nat.le_of_ble_eq_true rfl) (by decide) (fun v96 hv96 => ?_)
  refine ev_if_eq (tgt := 47) dt_Tu_errand_5 (by decide) (by omega) (fun h97 => ?_) (fun h97 => ?_)
  · skip
    refine ev_iconst dt_Tu_errand_47 ?_
    exact ev_ireturn dt_Tu_errand_48 rfl ⟨rfl, _, rfl, by omega⟩
  · skip
    refine ev_iload_n dt_Tu_errand_8 rfl rfl ?_
    refine tm_sp dt_Tu_errand_9 (tm_Tu_isDirection hW (y2) (by omega) (by omega)) kb_Tu_156 sc_Tu_isDirection rfl (Nat.le_of_ble_eq_true rfl) (by decide) (fun v98 hv98 => ?_)
    refine ev_if_eq (tgt := 47) dt_Tu_errand_12 (by decide) (by omega) (fun h99 => ?_) (fun h99 => ?_)
    · skip
      refine ev_iconst dt_Tu_errand_47 ?_
      exact ev_ireturn dt_Tu_errand_48 rfl ⟨rfl, _, rfl, by omega⟩
    · skip
      refine ev_aload_n dt_Tu_errand_15 rfl rfl ?_
      refine tm_getK (K := 1) dt_Tu_errand_16 hW tut0 fl_Tu_19 rfl kn ?_
      refine ev_iload_n dt_Tu_errand_19 rfl rfl ?_
      refine tm_vp dt_Tu_errand_20 (tm_Ri_isGate hW h_a (y2) (by omega) (by omega)) kb_Tu_146 ⟨im_Ri_isGate, se_Ri_isGate⟩ rfl hW at0 rfl (Nat.le_of_ble_eq_true rfl) (by decide) (fun v100 hv100 => ?_)
      refine ev_if_eq (tgt := 47) dt_Tu_errand_23 (by decide) (by omega) (fun h101 => ?_) (fun h101 => ?_)
      · skip
        refine ev_iconst dt_Tu_errand_47 ?_
        exact ev_ireturn dt_Tu_errand_48 rfl ⟨rfl, _, rfl, by omega⟩
      · skip
        refine ev_iload_n dt_Tu_errand_26 rfl rfl ?_
        refine ev_if_lt (tgt := 47) dt_Tu_errand_27 (by decide) (by omega) (fun h102 => ?_) (fun h102 => ?_)
        · skip
          refine ev_iconst dt_Tu_errand_47 ?_
          exact ev_ireturn dt_Tu_errand_48 rfl ⟨rfl, _, rfl, by omega⟩
        · skip
          refine ev_iload_n dt_Tu_errand_30 rfl rfl ?_
          refine ev_bipush dt_Tu_errand_31 rfl ?_
          refine ev_icmp_gt (tgt := 47) dt_Tu_errand_33 (by decide) (by omega) (by omega) (fun h103 => ?_) (fun h103 => ?_)
          · skip
            refine ev_iconst dt_Tu_errand_47 ?_
            exact ev_ireturn dt_Tu_errand_48 rfl ⟨rfl, _, rfl, by omega⟩
          · skip
            refine ev_iload dt_Tu_errand_36 rfl ?_
            refine ev_if_lt (tgt := 47) dt_Tu_errand_38 (by decide) (by omega) (fun h104 => ?_) (fun h104 => ?_)
            · skip
              refine ev_iconst dt_Tu_errand_47 ?_
              exact ev_ireturn dt_Tu_errand_48 rfl ⟨rfl, _, rfl, by omega⟩
            · skip
              refine ev_iload dt_Tu_errand_41 rfl ?_
              refine ev_iconst dt_Tu_errand_43 ?_
              refine ev_icmp_le (tgt := 49) dt_Tu_errand_44 (by decide) (by omega) (by omega) (fun h105 => ?_) (fun h105 => ?_)
              · skip
                refine ev_aload_n dt_Tu_errand_49 rfl rfl ?_
                refine tm_getK (K := 1) dt_Tu_errand_50 hW tut0 fl_Tu_19 rfl kn ?_
                refine tm_getR dt_Tu_errand_53 hW at0 fl_Tu_126 rfl ?_
                refine ev_iload_n dt_Tu_errand_56 rfl rfl ?_
                refine tm_iaload dt_Tu_errand_57 hW at1 (by omega) (by omega) (by omega) (fun v106 kv106 lv106 uv106 => ?_)
                refine ev_istore (l' := [_, _, _, _, _, _, _, _, _, _]) dt_Tu_errand_58 (Nat.le_of_ble_eq_true rfl) rfl ?_
                refine ev_aload_n dt_Tu_errand_60 rfl rfl ?_
                refine tm_getK (K := 1) dt_Tu_errand_61 hW tut0 fl_Tu_19 rfl kn ?_
                refine tm_getI (K := 1) dt_Tu_errand_64 hW at0 fl_Tu_177 rfl rfl (fun v107 kv107 lv107 uv107 => ?_)
                refine ev_istore (l' := [_, _, _, _, _, _, _, _, _, _]) dt_Tu_errand_67 (Nat.le_of_ble_eq_true rfl) rfl ?_
                refine ev_iconst dt_Tu_errand_69 ?_
                refine ev_istore (l' := [_, _, _, _, _, _, _, _, _, _]) dt_Tu_errand_70 (Nat.le_of_ble_eq_true rfl) rfl ?_
                refine ev_iconst dt_Tu_errand_72 ?_
                refine ev_istore (l' := [_, _, _, _, _, _, _, _, _, _]) dt_Tu_errand_73 (Nat.le_of_ble_eq_true rfl) rfl ?_
                have L108 : ∀ (n : Nat) (i109 : Int) (i110 : Int) (i111 : Int) , 0 ≤ i109 → i109 ≤ 11 → (-1) ≤ i110 → i110 ≤ 48 → 0 ≤ i111 → i111 ≤ 97 → 97 - i111 < (n : Int) → ab_Ev g_G g_rs mt_Tu_errand 2 0 0 75 [some (ab_R tu), none, some (ab_I y2), some (ab_I y3), some (ab_I y4), some (ab_I v106), some (ab_I i109), some (ab_I i110), some (ab_I i111), none] [] w (tm_P w (fun v => (-2147483648) ≤ v ∧ v ≤ 2147483647)) := by
                  intro n
                  induction n with
                  | zero =>
                    intro i109 i110 i111  li109 ui109 li110 ui110 li111 ui111 mL108
                    exfalso
                    omega
                  | succ nL108 ihL108 =>
                    intro i109 i110 i111  li109 ui109 li110 ui110 li111 ui111 mL108
                    refine ev_iload dt_Tu_errand_75 rfl ?_
                    refine ev_bipush dt_Tu_errand_77 rfl ?_
                    refine ev_icmp_gt (tgt := 183) dt_Tu_errand_79 (by decide) (by omega) (by omega) (fun h112 => ?_) (fun h112 => ?_)
                    · skip
                      refine ev_bipush dt_Tu_errand_183 rfl ?_
                      exact ev_ireturn dt_Tu_errand_185 rfl ⟨rfl, _, rfl, by omega⟩
                    · skip
                      refine ev_iload dt_Tu_errand_82 rfl ?_
                      refine ev_if_ge (tgt := 94) dt_Tu_errand_84 (by decide) (by omega) (fun h113 => ?_) (fun h113 => ?_)
                      · skip
                        refine ev_iload dt_Tu_errand_94 rfl ?_
                        refine ev_iload dt_Tu_errand_96 rfl ?_
                        refine tm_sp dt_Tu_errand_98 (tm_Tu_facedBy hW (v106) (by omega) (by omega) (i109) (by omega) (by omega)) kb_Tu_244 sc_Tu_facedBy rfl (Nat.le_of_ble_eq_true rfl) (by decide) (fun v114 hv114 => ?_)
                        refine ev_istore (l' := [_, _, _, _, _, _, _, _, _, _]) dt_Tu_errand_101 (Nat.le_of_ble_eq_true rfl) rfl ?_
                        refine ev_iload dt_Tu_errand_103 rfl ?_
                        refine ev_if_ge (tgt := 118) dt_Tu_errand_105 (by decide) (by omega) (fun h115 => ?_) (fun h115 => ?_)
                        · skip
                          refine ev_iload dt_Tu_errand_118 rfl ?_
                          refine ev_if_lt (tgt := 164) dt_Tu_errand_120 (by decide) (by omega) (fun h116 => ?_) (fun h116 => ?_)
                          · skip
                            exfalso
                            omega
                          · skip
                            refine ev_aload_n dt_Tu_errand_123 rfl rfl ?_
                            refine tm_getK (K := 1) dt_Tu_errand_124 hW tut0 fl_Tu_19 rfl kn ?_
                            refine ev_iload dt_Tu_errand_127 rfl ?_
                            refine tm_vp dt_Tu_errand_129 (tm_Ri_isGate hW h_a (v114) (by omega) (by omega)) kb_Tu_146 ⟨im_Ri_isGate, se_Ri_isGate⟩ rfl hW at0 rfl (Nat.le_of_ble_eq_true rfl) (by decide) (fun v117 hv117 => ?_)
                            refine ev_if_eq (tgt := 164) dt_Tu_errand_132 (by decide) (by omega) (fun h118 => ?_) (fun h118 => ?_)
                            · skip
                              refine ev_aload_n dt_Tu_errand_164 rfl rfl ?_
                              refine tm_getK (K := 1) dt_Tu_errand_165 hW tut0 fl_Tu_19 rfl kn ?_
                              refine ev_iload dt_Tu_errand_168 rfl ?_
                              refine ev_iload dt_Tu_errand_170 rfl ?_
                              refine tm_vp dt_Tu_errand_172 (tm_Ri_angleBehind hW h_a (i109) (by omega) (by omega) (i111) (by omega) (by omega)) kb_Tu_256 ⟨im_Ri_angleBehind, se_Ri_angleBehind⟩ rfl hW at0 rfl (Nat.le_of_ble_eq_true rfl) (by decide) (fun v119 hv119 => ?_)
                              refine ev_istore (l' := [_, _, _, _, _, _, _, _, _, _]) dt_Tu_errand_175 (Nat.le_of_ble_eq_true rfl) rfl ?_
                              refine ev_iinc (l' := [_, _, _, _, _, _, _, _, _, _]) dt_Tu_errand_177 rfl rfl ?_
                              refine ev_goto (tgt := 75) dt_Tu_errand_180 (by decide) ?_
                              exact tm_loc (tm_le_s (tm_le_n (tm_le_s (tm_le_s (tm_le_s (tm_le_s (tm_le_s (tm_le_s (tm_le_s (tm_le_n tm_le_0)))))))))) (ihL108 (v119) (i110) ((i111 + 1)) (by omega) (by omega) (by omega) (by omega) (by omega) (by omega) (by omega))
                            · skip
                              refine ev_iload dt_Tu_errand_135 rfl ?_
                              refine ev_iload dt_Tu_errand_137 rfl ?_
                              refine ev_iload_n dt_Tu_errand_139 rfl rfl ?_
                              refine ev_iadd dt_Tu_errand_140 ?_
                              refine ev_iload_n dt_Tu_errand_141 rfl rfl ?_
                              refine ev_iload dt_Tu_errand_142 rfl ?_
                              refine tm_sp dt_Tu_errand_144 (tm_Tu_wayBetween hW (y2) (by omega) (by omega) (v114) (by omega) (by omega)) kb_Tu_253 sc_Tu_wayBetween rfl (Nat.le_of_ble_eq_true rfl) (by decide) (fun v120 hv120 => ?_)
                              refine ev_iadd dt_Tu_errand_147 ?_
                              refine ev_icmp_lt (tgt := 164) dt_Tu_errand_148 (by decide) (by omega) (by omega) (fun h121 => ?_) (fun h121 => ?_)
                              · skip
                                refine ev_aload_n dt_Tu_errand_164 rfl rfl ?_
                                refine tm_getK (K := 1) dt_Tu_errand_165 hW tut0 fl_Tu_19 rfl kn ?_
                                refine ev_iload dt_Tu_errand_168 rfl ?_
                                refine ev_iload dt_Tu_errand_170 rfl ?_
                                refine tm_vp dt_Tu_errand_172 (tm_Ri_angleBehind hW h_a (i109) (by omega) (by omega) (i111) (by omega) (by omega)) kb_Tu_256 ⟨im_Ri_angleBehind, se_Ri_angleBehind⟩ rfl hW at0 rfl (Nat.le_of_ble_eq_true rfl) (by decide) (fun v122 hv122 => ?_)
                                refine ev_istore (l' := [_, _, _, _, _, _, _, _, _, _]) dt_Tu_errand_175 (Nat.le_of_ble_eq_true rfl) rfl ?_
                                refine ev_iinc (l' := [_, _, _, _, _, _, _, _, _, _]) dt_Tu_errand_177 rfl rfl ?_
                                refine ev_goto (tgt := 75) dt_Tu_errand_180 (by decide) ?_
                                exact tm_loc (tm_le_s (tm_le_n (tm_le_s (tm_le_s (tm_le_s (tm_le_s (tm_le_s (tm_le_s (tm_le_s (tm_le_n tm_le_0)))))))))) (ihL108 (v122) (i110) ((i111 + 1)) (by omega) (by omega) (by omega) (by omega) (by omega) (by omega) (by omega))
                              · skip
                                refine ev_iload dt_Tu_errand_151 rfl ?_
                                refine ev_if_ne (tgt := 161) dt_Tu_errand_153 (by decide) (by omega) (fun h123 => ?_) (fun h123 => ?_)
                                · skip
                                  refine ev_iload dt_Tu_errand_161 rfl ?_
                                  exact ev_ireturn dt_Tu_errand_163 rfl ⟨rfl, _, rfl, by omega⟩
                                · skip
                                  refine ev_iload dt_Tu_errand_156 rfl ?_
                                  refine ev_goto (tgt := 163) dt_Tu_errand_158 (by decide) ?_
                                  exact ev_ireturn dt_Tu_errand_163 rfl ⟨rfl, _, rfl, by omega⟩
                        · skip
                          exfalso
                          omega
                      · skip
                        refine ev_iload dt_Tu_errand_87 rfl ?_
                        refine ev_bipush dt_Tu_errand_89 rfl ?_
                        refine ev_icmp_gt (tgt := 183) dt_Tu_errand_91 (by decide) (by omega) (by omega) (fun h124 => ?_) (fun h124 => ?_)
                        · skip
                          refine ev_bipush dt_Tu_errand_183 rfl ?_
                          exact ev_ireturn dt_Tu_errand_185 rfl ⟨rfl, _, rfl, by omega⟩
                        · skip
                          refine ev_iload dt_Tu_errand_94 rfl ?_
                          refine ev_iload dt_Tu_errand_96 rfl ?_
                          refine tm_sp dt_Tu_errand_98 (tm_Tu_facedBy hW (v106) (by omega) (by omega) (i109) (by omega) (by omega)) kb_Tu_244 sc_Tu_facedBy rfl (Nat.le_of_ble_eq_true rfl) (by decide) (fun v125 hv125 => ?_)
                          refine ev_istore (l' := [_, _, _, _, _, _, _, _, _, _]) dt_Tu_errand_101 (Nat.le_of_ble_eq_true rfl) rfl ?_
                          refine ev_iload dt_Tu_errand_103 rfl ?_
                          refine ev_if_ge (tgt := 118) dt_Tu_errand_105 (by decide) (by omega) (fun h126 => ?_) (fun h126 => ?_)
                          · skip
                            exfalso
                            omega
                          · skip
                            refine ev_iload dt_Tu_errand_108 rfl ?_
                            refine ev_iload_n dt_Tu_errand_110 rfl rfl ?_
                            refine ev_icmp_ne (tgt := 118) dt_Tu_errand_111 (by decide) (by omega) (by omega) (fun h127 => ?_) (fun h127 => ?_)
                            · skip
                              refine ev_iload dt_Tu_errand_118 rfl ?_
                              refine ev_if_lt (tgt := 164) dt_Tu_errand_120 (by decide) (by omega) (fun h128 => ?_) (fun h128 => ?_)
                              · skip
                                refine ev_aload_n dt_Tu_errand_164 rfl rfl ?_
                                refine tm_getK (K := 1) dt_Tu_errand_165 hW tut0 fl_Tu_19 rfl kn ?_
                                refine ev_iload dt_Tu_errand_168 rfl ?_
                                refine ev_iload dt_Tu_errand_170 rfl ?_
                                refine tm_vp dt_Tu_errand_172 (tm_Ri_angleBehind hW h_a (i109) (by omega) (by omega) (i111) (by omega) (by omega)) kb_Tu_256 ⟨im_Ri_angleBehind, se_Ri_angleBehind⟩ rfl hW at0 rfl (Nat.le_of_ble_eq_true rfl) (by decide) (fun v129 hv129 => ?_)
                                refine ev_istore (l' := [_, _, _, _, _, _, _, _, _, _]) dt_Tu_errand_175 (Nat.le_of_ble_eq_true rfl) rfl ?_
                                refine ev_iinc (l' := [_, _, _, _, _, _, _, _, _, _]) dt_Tu_errand_177 rfl rfl ?_
                                refine ev_goto (tgt := 75) dt_Tu_errand_180 (by decide) ?_
                                exact tm_loc (tm_le_s (tm_le_n (tm_le_s (tm_le_s (tm_le_s (tm_le_s (tm_le_s (tm_le_s (tm_le_s (tm_le_n tm_le_0)))))))))) (ihL108 (v129) (i110) ((i111 + 1)) (by omega) (by omega) (by omega) (by omega) (by omega) (by omega) (by omega))
                              · skip
                                exfalso
                                omega
                            · skip
                              refine ev_iload dt_Tu_errand_114 rfl ?_
                              refine ev_istore (l' := [_, _, _, _, _, _, _, _, _, _]) dt_Tu_errand_116 (Nat.le_of_ble_eq_true rfl) rfl ?_
                              refine ev_iload dt_Tu_errand_118 rfl ?_
                              refine ev_if_lt (tgt := 164) dt_Tu_errand_120 (by decide) (by omega) (fun h130 => ?_) (fun h130 => ?_)
                              · skip
                                exfalso
                                omega
                              · skip
                                refine ev_aload_n dt_Tu_errand_123 rfl rfl ?_
                                refine tm_getK (K := 1) dt_Tu_errand_124 hW tut0 fl_Tu_19 rfl kn ?_
                                refine ev_iload dt_Tu_errand_127 rfl ?_
                                refine tm_vp dt_Tu_errand_129 (tm_Ri_isGate hW h_a (v125) (by omega) (by omega)) kb_Tu_146 ⟨im_Ri_isGate, se_Ri_isGate⟩ rfl hW at0 rfl (Nat.le_of_ble_eq_true rfl) (by decide) (fun v131 hv131 => ?_)
                                refine ev_if_eq (tgt := 164) dt_Tu_errand_132 (by decide) (by omega) (fun h132 => ?_) (fun h132 => ?_)
                                · skip
                                  refine ev_aload_n dt_Tu_errand_164 rfl rfl ?_
                                  refine tm_getK (K := 1) dt_Tu_errand_165 hW tut0 fl_Tu_19 rfl kn ?_
                                  refine ev_iload dt_Tu_errand_168 rfl ?_
                                  refine ev_iload dt_Tu_errand_170 rfl ?_
                                  refine tm_vp dt_Tu_errand_172 (tm_Ri_angleBehind hW h_a (i109) (by omega) (by omega) (i111) (by omega) (by omega)) kb_Tu_256 ⟨im_Ri_angleBehind, se_Ri_angleBehind⟩ rfl hW at0 rfl (Nat.le_of_ble_eq_true rfl) (by decide) (fun v133 hv133 => ?_)
                                  refine ev_istore (l' := [_, _, _, _, _, _, _, _, _, _]) dt_Tu_errand_175 (Nat.le_of_ble_eq_true rfl) rfl ?_
                                  refine ev_iinc (l' := [_, _, _, _, _, _, _, _, _, _]) dt_Tu_errand_177 rfl rfl ?_
                                  refine ev_goto (tgt := 75) dt_Tu_errand_180 (by decide) ?_
                                  exact tm_loc (tm_le_s (tm_le_n (tm_le_s (tm_le_s (tm_le_s (tm_le_s (tm_le_s (tm_le_s (tm_le_s (tm_le_n tm_le_0)))))))))) (ihL108 (v133) (i111) ((i111 + 1)) (by omega) (by omega) (by omega) (by omega) (by omega) (by omega) (by omega))
                                · skip
                                  refine ev_iload dt_Tu_errand_135 rfl ?_
                                  refine ev_iload dt_Tu_errand_137 rfl ?_
                                  refine ev_iload_n dt_Tu_errand_139 rfl rfl ?_
                                  refine ev_iadd dt_Tu_errand_140 ?_
                                  refine ev_iload_n dt_Tu_errand_141 rfl rfl ?_
                                  refine ev_iload dt_Tu_errand_142 rfl ?_
                                  refine tm_sp dt_Tu_errand_144 (tm_Tu_wayBetween hW (y2) (by omega) (by omega) (v125) (by omega) (by omega)) kb_Tu_253 sc_Tu_wayBetween rfl (Nat.le_of_ble_eq_true rfl) (by decide) (fun v134 hv134 => ?_)
                                  refine ev_iadd dt_Tu_errand_147 ?_
                                  refine ev_icmp_lt (tgt := 164) dt_Tu_errand_148 (by decide) (by omega) (by omega) (fun h135 => ?_) (fun h135 => ?_)
                                  · skip
                                    refine ev_aload_n dt_Tu_errand_164 rfl rfl ?_
                                    refine tm_getK (K := 1) dt_Tu_errand_165 hW tut0 fl_Tu_19 rfl kn ?_
                                    refine ev_iload dt_Tu_errand_168 rfl ?_
                                    refine ev_iload dt_Tu_errand_170 rfl ?_
                                    refine tm_vp dt_Tu_errand_172 (tm_Ri_angleBehind hW h_a (i109) (by omega) (by omega) (i111) (by omega) (by omega)) kb_Tu_256 ⟨im_Ri_angleBehind, se_Ri_angleBehind⟩ rfl hW at0 rfl (Nat.le_of_ble_eq_true rfl) (by decide) (fun v136 hv136 => ?_)
                                    refine ev_istore (l' := [_, _, _, _, _, _, _, _, _, _]) dt_Tu_errand_175 (Nat.le_of_ble_eq_true rfl) rfl ?_
                                    refine ev_iinc (l' := [_, _, _, _, _, _, _, _, _, _]) dt_Tu_errand_177 rfl rfl ?_
                                    refine ev_goto (tgt := 75) dt_Tu_errand_180 (by decide) ?_
                                    exact tm_loc (tm_le_s (tm_le_n (tm_le_s (tm_le_s (tm_le_s (tm_le_s (tm_le_s (tm_le_s (tm_le_s (tm_le_n tm_le_0)))))))))) (ihL108 (v136) (i111) ((i111 + 1)) (by omega) (by omega) (by omega) (by omega) (by omega) (by omega) (by omega))
                                  · skip
                                    refine ev_iload dt_Tu_errand_151 rfl ?_
                                    refine ev_if_ne (tgt := 161) dt_Tu_errand_153 (by decide) (by omega) (fun h137 => ?_) (fun h137 => ?_)
                                    · skip
                                      refine ev_iload dt_Tu_errand_161 rfl ?_
                                      exact ev_ireturn dt_Tu_errand_163 rfl ⟨rfl, _, rfl, by omega⟩
                                    · skip
                                      refine ev_iload dt_Tu_errand_156 rfl ?_
                                      refine ev_goto (tgt := 163) dt_Tu_errand_158 (by decide) ?_
                                      exact ev_ireturn dt_Tu_errand_163 rfl ⟨rfl, _, rfl, by omega⟩
                exact tm_loc (tm_le_s (tm_le_n (tm_le_s (tm_le_s (tm_le_s (tm_le_s (tm_le_s (tm_le_s (tm_le_s (tm_le_n tm_le_0)))))))))) (L108 (97 - (0) + 1 : Int).toNat (v107) ((-1)) (0)  (by omega) (by omega) (by omega) (by omega) (by omega) (by omega) (by omega))
              · skip
                refine ev_iconst dt_Tu_errand_47 ?_
                exact ev_ireturn dt_Tu_errand_48 rfl ⟨rfl, _, rfl, by omega⟩
theorem dt_Tu_stay_0 : decode prog_1_method_25_code 0 = .ok (.aload_n 0, 1) := by decide +kernel
theorem dt_Tu_stay_1 : decode prog_1_method_25_code 1 = .ok (.getfield 19, 3) := by decide +kernel
theorem dt_Tu_stay_4 : decode prog_1_method_25_code 4 = .ok (.getfield 152, 3) := by decide +kernel
theorem dt_Tu_stay_7 : decode prog_1_method_25_code 7 = .ok (.ifCond .eq 12, 3) := by decide +kernel
theorem dt_Tu_stay_10 : decode prog_1_method_25_code 10 = .ok (.iload_n 1, 1) := by decide +kernel
theorem dt_Tu_stay_11 : decode prog_1_method_25_code 11 = .ok (.ifCond .lt 8, 3) := by decide +kernel
theorem dt_Tu_stay_14 : decode prog_1_method_25_code 14 = .ok (.iload_n 1, 1) := by decide +kernel
theorem dt_Tu_stay_15 : decode prog_1_method_25_code 15 = .ok (.iconst 1, 1) := by decide +kernel
theorem dt_Tu_stay_16 : decode prog_1_method_25_code 16 = .ok (.if_icmp .le 5, 3) := by decide +kernel
theorem dt_Tu_stay_19 : decode prog_1_method_25_code 19 = .ok (.iconst (-1), 1) := by decide +kernel
theorem dt_Tu_stay_20 : decode prog_1_method_25_code 20 = .ok (.ireturn, 1) := by decide +kernel
theorem dt_Tu_stay_21 : decode prog_1_method_25_code 21 = .ok (.iload_n 1, 1) := by decide +kernel
theorem dt_Tu_stay_22 : decode prog_1_method_25_code 22 = .ok (.iconst 1, 1) := by decide +kernel
theorem dt_Tu_stay_23 : decode prog_1_method_25_code 23 = .ok (.if_icmp .ne 28, 3) := by decide +kernel
theorem dt_Tu_stay_26 : decode prog_1_method_25_code 26 = .ok (.iconst 2, 1) := by decide +kernel
theorem dt_Tu_stay_27 : decode prog_1_method_25_code 27 = .ok (.aload_n 0, 1) := by decide +kernel
theorem dt_Tu_stay_28 : decode prog_1_method_25_code 28 = .ok (.getfield 19, 3) := by decide +kernel
theorem dt_Tu_stay_31 : decode prog_1_method_25_code 31 = .ok (.invokevirtual 267, 3) := by decide +kernel
theorem dt_Tu_stay_34 : decode prog_1_method_25_code 34 = .ok (.imul, 1) := by decide +kernel
theorem dt_Tu_stay_35 : decode prog_1_method_25_code 35 = .ok (.aload_n 0, 1) := by decide +kernel
theorem dt_Tu_stay_36 : decode prog_1_method_25_code 36 = .ok (.getfield 19, 3) := by decide +kernel
theorem dt_Tu_stay_39 : decode prog_1_method_25_code 39 = .ok (.invokevirtual 204, 3) := by decide +kernel
theorem dt_Tu_stay_42 : decode prog_1_method_25_code 42 = .ok (.if_icmp .le 7, 3) := by decide +kernel
theorem dt_Tu_stay_45 : decode prog_1_method_25_code 45 = .ok (.iconst 1, 1) := by decide +kernel
theorem dt_Tu_stay_46 : decode prog_1_method_25_code 46 = .ok (.goto 4, 3) := by decide +kernel
theorem dt_Tu_stay_49 : decode prog_1_method_25_code 49 = .ok (.iconst 0, 1) := by decide +kernel
theorem dt_Tu_stay_50 : decode prog_1_method_25_code 50 = .ok (.ireturn, 1) := by decide +kernel
theorem dt_Tu_stay_51 : decode prog_1_method_25_code 51 = .ok (.iconst 0, 1) := by decide +kernel
theorem dt_Tu_stay_52 : decode prog_1_method_25_code 52 = .ok (.istore_n 2, 1) := by decide +kernel
theorem dt_Tu_stay_53 : decode prog_1_method_25_code 53 = .ok (.iconst 0, 1) := by decide +kernel
theorem dt_Tu_stay_54 : decode prog_1_method_25_code 54 = .ok (.istore_n 3, 1) := by decide +kernel
theorem dt_Tu_stay_55 : decode prog_1_method_25_code 55 = .ok (.iload_n 3, 1) := by decide +kernel
theorem dt_Tu_stay_56 : decode prog_1_method_25_code 56 = .ok (.aload_n 0, 1) := by decide +kernel
theorem dt_Tu_stay_57 : decode prog_1_method_25_code 57 = .ok (.getfield 19, 3) := by decide +kernel
theorem dt_Tu_stay_60 : decode prog_1_method_25_code 60 = .ok (.getfield 102, 3) := by decide +kernel
theorem dt_Tu_stay_63 : decode prog_1_method_25_code 63 = .ok (.if_icmp .ge 26, 3) := by decide +kernel
theorem dt_Tu_stay_66 : decode prog_1_method_25_code 66 = .ok (.aload_n 0, 1) := by decide +kernel
theorem dt_Tu_stay_67 : decode prog_1_method_25_code 67 = .ok (.getfield 19, 3) := by decide +kernel
theorem dt_Tu_stay_70 : decode prog_1_method_25_code 70 = .ok (.iload_n 3, 1) := by decide +kernel
theorem dt_Tu_stay_71 : decode prog_1_method_25_code 71 = .ok (.invokevirtual 149, 3) := by decide +kernel
theorem dt_Tu_stay_74 : decode prog_1_method_25_code 74 = .ok (.ifCond .eq 9, 3) := by decide +kernel
theorem dt_Tu_stay_77 : decode prog_1_method_25_code 77 = .ok (.iload_n 2, 1) := by decide +kernel
theorem dt_Tu_stay_78 : decode prog_1_method_25_code 78 = .ok (.iconst 1, 1) := by decide +kernel
theorem dt_Tu_stay_79 : decode prog_1_method_25_code 79 = .ok (.iload_n 3, 1) := by decide +kernel
theorem dt_Tu_stay_80 : decode prog_1_method_25_code 80 = .ok (.ishl, 1) := by decide +kernel
theorem dt_Tu_stay_81 : decode prog_1_method_25_code 81 = .ok (.ior, 1) := by decide +kernel
theorem dt_Tu_stay_82 : decode prog_1_method_25_code 82 = .ok (.istore_n 2, 1) := by decide +kernel
theorem dt_Tu_stay_83 : decode prog_1_method_25_code 83 = .ok (.iinc 3 1, 3) := by decide +kernel
theorem dt_Tu_stay_86 : decode prog_1_method_25_code 86 = .ok (.goto (-31), 3) := by decide +kernel
theorem dt_Tu_stay_89 : decode prog_1_method_25_code 89 = .ok (.iload_n 2, 1) := by decide +kernel
theorem dt_Tu_stay_90 : decode prog_1_method_25_code 90 = .ok (.ireturn, 1) := by decide +kernel
set_option maxHeartbeats 4000000 in
set_option maxRecDepth 10000 in
theorem tm_Tu_stay {N : Nat} {T : Nat → tm_S} {w : ab_W} {tu tp im md rl ac rr ma pl tr gu a b : Nat} (hW : tm_W N T w) (h_all : is_All T tu tp im md rl ac rr ma pl tr gu a b) (kn : tm_g w tu 1 = some (ab_R a)) (kt : tm_g w tu 2 = some (ab_R b)) (y1 : Int) (l_y1 : (-2147483648) ≤ y1) (u_y1 : y1 ≤ 2147483647) : ab_Mt g_G g_rs mt_Tu_stay 4 0 0 [ab_R tu, ab_I y1] w (tm_P w (fun v => (-2147483648) ≤ v ∧ v ≤ 2147483647)) := by
  obtain ⟨tut0, imt0, mdt0, rlt0, h_tp, h_ac, h_rr, h_ma, hzz⟩ := id h_all
  obtain ⟨h_pl, h_tr, h_gu, h_a, h_b, e_all, e_ab⟩ := hzz
  obtain ⟨tpt0, tpt1⟩ := id h_tp
  obtain ⟨act0, act1, act2, act3⟩ := id h_ac
  obtain ⟨rrt0, rrt1⟩ := id h_rr
  obtain ⟨mat0, mat1⟩ := id h_ma
  obtain ⟨plt0, plt1, plt2, plt3, plt4⟩ := id h_pl
  obtain ⟨trt0, trt1, trt2, trt3, trt4, trt5⟩ := id h_tr
  obtain ⟨gut0, gut1, gut2, gut3⟩ := id h_gu
  obtain ⟨at0, at1, at2, at3, at4, at5, at6, at7, at8, at9, at10, at11, at12⟩ := id h_a
  have ad := is_Ri.d h_a
  obtain ⟨bt0, bt1, bt2, bt3, bt4, bt5, bt6, bt7, bt8, bt9, bt10, bt11, bt12⟩ := id h_b
  have bd := is_Ri.d h_b
  refine ab_Mt.of rfl (Nat.le_of_ble_eq_true rfl) ?_
  show ab_Ev g_G g_rs mt_Tu_stay _ _ _ 0 [some (ab_R tu), some (ab_I y1), none, none] [] _ _
  refine ev_aload_n dt_Tu_stay_0 rfl rfl ?_
  refine tm_getK (K := 1) dt_Tu_stay_1 hW tut0 fl_Tu_19 rfl kn ?_
  refine tm_getI (K := 0) dt_Tu_stay_4 hW at0 fl_Tu_152 rfl rfl (fun v138 kv138 lv138 uv138 => ?_)
  refine ev_if_eq (tgt := 19) dt_Tu_stay_7 (by decide) (by omega) (fun h139 => ?_) (fun h139 => ?_)
  · skip
    refine ev_iconst dt_Tu_stay_19 ?_
    exact ev_ireturn dt_Tu_stay_20 rfl ⟨rfl, _, rfl, by omega⟩
  · skip
    refine ev_iload_n dt_Tu_stay_10 rfl rfl ?_
    refine ev_if_lt (tgt := 19) dt_Tu_stay_11 (by decide) (by omega) (fun h140 => ?_) (fun h140 => ?_)
    · skip
      refine ev_iconst dt_Tu_stay_19 ?_
      exact ev_ireturn dt_Tu_stay_20 rfl ⟨rfl, _, rfl, by omega⟩
    · skip
      refine ev_iload_n dt_Tu_stay_14 rfl rfl ?_
      refine ev_iconst dt_Tu_stay_15 ?_
      refine ev_icmp_le (tgt := 21) dt_Tu_stay_16 (by decide) (by omega) (by omega) (fun h141 => ?_) (fun h141 => ?_)
      · skip
        refine ev_iload_n dt_Tu_stay_21 rfl rfl ?_
        refine ev_iconst dt_Tu_stay_22 ?_
        refine ev_icmp_ne (tgt := 51) dt_Tu_stay_23 (by decide) (by omega) (by omega) (fun h142 => ?_) (fun h142 => ?_)
        · skip
          refine ev_iconst dt_Tu_stay_51 ?_
          refine ev_istore_n (l' := [_, _, _, _]) dt_Tu_stay_52 rfl (Nat.le_of_ble_eq_true rfl) rfl ?_
          refine ev_iconst dt_Tu_stay_53 ?_
          refine ev_istore_n (l' := [_, _, _, _]) dt_Tu_stay_54 rfl (Nat.le_of_ble_eq_true rfl) rfl ?_
          have L143 : ∀ (n : Nat) (i144 : Int) (i145 : Int) , 0 ≤ i144 → i144 ≤ 127 → 0 ≤ i145 → i145 ≤ 7 → 7 - i145 < (n : Int) → ab_Ev g_G g_rs mt_Tu_stay 4 0 0 55 [some (ab_R tu), none, some (ab_I i144), some (ab_I i145)] [] w (tm_P w (fun v => (-2147483648) ≤ v ∧ v ≤ 2147483647)) := by
            intro n
            induction n with
            | zero =>
              intro i144 i145  li144 ui144 li145 ui145 mL143
              exfalso
              omega
            | succ nL143 ihL143 =>
              intro i144 i145  li144 ui144 li145 ui145 mL143
              refine ev_iload_n dt_Tu_stay_55 rfl rfl ?_
              refine ev_aload_n dt_Tu_stay_56 rfl rfl ?_
              refine tm_getK (K := 1) dt_Tu_stay_57 hW tut0 fl_Tu_19 rfl kn ?_
              refine tm_getI (K := 7) dt_Tu_stay_60 hW at0 fl_Tu_102 rfl rfl (fun v146 kv146 lv146 uv146 => ?_)
              refine ev_icmp_ge (tgt := 89) dt_Tu_stay_63 (by decide) (by omega) (by omega) (fun h147 => ?_) (fun h147 => ?_)
              · skip
                refine ev_iload_n dt_Tu_stay_89 rfl rfl ?_
                exact ev_ireturn dt_Tu_stay_90 rfl ⟨rfl, _, rfl, by omega⟩
              · skip
                refine ev_aload_n dt_Tu_stay_66 rfl rfl ?_
                refine tm_getK (K := 1) dt_Tu_stay_67 hW tut0 fl_Tu_19 rfl kn ?_
                refine ev_iload_n dt_Tu_stay_70 rfl rfl ?_
                refine tm_vp dt_Tu_stay_71 (tm_Ri_wantsStay hW h_a (i145) (by omega) (by omega)) kb_Tu_149 ⟨im_Ri_wantsStay, se_Ri_wantsStay⟩ rfl hW at0 rfl (Nat.le_of_ble_eq_true rfl) (by decide) (fun v148 hv148 => ?_)
                refine ev_if_eq (tgt := 83) dt_Tu_stay_74 (by decide) (by omega) (fun h149 => ?_) (fun h149 => ?_)
                · skip
                  refine ev_iinc (l' := [_, _, _, _]) dt_Tu_stay_83 rfl rfl ?_
                  refine ev_goto (tgt := 55) dt_Tu_stay_86 (by decide) ?_
                  exact tm_loc (tm_le_s (tm_le_n (tm_le_s (tm_le_s tm_le_0)))) (ihL143 (i144) ((i145 + 1)) (by omega) (by omega) (by omega) (by omega) (by omega))
                · skip
                  refine ev_iload_n dt_Tu_stay_77 rfl rfl ?_
                  refine ev_iconst dt_Tu_stay_78 ?_
                  refine ev_iload_n dt_Tu_stay_79 rfl rfl ?_
                  refine tm_shl1 dt_Tu_stay_80 (by omega) (by omega) (fun v150 x1 x2 x3 x4 => ?_)
                  have hv150 : 1 ≤ v150 ∧ v150 ≤ 64 := by omega
                  clear x1 x2 x3 x4
                  refine tm_ior dt_Tu_stay_81 (fun v151 x1 x2 => ?_)
                  have hv151 : 0 ≤ v151 ∧ v151 ≤ 127 := by omega
                  clear x1 x2
                  refine ev_istore_n (l' := [_, _, _, _]) dt_Tu_stay_82 rfl (Nat.le_of_ble_eq_true rfl) rfl ?_
                  refine ev_iinc (l' := [_, _, _, _]) dt_Tu_stay_83 rfl rfl ?_
                  refine ev_goto (tgt := 55) dt_Tu_stay_86 (by decide) ?_
                  exact tm_loc (tm_le_s (tm_le_n (tm_le_s (tm_le_s tm_le_0)))) (ihL143 (v151) ((i145 + 1)) (by omega) (by omega) (by omega) (by omega) (by omega))
          exact tm_loc (tm_le_s (tm_le_n (tm_le_s (tm_le_s tm_le_0)))) (L143 (7 - (0) + 1 : Int).toNat (0) (0)  (by omega) (by omega) (by omega) (by omega) (by omega))
        · skip
          refine ev_iconst dt_Tu_stay_26 ?_
          refine ev_aload_n dt_Tu_stay_27 rfl rfl ?_
          refine tm_getK (K := 1) dt_Tu_stay_28 hW tut0 fl_Tu_19 rfl kn ?_
          refine tm_vp dt_Tu_stay_31 (tm_Ri_stayVotes hW h_a) kb_Tu_267 ⟨im_Ri_stayVotes, se_Ri_stayVotes⟩ rfl hW at0 rfl (Nat.le_of_ble_eq_true rfl) (by decide) (fun v152 hv152 => ?_)
          refine ev_imul dt_Tu_stay_34 ?_
          refine tm_any (fun v153 hv153 _ => ?_)
          refine ev_aload_n dt_Tu_stay_35 rfl rfl ?_
          refine tm_getK (K := 1) dt_Tu_stay_36 hW tut0 fl_Tu_19 rfl kn ?_
          refine tm_vp dt_Tu_stay_39 (tm_Ri_allVotes hW h_a) kb_Tu_204 ⟨im_Ri_allVotes, se_Ri_allVotes⟩ rfl hW at0 rfl (Nat.le_of_ble_eq_true rfl) (by decide) (fun v154 hv154 => ?_)
          refine ev_icmp_le (tgt := 49) dt_Tu_stay_42 (by decide) (by omega) (by omega) (fun h155 => ?_) (fun h155 => ?_)
          · skip
            refine ev_iconst dt_Tu_stay_49 ?_
            exact ev_ireturn dt_Tu_stay_50 rfl ⟨rfl, _, rfl, by omega⟩
          · skip
            refine ev_iconst dt_Tu_stay_45 ?_
            refine ev_goto (tgt := 50) dt_Tu_stay_46 (by decide) ?_
            exact ev_ireturn dt_Tu_stay_50 rfl ⟨rfl, _, rfl, by omega⟩
      · skip
        refine ev_iconst dt_Tu_stay_19 ?_
        exact ev_ireturn dt_Tu_stay_20 rfl ⟨rfl, _, rfl, by omega⟩
theorem dt_Tu_spare_0 : decode prog_1_method_29_code 0 = .ok (.aload_n 0, 1) := by decide +kernel
theorem dt_Tu_spare_1 : decode prog_1_method_29_code 1 = .ok (.getfield 19, 3) := by decide +kernel
theorem dt_Tu_spare_4 : decode prog_1_method_29_code 4 = .ok (.getfield 152, 3) := by decide +kernel
theorem dt_Tu_spare_7 : decode prog_1_method_29_code 7 = .ok (.ifCond .eq 32, 3) := by decide +kernel
theorem dt_Tu_spare_10 : decode prog_1_method_29_code 10 = .ok (.iload_n 1, 1) := by decide +kernel
theorem dt_Tu_spare_11 : decode prog_1_method_29_code 11 = .ok (.iconst 1, 1) := by decide +kernel
theorem dt_Tu_spare_12 : decode prog_1_method_29_code 12 = .ok (.if_icmp .lt 27, 3) := by decide +kernel
theorem dt_Tu_spare_15 : decode prog_1_method_29_code 15 = .ok (.iload_n 1, 1) := by decide +kernel
theorem dt_Tu_spare_16 : decode prog_1_method_29_code 16 = .ok (.iconst 5, 1) := by decide +kernel
theorem dt_Tu_spare_17 : decode prog_1_method_29_code 17 = .ok (.if_icmp .gt 22, 3) := by decide +kernel
theorem dt_Tu_spare_20 : decode prog_1_method_29_code 20 = .ok (.iload_n 2, 1) := by decide +kernel
theorem dt_Tu_spare_21 : decode prog_1_method_29_code 21 = .ok (.ifCond .lt 18, 3) := by decide +kernel
theorem dt_Tu_spare_24 : decode prog_1_method_29_code 24 = .ok (.iload_n 2, 1) := by decide +kernel
theorem dt_Tu_spare_25 : decode prog_1_method_29_code 25 = .ok (.bipush 10, 2) := by decide +kernel
theorem dt_Tu_spare_27 : decode prog_1_method_29_code 27 = .ok (.if_icmp .gt 12, 3) := by decide +kernel
theorem dt_Tu_spare_30 : decode prog_1_method_29_code 30 = .ok (.iload_n 3, 1) := by decide +kernel
theorem dt_Tu_spare_31 : decode prog_1_method_29_code 31 = .ok (.ifCond .lt 8, 3) := by decide +kernel
theorem dt_Tu_spare_34 : decode prog_1_method_29_code 34 = .ok (.iload_n 3, 1) := by decide +kernel
theorem dt_Tu_spare_35 : decode prog_1_method_29_code 35 = .ok (.iconst 5, 1) := by decide +kernel
theorem dt_Tu_spare_36 : decode prog_1_method_29_code 36 = .ok (.if_icmp .le 5, 3) := by decide +kernel
theorem dt_Tu_spare_39 : decode prog_1_method_29_code 39 = .ok (.iconst (-1), 1) := by decide +kernel
theorem dt_Tu_spare_40 : decode prog_1_method_29_code 40 = .ok (.ireturn, 1) := by decide +kernel
theorem dt_Tu_spare_41 : decode prog_1_method_29_code 41 = .ok (.iload_n 2, 1) := by decide +kernel
theorem dt_Tu_spare_42 : decode prog_1_method_29_code 42 = .ok (.iconst 2, 1) := by decide +kernel
theorem dt_Tu_spare_43 : decode prog_1_method_29_code 43 = .ok (.iload_n 1, 1) := by decide +kernel
theorem dt_Tu_spare_44 : decode prog_1_method_29_code 44 = .ok (.imul, 1) := by decide +kernel
theorem dt_Tu_spare_45 : decode prog_1_method_29_code 45 = .ok (.if_icmp .gt 8, 3) := by decide +kernel
theorem dt_Tu_spare_48 : decode prog_1_method_29_code 48 = .ok (.iload_n 3, 1) := by decide +kernel
theorem dt_Tu_spare_49 : decode prog_1_method_29_code 49 = .ok (.iload_n 1, 1) := by decide +kernel
theorem dt_Tu_spare_50 : decode prog_1_method_29_code 50 = .ok (.if_icmp .le 6, 3) := by decide +kernel
theorem dt_Tu_spare_53 : decode prog_1_method_29_code 53 = .ok (.bipush (-2), 2) := by decide +kernel
theorem dt_Tu_spare_55 : decode prog_1_method_29_code 55 = .ok (.ireturn, 1) := by decide +kernel
theorem dt_Tu_spare_56 : decode prog_1_method_29_code 56 = .ok (.iload_n 3, 1) := by decide +kernel
theorem dt_Tu_spare_57 : decode prog_1_method_29_code 57 = .ok (.ifCond .ne 14, 3) := by decide +kernel
theorem dt_Tu_spare_60 : decode prog_1_method_29_code 60 = .ok (.aload_n 0, 1) := by decide +kernel
theorem dt_Tu_spare_61 : decode prog_1_method_29_code 61 = .ok (.getfield 19, 3) := by decide +kernel
theorem dt_Tu_spare_64 : decode prog_1_method_29_code 64 = .ok (.iload_n 2, 1) := by decide +kernel
theorem dt_Tu_spare_65 : decode prog_1_method_29_code 65 = .ok (.invokevirtual 296, 3) := by decide +kernel
theorem dt_Tu_spare_68 : decode prog_1_method_29_code 68 = .ok (.goto 18, 3) := by decide +kernel
theorem dt_Tu_spare_71 : decode prog_1_method_29_code 71 = .ok (.iconst 0, 1) := by decide +kernel
theorem dt_Tu_spare_72 : decode prog_1_method_29_code 72 = .ok (.iconst 2, 1) := by decide +kernel
theorem dt_Tu_spare_73 : decode prog_1_method_29_code 73 = .ok (.iload_n 2, 1) := by decide +kernel
theorem dt_Tu_spare_74 : decode prog_1_method_29_code 74 = .ok (.iconst 2, 1) := by decide +kernel
theorem dt_Tu_spare_75 : decode prog_1_method_29_code 75 = .ok (.iload_n 1, 1) := by decide +kernel
theorem dt_Tu_spare_76 : decode prog_1_method_29_code 76 = .ok (.iload_n 3, 1) := by decide +kernel
theorem dt_Tu_spare_77 : decode prog_1_method_29_code 77 = .ok (.isub, 1) := by decide +kernel
theorem dt_Tu_spare_78 : decode prog_1_method_29_code 78 = .ok (.imul, 1) := by decide +kernel
theorem dt_Tu_spare_79 : decode prog_1_method_29_code 79 = .ok (.isub, 1) := by decide +kernel
theorem dt_Tu_spare_80 : decode prog_1_method_29_code 80 = .ok (.invokestatic 264, 3) := by decide +kernel
theorem dt_Tu_spare_83 : decode prog_1_method_29_code 83 = .ok (.invokestatic 299, 3) := by decide +kernel
theorem dt_Tu_spare_86 : decode prog_1_method_29_code 86 = .ok (.ireturn, 1) := by decide +kernel
set_option maxHeartbeats 4000000 in
set_option maxRecDepth 10000 in
theorem tm_Tu_spare {N : Nat} {T : Nat → tm_S} {w : ab_W} {tu tp im md rl ac rr ma pl tr gu a b : Nat} (hW : tm_W N T w) (h_all : is_All T tu tp im md rl ac rr ma pl tr gu a b) (kn : tm_g w tu 1 = some (ab_R a)) (kt : tm_g w tu 2 = some (ab_R b)) (y1 : Int) (l_y1 : (-2147483648) ≤ y1) (u_y1 : y1 ≤ 2147483647) (y2 : Int) (l_y2 : (-2147483648) ≤ y2) (u_y2 : y2 ≤ 2147483647) (y3 : Int) (l_y3 : (-2147483648) ≤ y3) (u_y3 : y3 ≤ 2147483647) : ab_Mt g_G g_rs mt_Tu_spare 2 0 0 [ab_R tu, ab_I y1, ab_I y2, ab_I y3] w (tm_P w (fun v => (-2147483648) ≤ v ∧ v ≤ 2147483647)) := by
  obtain ⟨tut0, imt0, mdt0, rlt0, h_tp, h_ac, h_rr, h_ma, hzz⟩ := id h_all
  obtain ⟨h_pl, h_tr, h_gu, h_a, h_b, e_all, e_ab⟩ := hzz
  obtain ⟨tpt0, tpt1⟩ := id h_tp
  obtain ⟨act0, act1, act2, act3⟩ := id h_ac
  obtain ⟨rrt0, rrt1⟩ := id h_rr
  obtain ⟨mat0, mat1⟩ := id h_ma
  obtain ⟨plt0, plt1, plt2, plt3, plt4⟩ := id h_pl
  obtain ⟨trt0, trt1, trt2, trt3, trt4, trt5⟩ := id h_tr
  obtain ⟨gut0, gut1, gut2, gut3⟩ := id h_gu
  obtain ⟨at0, at1, at2, at3, at4, at5, at6, at7, at8, at9, at10, at11, at12⟩ := id h_a
  have ad := is_Ri.d h_a
  obtain ⟨bt0, bt1, bt2, bt3, bt4, bt5, bt6, bt7, bt8, bt9, bt10, bt11, bt12⟩ := id h_b
  have bd := is_Ri.d h_b
  refine ab_Mt.of rfl (Nat.le_of_ble_eq_true rfl) ?_
  show ab_Ev g_G g_rs mt_Tu_spare _ _ _ 0 [some (ab_R tu), some (ab_I y1), some (ab_I y2), some (ab_I y3)] [] _ _
  refine ev_aload_n dt_Tu_spare_0 rfl rfl ?_
  refine tm_getK (K := 1) dt_Tu_spare_1 hW tut0 fl_Tu_19 rfl kn ?_
  refine tm_getI (K := 0) dt_Tu_spare_4 hW at0 fl_Tu_152 rfl rfl (fun v156 kv156 lv156 uv156 => ?_)
  refine ev_if_eq (tgt := 39) dt_Tu_spare_7 (by decide) (by omega) (fun h157 => ?_) (fun h157 => ?_)
  · skip
    refine ev_iconst dt_Tu_spare_39 ?_
    exact ev_ireturn dt_Tu_spare_40 rfl ⟨rfl, _, rfl, by omega⟩
  · skip
    refine ev_iload_n dt_Tu_spare_10 rfl rfl ?_
    refine ev_iconst dt_Tu_spare_11 ?_
    refine ev_icmp_lt (tgt := 39) dt_Tu_spare_12 (by decide) (by omega) (by omega) (fun h158 => ?_) (fun h158 => ?_)
    · skip
      refine ev_iconst dt_Tu_spare_39 ?_
      exact ev_ireturn dt_Tu_spare_40 rfl ⟨rfl, _, rfl, by omega⟩
    · skip
      refine ev_iload_n dt_Tu_spare_15 rfl rfl ?_
      refine ev_iconst dt_Tu_spare_16 ?_
      refine ev_icmp_gt (tgt := 39) dt_Tu_spare_17 (by decide) (by omega) (by omega) (fun h159 => ?_) (fun h159 => ?_)
      · skip
        refine ev_iconst dt_Tu_spare_39 ?_
        exact ev_ireturn dt_Tu_spare_40 rfl ⟨rfl, _, rfl, by omega⟩
      · skip
        refine ev_iload_n dt_Tu_spare_20 rfl rfl ?_
        refine ev_if_lt (tgt := 39) dt_Tu_spare_21 (by decide) (by omega) (fun h160 => ?_) (fun h160 => ?_)
        · skip
          refine ev_iconst dt_Tu_spare_39 ?_
          exact ev_ireturn dt_Tu_spare_40 rfl ⟨rfl, _, rfl, by omega⟩
        · skip
          refine ev_iload_n dt_Tu_spare_24 rfl rfl ?_
          refine ev_bipush dt_Tu_spare_25 rfl ?_
          refine ev_icmp_gt (tgt := 39) dt_Tu_spare_27 (by decide) (by omega) (by omega) (fun h161 => ?_) (fun h161 => ?_)
          · skip
            refine ev_iconst dt_Tu_spare_39 ?_
            exact ev_ireturn dt_Tu_spare_40 rfl ⟨rfl, _, rfl, by omega⟩
          · skip
            refine ev_iload_n dt_Tu_spare_30 rfl rfl ?_
            refine ev_if_lt (tgt := 39) dt_Tu_spare_31 (by decide) (by omega) (fun h162 => ?_) (fun h162 => ?_)
            · skip
              refine ev_iconst dt_Tu_spare_39 ?_
              exact ev_ireturn dt_Tu_spare_40 rfl ⟨rfl, _, rfl, by omega⟩
            · skip
              refine ev_iload_n dt_Tu_spare_34 rfl rfl ?_
              refine ev_iconst dt_Tu_spare_35 ?_
              refine ev_icmp_le (tgt := 41) dt_Tu_spare_36 (by decide) (by omega) (by omega) (fun h163 => ?_) (fun h163 => ?_)
              · skip
                refine ev_iload_n dt_Tu_spare_41 rfl rfl ?_
                refine ev_iconst dt_Tu_spare_42 ?_
                refine ev_iload_n dt_Tu_spare_43 rfl rfl ?_
                refine ev_imul dt_Tu_spare_44 ?_
                refine ev_icmp_gt (tgt := 53) dt_Tu_spare_45 (by decide) (by omega) (by omega) (fun h164 => ?_) (fun h164 => ?_)
                · skip
                  refine ev_bipush dt_Tu_spare_53 rfl ?_
                  exact ev_ireturn dt_Tu_spare_55 rfl ⟨rfl, _, rfl, by omega⟩
                · skip
                  refine ev_iload_n dt_Tu_spare_48 rfl rfl ?_
                  refine ev_iload_n dt_Tu_spare_49 rfl rfl ?_
                  refine ev_icmp_le (tgt := 56) dt_Tu_spare_50 (by decide) (by omega) (by omega) (fun h165 => ?_) (fun h165 => ?_)
                  · skip
                    refine ev_iload_n dt_Tu_spare_56 rfl rfl ?_
                    refine ev_if_ne (tgt := 71) dt_Tu_spare_57 (by decide) (by omega) (fun h166 => ?_) (fun h166 => ?_)
                    · skip
                      refine ev_iconst dt_Tu_spare_71 ?_
                      refine ev_iconst dt_Tu_spare_72 ?_
                      refine ev_iload_n dt_Tu_spare_73 rfl rfl ?_
                      refine ev_iconst dt_Tu_spare_74 ?_
                      refine ev_iload_n dt_Tu_spare_75 rfl rfl ?_
                      refine ev_iload_n dt_Tu_spare_76 rfl rfl ?_
                      refine ev_isub dt_Tu_spare_77 ?_
                      refine ev_imul dt_Tu_spare_78 ?_
                      refine ev_isub dt_Tu_spare_79 ?_
                      refine tm_min (by omega) (by omega) dt_Tu_spare_80 mk_Tu_264 (Nat.le_of_ble_eq_true rfl) (by decide) (fun v167 x1 x2 x3 => ?_)
                      have hv167 : (-8) ≤ v167 ∧ v167 ≤ 2 := by omega
                      clear x1 x2 x3
                      refine tm_max (by omega) (by omega) dt_Tu_spare_83 mk_Tu_299 (Nat.le_of_ble_eq_true rfl) (by decide) (fun v168 x1 x2 x3 => ?_)
                      have hv168 : 0 ≤ v168 ∧ v168 ≤ 2 := by omega
                      clear x1 x2 x3
                      exact ev_ireturn dt_Tu_spare_86 rfl ⟨rfl, _, rfl, by omega⟩
                    · skip
                      refine ev_aload_n dt_Tu_spare_60 rfl rfl ?_
                      refine tm_getK (K := 1) dt_Tu_spare_61 hW tut0 fl_Tu_19 rfl kn ?_
                      refine ev_iload_n dt_Tu_spare_64 rfl rfl ?_
                      refine tm_vp dt_Tu_spare_65 (tm_Ri_mostWornBehind hW h_a (y2) (by omega) (by omega)) kb_Tu_296 ⟨im_Ri_mostWornBehind, se_Ri_mostWornBehind⟩ rfl hW at0 rfl (Nat.le_of_ble_eq_true rfl) (by decide) (fun v169 hv169 => ?_)
                      refine ev_goto (tgt := 86) dt_Tu_spare_68 (by decide) ?_
                      exact ev_ireturn dt_Tu_spare_86 rfl ⟨rfl, _, rfl, by omega⟩
                  · skip
                    refine ev_bipush dt_Tu_spare_53 rfl ?_
                    exact ev_ireturn dt_Tu_spare_55 rfl ⟨rfl, _, rfl, by omega⟩
              · skip
                refine ev_iconst dt_Tu_spare_39 ?_
                exact ev_ireturn dt_Tu_spare_40 rfl ⟨rfl, _, rfl, by omega⟩
theorem dt_Tu_swings_0 : decode prog_1_method_26_code 0 = .ok (.aload_n 0, 1) := by decide +kernel
theorem dt_Tu_swings_1 : decode prog_1_method_26_code 1 = .ok (.iload_n 1, 1) := by decide +kernel
theorem dt_Tu_swings_2 : decode prog_1_method_26_code 2 = .ok (.invokevirtual 118, 3) := by decide +kernel
theorem dt_Tu_swings_5 : decode prog_1_method_26_code 5 = .ok (.ifCond .ne 5, 3) := by decide +kernel
theorem dt_Tu_swings_8 : decode prog_1_method_26_code 8 = .ok (.iconst (-1), 1) := by decide +kernel
theorem dt_Tu_swings_9 : decode prog_1_method_26_code 9 = .ok (.ireturn, 1) := by decide +kernel
theorem dt_Tu_swings_10 : decode prog_1_method_26_code 10 = .ok (.aload_n 0, 1) := by decide +kernel
theorem dt_Tu_swings_11 : decode prog_1_method_26_code 11 = .ok (.getfield 19, 3) := by decide +kernel
theorem dt_Tu_swings_14 : decode prog_1_method_26_code 14 = .ok (.invokevirtual 204, 3) := by decide +kernel
theorem dt_Tu_swings_17 : decode prog_1_method_26_code 17 = .ok (.istore_n 2, 1) := by decide +kernel
theorem dt_Tu_swings_18 : decode prog_1_method_26_code 18 = .ok (.iconst 0, 1) := by decide +kernel
theorem dt_Tu_swings_19 : decode prog_1_method_26_code 19 = .ok (.istore_n 3, 1) := by decide +kernel
theorem dt_Tu_swings_20 : decode prog_1_method_26_code 20 = .ok (.iconst 0, 1) := by decide +kernel
theorem dt_Tu_swings_21 : decode prog_1_method_26_code 21 = .ok (.istore 4, 2) := by decide +kernel
theorem dt_Tu_swings_23 : decode prog_1_method_26_code 23 = .ok (.iload 4, 2) := by decide +kernel
theorem dt_Tu_swings_25 : decode prog_1_method_26_code 25 = .ok (.iconst 1, 1) := by decide +kernel
theorem dt_Tu_swings_26 : decode prog_1_method_26_code 26 = .ok (.aload_n 0, 1) := by decide +kernel
theorem dt_Tu_swings_27 : decode prog_1_method_26_code 27 = .ok (.getfield 19, 3) := by decide +kernel
theorem dt_Tu_swings_30 : decode prog_1_method_26_code 30 = .ok (.getfield 102, 3) := by decide +kernel
theorem dt_Tu_swings_33 : decode prog_1_method_26_code 33 = .ok (.ishl, 1) := by decide +kernel
theorem dt_Tu_swings_34 : decode prog_1_method_26_code 34 = .ok (.if_icmp .ge 58, 3) := by decide +kernel
theorem dt_Tu_swings_37 : decode prog_1_method_26_code 37 = .ok (.iload 4, 2) := by decide +kernel
theorem dt_Tu_swings_39 : decode prog_1_method_26_code 39 = .ok (.iload_n 1, 1) := by decide +kernel
theorem dt_Tu_swings_40 : decode prog_1_method_26_code 40 = .ok (.ishr, 1) := by decide +kernel
theorem dt_Tu_swings_41 : decode prog_1_method_26_code 41 = .ok (.iconst 1, 1) := by decide +kernel
theorem dt_Tu_swings_42 : decode prog_1_method_26_code 42 = .ok (.iand, 1) := by decide +kernel
theorem dt_Tu_swings_43 : decode prog_1_method_26_code 43 = .ok (.ifCond .ne 43, 3) := by decide +kernel
theorem dt_Tu_swings_46 : decode prog_1_method_26_code 46 = .ok (.aload_n 0, 1) := by decide +kernel
theorem dt_Tu_swings_47 : decode prog_1_method_26_code 47 = .ok (.getfield 19, 3) := by decide +kernel
theorem dt_Tu_swings_50 : decode prog_1_method_26_code 50 = .ok (.iload 4, 2) := by decide +kernel
theorem dt_Tu_swings_52 : decode prog_1_method_26_code 52 = .ok (.invokevirtual 270, 3) := by decide +kernel
theorem dt_Tu_swings_55 : decode prog_1_method_26_code 55 = .ok (.istore 5, 2) := by decide +kernel
theorem dt_Tu_swings_57 : decode prog_1_method_26_code 57 = .ok (.iconst 2, 1) := by decide +kernel
theorem dt_Tu_swings_58 : decode prog_1_method_26_code 58 = .ok (.iload 5, 2) := by decide +kernel
theorem dt_Tu_swings_60 : decode prog_1_method_26_code 60 = .ok (.imul, 1) := by decide +kernel
theorem dt_Tu_swings_61 : decode prog_1_method_26_code 61 = .ok (.iload_n 2, 1) := by decide +kernel
theorem dt_Tu_swings_62 : decode prog_1_method_26_code 62 = .ok (.if_icmp .gt 24, 3) := by decide +kernel
theorem dt_Tu_swings_65 : decode prog_1_method_26_code 65 = .ok (.iconst 2, 1) := by decide +kernel
theorem dt_Tu_swings_66 : decode prog_1_method_26_code 66 = .ok (.iload 5, 2) := by decide +kernel
theorem dt_Tu_swings_68 : decode prog_1_method_26_code 68 = .ok (.aload_n 0, 1) := by decide +kernel
theorem dt_Tu_swings_69 : decode prog_1_method_26_code 69 = .ok (.getfield 19, 3) := by decide +kernel
theorem dt_Tu_swings_72 : decode prog_1_method_26_code 72 = .ok (.getfield 129, 3) := by decide +kernel
theorem dt_Tu_swings_75 : decode prog_1_method_26_code 75 = .ok (.iload_n 1, 1) := by decide +kernel
theorem dt_Tu_swings_76 : decode prog_1_method_26_code 76 = .ok (.iaload, 1) := by decide +kernel
theorem dt_Tu_swings_77 : decode prog_1_method_26_code 77 = .ok (.iadd, 1) := by decide +kernel
theorem dt_Tu_swings_78 : decode prog_1_method_26_code 78 = .ok (.imul, 1) := by decide +kernel
theorem dt_Tu_swings_79 : decode prog_1_method_26_code 79 = .ok (.iload_n 2, 1) := by decide +kernel
theorem dt_Tu_swings_80 : decode prog_1_method_26_code 80 = .ok (.if_icmp .le 6, 3) := by decide +kernel
theorem dt_Tu_swings_83 : decode prog_1_method_26_code 83 = .ok (.iinc 3 1, 3) := by decide +kernel
theorem dt_Tu_swings_86 : decode prog_1_method_26_code 86 = .ok (.iinc 4 1, 3) := by decide +kernel
theorem dt_Tu_swings_89 : decode prog_1_method_26_code 89 = .ok (.goto (-66), 3) := by decide +kernel
theorem dt_Tu_swings_92 : decode prog_1_method_26_code 92 = .ok (.iload_n 3, 1) := by decide +kernel
theorem dt_Tu_swings_93 : decode prog_1_method_26_code 93 = .ok (.ireturn, 1) := by decide +kernel
set_option maxHeartbeats 4000000 in
set_option maxRecDepth 10000 in
theorem tm_Tu_swings {N : Nat} {T : Nat → tm_S} {w : ab_W} {tu tp im md rl ac rr ma pl tr gu a b : Nat} (hW : tm_W N T w) (h_all : is_All T tu tp im md rl ac rr ma pl tr gu a b) (kn : tm_g w tu 1 = some (ab_R a)) (kt : tm_g w tu 2 = some (ab_R b)) (y1 : Int) (l_y1 : (-2147483648) ≤ y1) (u_y1 : y1 ≤ 2147483647) : ab_Mt g_G g_rs mt_Tu_swings 2 0 0 [ab_R tu, ab_I y1] w (tm_P w (fun v => (-2147483648) ≤ v ∧ v ≤ 2147483647)) := by
  obtain ⟨tut0, imt0, mdt0, rlt0, h_tp, h_ac, h_rr, h_ma, hzz⟩ := id h_all
  obtain ⟨h_pl, h_tr, h_gu, h_a, h_b, e_all, e_ab⟩ := hzz
  obtain ⟨tpt0, tpt1⟩ := id h_tp
  obtain ⟨act0, act1, act2, act3⟩ := id h_ac
  obtain ⟨rrt0, rrt1⟩ := id h_rr
  obtain ⟨mat0, mat1⟩ := id h_ma
  obtain ⟨plt0, plt1, plt2, plt3, plt4⟩ := id h_pl
  obtain ⟨trt0, trt1, trt2, trt3, trt4, trt5⟩ := id h_tr
  obtain ⟨gut0, gut1, gut2, gut3⟩ := id h_gu
  obtain ⟨at0, at1, at2, at3, at4, at5, at6, at7, at8, at9, at10, at11, at12⟩ := id h_a
  have ad := is_Ri.d h_a
  obtain ⟨bt0, bt1, bt2, bt3, bt4, bt5, bt6, bt7, bt8, bt9, bt10, bt11, bt12⟩ := id h_b
  have bd := is_Ri.d h_b
  refine ab_Mt.of rfl (Nat.le_of_ble_eq_true rfl) ?_
  show ab_Ev g_G g_rs mt_Tu_swings _ _ _ 0 [some (ab_R tu), some (ab_I y1), none, none, none, none] [] _ _
  refine ev_aload_n dt_Tu_swings_0 rfl rfl ?_
  refine ev_iload_n dt_Tu_swings_1 rfl rfl ?_
  refine tm_vp dt_Tu_swings_2 (tm_Tu_hasHouse hW h_all kn kt (y1) (by omega) (by omega)) kb_Tu_118 ⟨im_Tu_hasHouse, se_Tu_hasHouse⟩ rfl hW tut0 rfl (Nat.le_of_ble_eq_true rfl) (by decide) (fun v170 hv170 => ?_)
  refine ev_if_ne (tgt := 10) dt_Tu_swings_5 (by decide) (by omega) (fun h171 => ?_) (fun h171 => ?_)
  · skip
    refine ev_aload_n dt_Tu_swings_10 rfl rfl ?_
    refine tm_getK (K := 1) dt_Tu_swings_11 hW tut0 fl_Tu_19 rfl kn ?_
    refine tm_vp dt_Tu_swings_14 (tm_Ri_allVotes hW h_a) kb_Tu_204 ⟨im_Ri_allVotes, se_Ri_allVotes⟩ rfl hW at0 rfl (Nat.le_of_ble_eq_true rfl) (by decide) (fun v172 hv172 => ?_)
    refine ev_istore_n (l' := [_, _, _, _, _, _]) dt_Tu_swings_17 rfl (Nat.le_of_ble_eq_true rfl) rfl ?_
    refine ev_iconst dt_Tu_swings_18 ?_
    refine ev_istore_n (l' := [_, _, _, _, _, _]) dt_Tu_swings_19 rfl (Nat.le_of_ble_eq_true rfl) rfl ?_
    refine ev_iconst dt_Tu_swings_20 ?_
    refine ev_istore (l' := [_, _, _, _, _, _]) dt_Tu_swings_21 (Nat.le_of_ble_eq_true rfl) rfl ?_
    have L173 : ∀ (n : Nat) (i174 : Int) (i175 : Int) , 0 ≤ i174 → i174 ≤ 128 → 0 ≤ i175 → i175 ≤ 128 → i174 ≤ i175 → 128 - i175 < (n : Int) → ab_Ev g_G g_rs mt_Tu_swings 2 0 0 23 [some (ab_R tu), some (ab_I y1), some (ab_I v172), some (ab_I i174), some (ab_I i175), none] [] w (tm_P w (fun v => (-2147483648) ≤ v ∧ v ≤ 2147483647)) := by
      intro n
      induction n with
      | zero =>
        intro i174 i175  li174 ui174 li175 ui175 q0L173 mL173
        exfalso
        omega
      | succ nL173 ihL173 =>
        intro i174 i175  li174 ui174 li175 ui175 q0L173 mL173
        refine ev_iload dt_Tu_swings_23 rfl ?_
        refine ev_iconst dt_Tu_swings_25 ?_
        refine ev_aload_n dt_Tu_swings_26 rfl rfl ?_
        refine tm_getK (K := 1) dt_Tu_swings_27 hW tut0 fl_Tu_19 rfl kn ?_
        refine tm_getI (K := 7) dt_Tu_swings_30 hW at0 fl_Tu_102 rfl rfl (fun v176 kv176 lv176 uv176 => ?_)
        refine tm_shl1 dt_Tu_swings_33 (by omega) (by omega) (fun v177 x1 x2 x3 x4 => ?_)
        have hv177 : 1 ≤ v177 ∧ v177 ≤ 128 := by omega
        clear x1 x2 x3 x4
        refine ev_icmp_ge (tgt := 92) dt_Tu_swings_34 (by decide) (by omega) (by omega) (fun h178 => ?_) (fun h178 => ?_)
        · skip
          refine ev_iload_n dt_Tu_swings_92 rfl rfl ?_
          exact ev_ireturn dt_Tu_swings_93 rfl ⟨rfl, _, rfl, by omega⟩
        · skip
          refine ev_iload dt_Tu_swings_37 rfl ?_
          refine ev_iload_n dt_Tu_swings_39 rfl rfl ?_
          refine tm_ishr dt_Tu_swings_40 (by omega) (by omega) (by omega) (fun v179 x1 x2 => ?_)
          have hv179 : 0 ≤ v179 ∧ v179 ≤ 127 := by omega
          clear x1 x2
          refine ev_iconst dt_Tu_swings_41 ?_
          refine tm_iand dt_Tu_swings_42 (by omega) (by omega) (fun v180 x1 x2 x3 => ?_)
          have hv180 : 0 ≤ v180 ∧ v180 ≤ 1 := by omega
          clear x1 x2 x3
          refine ev_if_ne (tgt := 86) dt_Tu_swings_43 (by decide) (by omega) (fun h181 => ?_) (fun h181 => ?_)
          · skip
            refine ev_iinc (l' := [_, _, _, _, _, _]) dt_Tu_swings_86 rfl rfl ?_
            refine ev_goto (tgt := 23) dt_Tu_swings_89 (by decide) ?_
            exact tm_loc (tm_le_s (tm_le_s (tm_le_s (tm_le_s (tm_le_s (tm_le_n tm_le_0)))))) (ihL173 (i174) ((i175 + 1)) (by omega) (by omega) (by omega) (by omega) (by omega) (by omega))
          · skip
            refine ev_aload_n dt_Tu_swings_46 rfl rfl ?_
            refine tm_getK (K := 1) dt_Tu_swings_47 hW tut0 fl_Tu_19 rfl kn ?_
            refine ev_iload dt_Tu_swings_50 rfl ?_
            refine tm_vp dt_Tu_swings_52 (tm_Ri_votesOf hW h_a (i175) (by omega) (by omega)) kb_Tu_270 ⟨im_Ri_votesOf, se_Ri_votesOf⟩ rfl hW at0 rfl (Nat.le_of_ble_eq_true rfl) (by decide) (fun v182 hv182 => ?_)
            refine ev_istore (l' := [_, _, _, _, _, _]) dt_Tu_swings_55 (Nat.le_of_ble_eq_true rfl) rfl ?_
            refine ev_iconst dt_Tu_swings_57 ?_
            refine ev_iload dt_Tu_swings_58 rfl ?_
            refine ev_imul dt_Tu_swings_60 ?_
            refine tm_any (fun v183 hv183 _ => ?_)
            refine ev_iload_n dt_Tu_swings_61 rfl rfl ?_
            refine ev_icmp_gt (tgt := 86) dt_Tu_swings_62 (by decide) (by omega) (by omega) (fun h184 => ?_) (fun h184 => ?_)
            · skip
              refine ev_iinc (l' := [_, _, _, _, _, _]) dt_Tu_swings_86 rfl rfl ?_
              refine ev_goto (tgt := 23) dt_Tu_swings_89 (by decide) ?_
              exact tm_loc (tm_le_s (tm_le_s (tm_le_s (tm_le_s (tm_le_s (tm_le_n tm_le_0)))))) (ihL173 (i174) ((i175 + 1)) (by omega) (by omega) (by omega) (by omega) (by omega) (by omega))
            · skip
              refine ev_iconst dt_Tu_swings_65 ?_
              refine ev_iload dt_Tu_swings_66 rfl ?_
              refine ev_aload_n dt_Tu_swings_68 rfl rfl ?_
              refine tm_getK (K := 1) dt_Tu_swings_69 hW tut0 fl_Tu_19 rfl kn ?_
              refine tm_getR dt_Tu_swings_72 hW at0 fl_Tu_129 rfl ?_
              refine ev_iload_n dt_Tu_swings_75 rfl rfl ?_
              refine tm_iaload dt_Tu_swings_76 hW at3 (by omega) (by omega) (by omega) (fun v185 kv185 lv185 uv185 => ?_)
              refine ev_iadd dt_Tu_swings_77 ?_
              refine tm_any (fun v186 hv186 _ => ?_)
              refine ev_imul dt_Tu_swings_78 ?_
              refine tm_any (fun v187 hv187 _ => ?_)
              refine ev_iload_n dt_Tu_swings_79 rfl rfl ?_
              refine ev_icmp_le (tgt := 86) dt_Tu_swings_80 (by decide) (by omega) (by omega) (fun h188 => ?_) (fun h188 => ?_)
              · skip
                refine ev_iinc (l' := [_, _, _, _, _, _]) dt_Tu_swings_86 rfl rfl ?_
                refine ev_goto (tgt := 23) dt_Tu_swings_89 (by decide) ?_
                exact tm_loc (tm_le_s (tm_le_s (tm_le_s (tm_le_s (tm_le_s (tm_le_n tm_le_0)))))) (ihL173 (i174) ((i175 + 1)) (by omega) (by omega) (by omega) (by omega) (by omega) (by omega))
              · skip
                refine ev_iinc (l' := [_, _, _, _, _, _]) dt_Tu_swings_83 rfl rfl ?_
                refine ev_iinc (l' := [_, _, _, _, _, _]) dt_Tu_swings_86 rfl rfl ?_
                refine ev_goto (tgt := 23) dt_Tu_swings_89 (by decide) ?_
                exact tm_loc (tm_le_s (tm_le_s (tm_le_s (tm_le_s (tm_le_s (tm_le_n tm_le_0)))))) (ihL173 ((i174 + 1)) ((i175 + 1)) (by omega) (by omega) (by omega) (by omega) (by omega) (by omega))
    exact tm_loc (tm_le_s (tm_le_s (tm_le_s (tm_le_s (tm_le_s (tm_le_n tm_le_0)))))) (L173 (128 - (0) + 1 : Int).toNat (0) (0)  (by omega) (by omega) (by omega) (by omega) (by omega) (by omega))
  · skip
    refine ev_iconst dt_Tu_swings_8 ?_
    exact ev_ireturn dt_Tu_swings_9 rfl ⟨rfl, _, rfl, by omega⟩
