theorem dt_Tu_hour_0 : decode prog_1_method_11_code 0 = .ok (.aload_n 0, 1) := by decide +kernel
theorem dt_Tu_hour_1 : decode prog_1_method_11_code 1 = .ok (.getfield 19, 3) := by decide +kernel
theorem dt_Tu_hour_4 : decode prog_1_method_11_code 4 = .ok (.getfield 152, 3) := by decide +kernel
theorem dt_Tu_hour_7 : decode prog_1_method_11_code 7 = .ok (.ifCond .eq 17, 3) := by decide +kernel
theorem dt_Tu_hour_10 : decode prog_1_method_11_code 10 = .ok (.aload_n 0, 1) := by decide +kernel
theorem dt_Tu_hour_11 : decode prog_1_method_11_code 11 = .ok (.getfield 19, 3) := by decide +kernel
theorem dt_Tu_hour_14 : decode prog_1_method_11_code 14 = .ok (.iconst 1, 1) := by decide +kernel
theorem dt_Tu_hour_15 : decode prog_1_method_11_code 15 = .ok (.invokevirtual 209, 3) := by decide +kernel
theorem dt_Tu_hour_18 : decode prog_1_method_11_code 18 = .ok (.invokestatic 212, 3) := by decide +kernel
theorem dt_Tu_hour_21 : decode prog_1_method_11_code 21 = .ok (.if_icmp .le 5, 3) := by decide +kernel
theorem dt_Tu_hour_24 : decode prog_1_method_11_code 24 = .ok (.iconst (-1), 1) := by decide +kernel
theorem dt_Tu_hour_25 : decode prog_1_method_11_code 25 = .ok (.ireturn, 1) := by decide +kernel
theorem dt_Tu_hour_26 : decode prog_1_method_11_code 26 = .ok (.aload_n 0, 1) := by decide +kernel
theorem dt_Tu_hour_27 : decode prog_1_method_11_code 27 = .ok (.getfield 19, 3) := by decide +kernel
theorem dt_Tu_hour_30 : decode prog_1_method_11_code 30 = .ok (.getfield 186, 3) := by decide +kernel
theorem dt_Tu_hour_33 : decode prog_1_method_11_code 33 = .ok (.istore_n 1, 1) := by decide +kernel
theorem dt_Tu_hour_34 : decode prog_1_method_11_code 34 = .ok (.aload_n 0, 1) := by decide +kernel
theorem dt_Tu_hour_35 : decode prog_1_method_11_code 35 = .ok (.getfield 19, 3) := by decide +kernel
theorem dt_Tu_hour_38 : decode prog_1_method_11_code 38 = .ok (.aload_n 0, 1) := by decide +kernel
theorem dt_Tu_hour_39 : decode prog_1_method_11_code 39 = .ok (.getfield 19, 3) := by decide +kernel
theorem dt_Tu_hour_42 : decode prog_1_method_11_code 42 = .ok (.getfield 165, 3) := by decide +kernel
theorem dt_Tu_hour_45 : decode prog_1_method_11_code 45 = .ok (.aload_n 0, 1) := by decide +kernel
theorem dt_Tu_hour_46 : decode prog_1_method_11_code 46 = .ok (.getfield 19, 3) := by decide +kernel
theorem dt_Tu_hour_49 : decode prog_1_method_11_code 49 = .ok (.getfield 136, 3) := by decide +kernel
theorem dt_Tu_hour_52 : decode prog_1_method_11_code 52 = .ok (.iaload, 1) := by decide +kernel
theorem dt_Tu_hour_53 : decode prog_1_method_11_code 53 = .ok (.invokevirtual 215, 3) := by decide +kernel
theorem dt_Tu_hour_56 : decode prog_1_method_11_code 56 = .ok (.istore_n 2, 1) := by decide +kernel
theorem dt_Tu_hour_57 : decode prog_1_method_11_code 57 = .ok (.aload_n 0, 1) := by decide +kernel
theorem dt_Tu_hour_58 : decode prog_1_method_11_code 58 = .ok (.getfield 43, 3) := by decide +kernel
theorem dt_Tu_hour_61 : decode prog_1_method_11_code 61 = .ok (.iconst 0, 1) := by decide +kernel
theorem dt_Tu_hour_62 : decode prog_1_method_11_code 62 = .ok (.iload_n 2, 1) := by decide +kernel
theorem dt_Tu_hour_63 : decode prog_1_method_11_code 63 = .ok (.iload_n 1, 1) := by decide +kernel
theorem dt_Tu_hour_64 : decode prog_1_method_11_code 64 = .ok (.ifCond .eq 7, 3) := by decide +kernel
theorem dt_Tu_hour_67 : decode prog_1_method_11_code 67 = .ok (.iconst 1, 1) := by decide +kernel
theorem dt_Tu_hour_68 : decode prog_1_method_11_code 68 = .ok (.goto 4, 3) := by decide +kernel
theorem dt_Tu_hour_71 : decode prog_1_method_11_code 71 = .ok (.iconst 0, 1) := by decide +kernel
theorem dt_Tu_hour_72 : decode prog_1_method_11_code 72 = .ok (.invokevirtual 218, 3) := by decide +kernel
theorem dt_Tu_hour_75 : decode prog_1_method_11_code 75 = .ok (.aload_n 0, 1) := by decide +kernel
theorem dt_Tu_hour_76 : decode prog_1_method_11_code 76 = .ok (.getfield 19, 3) := by decide +kernel
theorem dt_Tu_hour_79 : decode prog_1_method_11_code 79 = .ok (.getfield 177, 3) := by decide +kernel
theorem dt_Tu_hour_82 : decode prog_1_method_11_code 82 = .ok (.ireturn, 1) := by decide +kernel
set_option maxHeartbeats 4000000 in
set_option maxRecDepth 10000 in
theorem tm_Tu_hour {N : Nat} {T : Nat → tm_S} {w : ab_W} {tu tp im md rl ac rr ma pl tr gu a b : Nat} (hW : tm_W N T w) (h_all : is_All T tu tp im md rl ac rr ma pl tr gu a b) (kn : tm_g w tu 1 = some (ab_R a)) (kt : tm_g w tu 2 = some (ab_R b)) (hA : ac_ok w ac) : ab_Mt g_G g_rs mt_Tu_hour 2 0 0 [ab_R tu] w (tm_Qi N T (fun v w2 => (∀ (p : Nat) (j : Int), ¬ ((p = a ∧ (j = 1 ∨ j = 2 ∨ j = 3 ∨ j = 4)) ∨ p = (a + 7) ∨ p = (ac + 1) ∨ p = (ac + 2) ∨ p = (ac + 3) ∨ (p = ac ∧ (j = 4 ∨ j = 3))) → tm_g w2 p j = tm_g w p j) ∧ ((-2147483648) ≤ v ∧ v ≤ 2147483647 ∧ (ac_ok w2 ac)))) := by
  obtain ⟨tut0, imt0, mdt0, rlt0, h_tp, h_ac, h_rr, h_ma, hzz⟩ := id h_all
  obtain ⟨h_pl, h_tr, h_gu, h_a, h_b, e_all, e_ab⟩ := hzz
  obtain ⟨tpt0, tpt1⟩ := id h_tp
  obtain ⟨act0, act1, act2, act3⟩ := id h_ac
  obtain ⟨rrt0, rrt1⟩ := id h_rr
  obtain ⟨mat0, mat1⟩ := id h_ma
  obtain ⟨plt0, plt1, plt2, plt3, plt4⟩ := id h_pl
  obtain ⟨trt0, trt1, trt2, trt3, trt4, trt5⟩ := id h_tr
  obtain ⟨gut0, gut1, gut2, gut3⟩ := id h_gu
  obtain ⟨at0, at1, at2, at3, at4, at5, at6, at7, at8, at9, at10, at11, at12⟩ := id h_a
  have ad := is_Ri.d h_a
  obtain ⟨bt0, bt1, bt2, bt3, bt4, bt5, bt6, bt7, bt8, bt9, bt10, bt11, bt12⟩ := id h_b
  have bd := is_Ri.d h_b
  have hF0 : ∀ (p : Nat) (j : Int), ¬ ((p = a ∧ (j = 1 ∨ j = 2 ∨ j = 3 ∨ j = 4)) ∨ p = (a + 7) ∨ p = (ac + 1) ∨ p = (ac + 2) ∨ p = (ac + 3) ∨ (p = ac ∧ (j = 4 ∨ j = 3))) → tm_g w p j = tm_g w p j := fun _ _ _ => rfl
  refine ab_Mt.of rfl (Nat.le_of_ble_eq_true rfl) ?_
  show ab_Ev g_G g_rs mt_Tu_hour _ _ _ 0 [some (ab_R tu), none, none] [] _ _
  refine ev_aload_n dt_Tu_hour_0 rfl rfl ?_
  refine tm_getK (K := 1) dt_Tu_hour_1 hW tut0 fl_Tu_19 rfl kn ?_
  refine tm_getI (K := 0) dt_Tu_hour_4 hW at0 fl_Tu_152 rfl rfl (fun v1 kv1 lv1 uv1 => ?_)
  refine ev_if_eq (tgt := 24) dt_Tu_hour_7 (by decide) (by omega) (fun h2 => ?_) (fun h2 => ?_)
  · skip
    refine ev_iconst dt_Tu_hour_24 ?_
    exact ev_ireturn dt_Tu_hour_25 rfl ⟨hW, _, rfl, ⟨hF0, ⟨by omega, by omega, hA⟩⟩⟩
  · skip
    refine ev_aload_n dt_Tu_hour_10 rfl rfl ?_
    refine tm_getK (K := 1) dt_Tu_hour_11 hW tut0 fl_Tu_19 rfl kn ?_
    refine ev_iconst dt_Tu_hour_14 ?_
    refine tm_vp dt_Tu_hour_15 (tm_Ri_hoursBehind hW h_a (1) (by omega) (by omega)) kb_Tu_209 ⟨im_Ri_hoursBehind, se_Ri_hoursBehind⟩ rfl hW at0 rfl (Nat.le_of_ble_eq_true rfl) (by decide) (fun v3 hv3 => ?_)
    refine tm_sp dt_Tu_hour_18 (tm_Tu_lastHour hW) kb_Tu_212 sc_Tu_lastHour rfl (Nat.le_of_ble_eq_true rfl) (by decide) (fun v4 hv4 => ?_)
    refine ev_icmp_le (tgt := 26) dt_Tu_hour_21 (by decide) (by omega) (by omega) (fun h5 => ?_) (fun h5 => ?_)
    · skip
      refine ev_aload_n dt_Tu_hour_26 rfl rfl ?_
      refine tm_getK (K := 1) dt_Tu_hour_27 hW tut0 fl_Tu_19 rfl kn ?_
      refine tm_getI (K := 4) dt_Tu_hour_30 hW at0 fl_Tu_186 rfl rfl (fun v6 kv6 lv6 uv6 => ?_)
      refine ev_istore_n (l' := [_, _, _]) dt_Tu_hour_33 rfl (Nat.le_of_ble_eq_true rfl) rfl ?_
      refine ev_aload_n dt_Tu_hour_34 rfl rfl ?_
      refine tm_getK (K := 1) dt_Tu_hour_35 hW tut0 fl_Tu_19 rfl kn ?_
      refine ev_aload_n dt_Tu_hour_38 rfl rfl ?_
      refine tm_getK (K := 1) dt_Tu_hour_39 hW tut0 fl_Tu_19 rfl kn ?_
      refine tm_getR dt_Tu_hour_42 hW at0 fl_Tu_165 rfl ?_
      refine ev_aload_n dt_Tu_hour_45 rfl rfl ?_
      refine tm_getK (K := 1) dt_Tu_hour_46 hW tut0 fl_Tu_19 rfl kn ?_
      refine tm_getI (K := 2) dt_Tu_hour_49 hW at0 fl_Tu_136 rfl rfl (fun v7 kv7 lv7 uv7 => ?_)
      refine tm_iaload dt_Tu_hour_52 hW at6 (by omega) (by omega) (by omega) (fun v8 kv8 lv8 uv8 => ?_)
      refine tm_vi dt_Tu_hour_53 (tm_Ri_passHour hW h_a (v8) (by omega) (by omega)) kb_Tu_215 ⟨im_Ri_passHour, se_Ri_passHour⟩ rfl hW at0 rfl (Nat.le_of_ble_eq_true rfl) (by decide) (fun w9 v10 hWw9 hRw9 => ?_)
      obtain ⟨hfw9, hpw9⟩ := hRw9
      have hFw9 : ∀ (p : Nat) (j : Int), ¬ ((p = a ∧ (j = 1 ∨ j = 2 ∨ j = 3 ∨ j = 4)) ∨ p = (a + 7) ∨ p = (ac + 1) ∨ p = (ac + 2) ∨ p = (ac + 3) ∨ (p = ac ∧ (j = 4 ∨ j = 3))) → tm_g w9 p j = tm_g w p j := fun p j h => (hfw9 p j (by omega)).trans (hF0 p j h)
      refine ev_istore_n (l' := [_, _, _]) dt_Tu_hour_56 rfl (Nat.le_of_ble_eq_true rfl) rfl ?_
      refine ev_aload_n dt_Tu_hour_57 rfl rfl ?_
      refine tm_getR dt_Tu_hour_58 hWw9 tut0 fl_Tu_43 rfl ?_
      refine ev_iconst dt_Tu_hour_61 ?_
      refine ev_iload_n dt_Tu_hour_62 rfl rfl ?_
      refine ev_iload_n dt_Tu_hour_63 rfl rfl ?_
      refine ev_if_eq (tgt := 71) dt_Tu_hour_64 (by decide) (by omega) (fun h11 => ?_) (fun h11 => ?_)
      · skip
        refine ev_iconst dt_Tu_hour_71 ?_
        refine tm_vv dt_Tu_hour_72 (tm_Ac_keep hWw9 h_ac (0) (by omega) (by omega) (v10) (by omega) (by omega) (0) (by omega) (by omega) (hA.fr (fun k => (hfw9 (ac + 1) k (by omega))) (fun k => (hfw9 (ac + 2) k (by omega))) (fun k => (hfw9 (ac + 3) k (by omega)))) (by omega) (by omega)) kb_Tu_218 ⟨im_Ac_keep, se_Ac_keep⟩ rfl hWw9 act0 rfl (Nat.le_of_ble_eq_true rfl) (by decide) (fun w12 hWw12 hRw12 => ?_)
        obtain ⟨hfw12, hpw12⟩ := hRw12
        have hFw12 : ∀ (p : Nat) (j : Int), ¬ ((p = a ∧ (j = 1 ∨ j = 2 ∨ j = 3 ∨ j = 4)) ∨ p = (a + 7) ∨ p = (ac + 1) ∨ p = (ac + 2) ∨ p = (ac + 3) ∨ (p = ac ∧ (j = 4 ∨ j = 3))) → tm_g w12 p j = tm_g w p j := fun p j h => (hfw12 p j (by omega)).trans (hFw9 p j h)
        refine ev_aload_n dt_Tu_hour_75 rfl rfl ?_
        refine tm_getK (K := 1) dt_Tu_hour_76 hWw12 tut0 fl_Tu_19 rfl ((hFw12 tu 1 (by omega)).trans kn) ?_
        refine tm_getI (K := 1) dt_Tu_hour_79 hWw12 at0 fl_Tu_177 rfl rfl (fun v13 kv13 lv13 uv13 => ?_)
        exact ev_ireturn dt_Tu_hour_82 rfl ⟨hWw12, _, rfl, ⟨hFw12, ⟨by omega, by omega, hpw12⟩⟩⟩
      · skip
        refine ev_iconst dt_Tu_hour_67 ?_
        refine ev_goto (tgt := 72) dt_Tu_hour_68 (by decide) ?_
        refine tm_vv dt_Tu_hour_72 (tm_Ac_keep hWw9 h_ac (0) (by omega) (by omega) (v10) (by omega) (by omega) (1) (by omega) (by omega) (hA.fr (fun k => (hfw9 (ac + 1) k (by omega))) (fun k => (hfw9 (ac + 2) k (by omega))) (fun k => (hfw9 (ac + 3) k (by omega)))) (by omega) (by omega)) kb_Tu_218 ⟨im_Ac_keep, se_Ac_keep⟩ rfl hWw9 act0 rfl (Nat.le_of_ble_eq_true rfl) (by decide) (fun w14 hWw14 hRw14 => ?_)
        obtain ⟨hfw14, hpw14⟩ := hRw14
        have hFw14 : ∀ (p : Nat) (j : Int), ¬ ((p = a ∧ (j = 1 ∨ j = 2 ∨ j = 3 ∨ j = 4)) ∨ p = (a + 7) ∨ p = (ac + 1) ∨ p = (ac + 2) ∨ p = (ac + 3) ∨ (p = ac ∧ (j = 4 ∨ j = 3))) → tm_g w14 p j = tm_g w p j := fun p j h => (hfw14 p j (by omega)).trans (hFw9 p j h)
        refine ev_aload_n dt_Tu_hour_75 rfl rfl ?_
        refine tm_getK (K := 1) dt_Tu_hour_76 hWw14 tut0 fl_Tu_19 rfl ((hFw14 tu 1 (by omega)).trans kn) ?_
        refine tm_getI (K := 1) dt_Tu_hour_79 hWw14 at0 fl_Tu_177 rfl rfl (fun v15 kv15 lv15 uv15 => ?_)
        exact ev_ireturn dt_Tu_hour_82 rfl ⟨hWw14, _, rfl, ⟨hFw14, ⟨by omega, by omega, hpw14⟩⟩⟩
    · skip
      refine ev_iconst dt_Tu_hour_24 ?_
      exact ev_ireturn dt_Tu_hour_25 rfl ⟨hW, _, rfl, ⟨hF0, ⟨by omega, by omega, hA⟩⟩⟩
theorem dt_Tu_rate_0 : decode prog_1_method_12_code 0 = .ok (.aload_n 0, 1) := by decide +kernel
theorem dt_Tu_rate_1 : decode prog_1_method_12_code 1 = .ok (.getfield 19, 3) := by decide +kernel
theorem dt_Tu_rate_4 : decode prog_1_method_12_code 4 = .ok (.getfield 152, 3) := by decide +kernel
theorem dt_Tu_rate_7 : decode prog_1_method_12_code 7 = .ok (.ifCond .eq 21, 3) := by decide +kernel
theorem dt_Tu_rate_10 : decode prog_1_method_12_code 10 = .ok (.iload_n 1, 1) := by decide +kernel
theorem dt_Tu_rate_11 : decode prog_1_method_12_code 11 = .ok (.invokestatic 162, 3) := by decide +kernel
theorem dt_Tu_rate_14 : decode prog_1_method_12_code 14 = .ok (.ifCond .eq 14, 3) := by decide +kernel
theorem dt_Tu_rate_17 : decode prog_1_method_12_code 17 = .ok (.iload_n 2, 1) := by decide +kernel
theorem dt_Tu_rate_18 : decode prog_1_method_12_code 18 = .ok (.bipush (-3), 2) := by decide +kernel
theorem dt_Tu_rate_20 : decode prog_1_method_12_code 20 = .ok (.if_icmp .lt 8, 3) := by decide +kernel
theorem dt_Tu_rate_23 : decode prog_1_method_12_code 23 = .ok (.iload_n 2, 1) := by decide +kernel
theorem dt_Tu_rate_24 : decode prog_1_method_12_code 24 = .ok (.iconst 3, 1) := by decide +kernel
theorem dt_Tu_rate_25 : decode prog_1_method_12_code 25 = .ok (.if_icmp .le 7, 3) := by decide +kernel
theorem dt_Tu_rate_28 : decode prog_1_method_12_code 28 = .ok (.sipush (-1000), 3) := by decide +kernel
theorem dt_Tu_rate_31 : decode prog_1_method_12_code 31 = .ok (.ireturn, 1) := by decide +kernel
theorem dt_Tu_rate_32 : decode prog_1_method_12_code 32 = .ok (.aload_n 0, 1) := by decide +kernel
theorem dt_Tu_rate_33 : decode prog_1_method_12_code 33 = .ok (.getfield 19, 3) := by decide +kernel
theorem dt_Tu_rate_36 : decode prog_1_method_12_code 36 = .ok (.getfield 165, 3) := by decide +kernel
theorem dt_Tu_rate_39 : decode prog_1_method_12_code 39 = .ok (.iload_n 1, 1) := by decide +kernel
theorem dt_Tu_rate_40 : decode prog_1_method_12_code 40 = .ok (.iaload, 1) := by decide +kernel
theorem dt_Tu_rate_41 : decode prog_1_method_12_code 41 = .ok (.istore_n 3, 1) := by decide +kernel
theorem dt_Tu_rate_42 : decode prog_1_method_12_code 42 = .ok (.aload_n 0, 1) := by decide +kernel
theorem dt_Tu_rate_43 : decode prog_1_method_12_code 43 = .ok (.getfield 19, 3) := by decide +kernel
theorem dt_Tu_rate_46 : decode prog_1_method_12_code 46 = .ok (.getfield 165, 3) := by decide +kernel
theorem dt_Tu_rate_49 : decode prog_1_method_12_code 49 = .ok (.iload_n 1, 1) := by decide +kernel
theorem dt_Tu_rate_50 : decode prog_1_method_12_code 50 = .ok (.iload_n 2, 1) := by decide +kernel
theorem dt_Tu_rate_51 : decode prog_1_method_12_code 51 = .ok (.iastore, 1) := by decide +kernel
theorem dt_Tu_rate_52 : decode prog_1_method_12_code 52 = .ok (.aload_n 0, 1) := by decide +kernel
theorem dt_Tu_rate_53 : decode prog_1_method_12_code 53 = .ok (.getfield 43, 3) := by decide +kernel
theorem dt_Tu_rate_56 : decode prog_1_method_12_code 56 = .ok (.iconst 1, 1) := by decide +kernel
theorem dt_Tu_rate_57 : decode prog_1_method_12_code 57 = .ok (.iload_n 1, 1) := by decide +kernel
theorem dt_Tu_rate_58 : decode prog_1_method_12_code 58 = .ok (.iload_n 3, 1) := by decide +kernel
theorem dt_Tu_rate_59 : decode prog_1_method_12_code 59 = .ok (.invokevirtual 218, 3) := by decide +kernel
theorem dt_Tu_rate_62 : decode prog_1_method_12_code 62 = .ok (.iload_n 3, 1) := by decide +kernel
theorem dt_Tu_rate_63 : decode prog_1_method_12_code 63 = .ok (.ireturn, 1) := by decide +kernel
set_option maxHeartbeats 4000000 in
set_option maxRecDepth 10000 in
theorem tm_Tu_rate {N : Nat} {T : Nat → tm_S} {w : ab_W} {tu tp im md rl ac rr ma pl tr gu a b : Nat} (hW : tm_W N T w) (h_all : is_All T tu tp im md rl ac rr ma pl tr gu a b) (kn : tm_g w tu 1 = some (ab_R a)) (kt : tm_g w tu 2 = some (ab_R b)) (y1 : Int) (l_y1 : (-2147483648) ≤ y1) (u_y1 : y1 ≤ 2147483647) (y2 : Int) (l_y2 : (-2147483648) ≤ y2) (u_y2 : y2 ≤ 2147483647) (hA : ac_ok w ac) : ab_Mt g_G g_rs mt_Tu_rate 2 0 0 [ab_R tu, ab_I y1, ab_I y2] w (tm_Qi N T (fun v w2 => (∀ (p : Nat) (j : Int), ¬ (p = (a + 6) ∨ p = (ac + 1) ∨ p = (ac + 2) ∨ p = (ac + 3) ∨ (p = ac ∧ (j = 4 ∨ j = 3))) → tm_g w2 p j = tm_g w p j) ∧ ((-2147483648) ≤ v ∧ v ≤ 2147483647 ∧ (ac_ok w2 ac)))) := by
  obtain ⟨tut0, imt0, mdt0, rlt0, h_tp, h_ac, h_rr, h_ma, hzz⟩ := id h_all
  obtain ⟨h_pl, h_tr, h_gu, h_a, h_b, e_all, e_ab⟩ := hzz
  obtain ⟨tpt0, tpt1⟩ := id h_tp
  obtain ⟨act0, act1, act2, act3⟩ := id h_ac
  obtain ⟨rrt0, rrt1⟩ := id h_rr
  obtain ⟨mat0, mat1⟩ := id h_ma
  obtain ⟨plt0, plt1, plt2, plt3, plt4⟩ := id h_pl
  obtain ⟨trt0, trt1, trt2, trt3, trt4, trt5⟩ := id h_tr
  obtain ⟨gut0, gut1, gut2, gut3⟩ := id h_gu
  obtain ⟨at0, at1, at2, at3, at4, at5, at6, at7, at8, at9, at10, at11, at12⟩ := id h_a
  have ad := is_Ri.d h_a
  obtain ⟨bt0, bt1, bt2, bt3, bt4, bt5, bt6, bt7, bt8, bt9, bt10, bt11, bt12⟩ := id h_b
  have bd := is_Ri.d h_b
  have hF0 : ∀ (p : Nat) (j : Int), ¬ (p = (a + 6) ∨ p = (ac + 1) ∨ p = (ac + 2) ∨ p = (ac + 3) ∨ (p = ac ∧ (j = 4 ∨ j = 3))) → tm_g w p j = tm_g w p j := fun _ _ _ => rfl
  refine ab_Mt.of rfl (Nat.le_of_ble_eq_true rfl) ?_
  show ab_Ev g_G g_rs mt_Tu_rate _ _ _ 0 [some (ab_R tu), some (ab_I y1), some (ab_I y2), none] [] _ _
  refine ev_aload_n dt_Tu_rate_0 rfl rfl ?_
  refine tm_getK (K := 1) dt_Tu_rate_1 hW tut0 fl_Tu_19 rfl kn ?_
  refine tm_getI (K := 0) dt_Tu_rate_4 hW at0 fl_Tu_152 rfl rfl (fun v16 kv16 lv16 uv16 => ?_)
  refine ev_if_eq (tgt := 28) dt_Tu_rate_7 (by decide) (by omega) (fun h17 => ?_) (fun h17 => ?_)
  · skip
    refine ev_sipush dt_Tu_rate_28 rfl ?_
    exact ev_ireturn dt_Tu_rate_31 rfl ⟨hW, _, rfl, ⟨hF0, ⟨by omega, by omega, hA⟩⟩⟩
  · skip
    refine ev_iload_n dt_Tu_rate_10 rfl rfl ?_
    refine tm_sp dt_Tu_rate_11 (tm_Tu_isHour hW (y1) (by omega) (by omega)) kb_Tu_162 sc_Tu_isHour rfl (Nat.le_of_ble_eq_true rfl) (by decide) (fun v18 hv18 => ?_)
    refine ev_if_eq (tgt := 28) dt_Tu_rate_14 (by decide) (by omega) (fun h19 => ?_) (fun h19 => ?_)
    · skip
      refine ev_sipush dt_Tu_rate_28 rfl ?_
      exact ev_ireturn dt_Tu_rate_31 rfl ⟨hW, _, rfl, ⟨hF0, ⟨by omega, by omega, hA⟩⟩⟩
    · skip
      refine ev_iload_n dt_Tu_rate_17 rfl rfl ?_
      refine ev_bipush dt_Tu_rate_18 rfl ?_
      refine ev_icmp_lt (tgt := 28) dt_Tu_rate_20 (by decide) (by omega) (by omega) (fun h20 => ?_) (fun h20 => ?_)
      · skip
        refine ev_sipush dt_Tu_rate_28 rfl ?_
        exact ev_ireturn dt_Tu_rate_31 rfl ⟨hW, _, rfl, ⟨hF0, ⟨by omega, by omega, hA⟩⟩⟩
      · skip
        refine ev_iload_n dt_Tu_rate_23 rfl rfl ?_
        refine ev_iconst dt_Tu_rate_24 ?_
        refine ev_icmp_le (tgt := 32) dt_Tu_rate_25 (by decide) (by omega) (by omega) (fun h21 => ?_) (fun h21 => ?_)
        · skip
          refine ev_aload_n dt_Tu_rate_32 rfl rfl ?_
          refine tm_getK (K := 1) dt_Tu_rate_33 hW tut0 fl_Tu_19 rfl kn ?_
          refine tm_getR dt_Tu_rate_36 hW at0 fl_Tu_165 rfl ?_
          refine ev_iload_n dt_Tu_rate_39 rfl rfl ?_
          refine tm_iaload dt_Tu_rate_40 hW at6 (by omega) (by omega) (by omega) (fun v22 kv22 lv22 uv22 => ?_)
          refine ev_istore_n (l' := [_, _, _, _]) dt_Tu_rate_41 rfl (Nat.le_of_ble_eq_true rfl) rfl ?_
          refine ev_aload_n dt_Tu_rate_42 rfl rfl ?_
          refine tm_getK (K := 1) dt_Tu_rate_43 hW tut0 fl_Tu_19 rfl kn ?_
          refine tm_getR dt_Tu_rate_46 hW at0 fl_Tu_165 rfl ?_
          refine ev_iload_n dt_Tu_rate_49 rfl rfl ?_
          refine ev_iload_n dt_Tu_rate_50 rfl rfl ?_
          refine tm_iastore dt_Tu_rate_51 hW at6 (by omega) (by omega) (by omega) (by omega) (by omega) (fun w23 hWw23 kkw23 hfw23 => ?_)
          have hFw23 : ∀ (p : Nat) (j : Int), ¬ (p = (a + 6) ∨ p = (ac + 1) ∨ p = (ac + 2) ∨ p = (ac + 3) ∨ (p = ac ∧ (j = 4 ∨ j = 3))) → tm_g w23 p j = tm_g w p j := fun p j h => (hfw23 p j (by omega)).trans (hF0 p j h)
          refine ev_aload_n dt_Tu_rate_52 rfl rfl ?_
          refine tm_getR dt_Tu_rate_53 hWw23 tut0 fl_Tu_43 rfl ?_
          refine ev_iconst dt_Tu_rate_56 ?_
          refine ev_iload_n dt_Tu_rate_57 rfl rfl ?_
          refine ev_iload_n dt_Tu_rate_58 rfl rfl ?_
          refine tm_vv dt_Tu_rate_59 (tm_Ac_keep hWw23 h_ac (1) (by omega) (by omega) (y1) (by omega) (by omega) (v22) (by omega) (by omega) (hA.fr (fun k => (hfw23 (ac + 1) k (by omega))) (fun k => (hfw23 (ac + 2) k (by omega))) (fun k => (hfw23 (ac + 3) k (by omega)))) (by omega) (by omega)) kb_Tu_218 ⟨im_Ac_keep, se_Ac_keep⟩ rfl hWw23 act0 rfl (Nat.le_of_ble_eq_true rfl) (by decide) (fun w24 hWw24 hRw24 => ?_)
          obtain ⟨hfw24, hpw24⟩ := hRw24
          have hFw24 : ∀ (p : Nat) (j : Int), ¬ (p = (a + 6) ∨ p = (ac + 1) ∨ p = (ac + 2) ∨ p = (ac + 3) ∨ (p = ac ∧ (j = 4 ∨ j = 3))) → tm_g w24 p j = tm_g w p j := fun p j h => (hfw24 p j (by omega)).trans (hFw23 p j h)
          refine ev_iload_n dt_Tu_rate_62 rfl rfl ?_
          exact ev_ireturn dt_Tu_rate_63 rfl ⟨hWw24, _, rfl, ⟨hFw24, ⟨by omega, by omega, hpw24⟩⟩⟩
        · skip
          refine ev_sipush dt_Tu_rate_28 rfl ?_
          exact ev_ireturn dt_Tu_rate_31 rfl ⟨hW, _, rfl, ⟨hF0, ⟨by omega, by omega, hA⟩⟩⟩
theorem dt_Tu_swap_0 : decode prog_1_method_13_code 0 = .ok (.aload_n 0, 1) := by decide +kernel
theorem dt_Tu_swap_1 : decode prog_1_method_13_code 1 = .ok (.iload_n 1, 1) := by decide +kernel
theorem dt_Tu_swap_2 : decode prog_1_method_13_code 2 = .ok (.invokevirtual 118, 3) := by decide +kernel
theorem dt_Tu_swap_5 : decode prog_1_method_13_code 5 = .ok (.ifCond .eq 16, 3) := by decide +kernel
theorem dt_Tu_swap_8 : decode prog_1_method_13_code 8 = .ok (.aload_n 0, 1) := by decide +kernel
theorem dt_Tu_swap_9 : decode prog_1_method_13_code 9 = .ok (.iload_n 2, 1) := by decide +kernel
theorem dt_Tu_swap_10 : decode prog_1_method_13_code 10 = .ok (.invokevirtual 118, 3) := by decide +kernel
theorem dt_Tu_swap_13 : decode prog_1_method_13_code 13 = .ok (.ifCond .eq 8, 3) := by decide +kernel
theorem dt_Tu_swap_16 : decode prog_1_method_13_code 16 = .ok (.iload_n 1, 1) := by decide +kernel
theorem dt_Tu_swap_17 : decode prog_1_method_13_code 17 = .ok (.iload_n 2, 1) := by decide +kernel
theorem dt_Tu_swap_18 : decode prog_1_method_13_code 18 = .ok (.if_icmp .ne 5, 3) := by decide +kernel
theorem dt_Tu_swap_21 : decode prog_1_method_13_code 21 = .ok (.iconst 0, 1) := by decide +kernel
theorem dt_Tu_swap_22 : decode prog_1_method_13_code 22 = .ok (.ireturn, 1) := by decide +kernel
theorem dt_Tu_swap_23 : decode prog_1_method_13_code 23 = .ok (.aload_n 0, 1) := by decide +kernel
theorem dt_Tu_swap_24 : decode prog_1_method_13_code 24 = .ok (.getfield 19, 3) := by decide +kernel
theorem dt_Tu_swap_27 : decode prog_1_method_13_code 27 = .ok (.iload_n 1, 1) := by decide +kernel
theorem dt_Tu_swap_28 : decode prog_1_method_13_code 28 = .ok (.iload_n 2, 1) := by decide +kernel
theorem dt_Tu_swap_29 : decode prog_1_method_13_code 29 = .ok (.invokevirtual 222, 3) := by decide +kernel
theorem dt_Tu_swap_32 : decode prog_1_method_13_code 32 = .ok (.aload_n 0, 1) := by decide +kernel
theorem dt_Tu_swap_33 : decode prog_1_method_13_code 33 = .ok (.getfield 43, 3) := by decide +kernel
theorem dt_Tu_swap_36 : decode prog_1_method_13_code 36 = .ok (.iconst 2, 1) := by decide +kernel
theorem dt_Tu_swap_37 : decode prog_1_method_13_code 37 = .ok (.iload_n 1, 1) := by decide +kernel
theorem dt_Tu_swap_38 : decode prog_1_method_13_code 38 = .ok (.iload_n 2, 1) := by decide +kernel
theorem dt_Tu_swap_39 : decode prog_1_method_13_code 39 = .ok (.invokevirtual 218, 3) := by decide +kernel
theorem dt_Tu_swap_42 : decode prog_1_method_13_code 42 = .ok (.iconst 1, 1) := by decide +kernel
theorem dt_Tu_swap_43 : decode prog_1_method_13_code 43 = .ok (.ireturn, 1) := by decide +kernel
set_option maxHeartbeats 4000000 in
set_option maxRecDepth 10000 in
theorem tm_Tu_swap {N : Nat} {T : Nat → tm_S} {w : ab_W} {tu tp im md rl ac rr ma pl tr gu a b : Nat} (hW : tm_W N T w) (h_all : is_All T tu tp im md rl ac rr ma pl tr gu a b) (kn : tm_g w tu 1 = some (ab_R a)) (kt : tm_g w tu 2 = some (ab_R b)) (y1 : Int) (l_y1 : (-2147483648) ≤ y1) (u_y1 : y1 ≤ 2147483647) (y2 : Int) (l_y2 : (-2147483648) ≤ y2) (u_y2 : y2 ≤ 2147483647) (hA : ac_ok w ac) : ab_Mt g_G g_rs mt_Tu_swap 2 0 0 [ab_R tu, ab_I y1, ab_I y2] w (tm_Qi N T (fun v w2 => (∀ (p : Nat) (j : Int), ¬ (p = (a + 1) ∨ p = (ac + 1) ∨ p = (ac + 2) ∨ p = (ac + 3) ∨ (p = ac ∧ (j = 4 ∨ j = 3))) → tm_g w2 p j = tm_g w p j) ∧ (0 ≤ v ∧ v ≤ 1 ∧ (ac_ok w2 ac)))) := by
  obtain ⟨tut0, imt0, mdt0, rlt0, h_tp, h_ac, h_rr, h_ma, hzz⟩ := id h_all
  obtain ⟨h_pl, h_tr, h_gu, h_a, h_b, e_all, e_ab⟩ := hzz
  obtain ⟨tpt0, tpt1⟩ := id h_tp
  obtain ⟨act0, act1, act2, act3⟩ := id h_ac
  obtain ⟨rrt0, rrt1⟩ := id h_rr
  obtain ⟨mat0, mat1⟩ := id h_ma
  obtain ⟨plt0, plt1, plt2, plt3, plt4⟩ := id h_pl
  obtain ⟨trt0, trt1, trt2, trt3, trt4, trt5⟩ := id h_tr
  obtain ⟨gut0, gut1, gut2, gut3⟩ := id h_gu
  obtain ⟨at0, at1, at2, at3, at4, at5, at6, at7, at8, at9, at10, at11, at12⟩ := id h_a
  have ad := is_Ri.d h_a
  obtain ⟨bt0, bt1, bt2, bt3, bt4, bt5, bt6, bt7, bt8, bt9, bt10, bt11, bt12⟩ := id h_b
  have bd := is_Ri.d h_b
  have hF0 : ∀ (p : Nat) (j : Int), ¬ (p = (a + 1) ∨ p = (ac + 1) ∨ p = (ac + 2) ∨ p = (ac + 3) ∨ (p = ac ∧ (j = 4 ∨ j = 3))) → tm_g w p j = tm_g w p j := fun _ _ _ => rfl
  refine ab_Mt.of rfl (Nat.le_of_ble_eq_true rfl) ?_
  show ab_Ev g_G g_rs mt_Tu_swap _ _ _ 0 [some (ab_R tu), some (ab_I y1), some (ab_I y2)] [] _ _
  refine ev_aload_n dt_Tu_swap_0 rfl rfl ?_
  refine ev_iload_n dt_Tu_swap_1 rfl rfl ?_
  refine tm_vp dt_Tu_swap_2 (tm_Tu_hasHouse hW h_all kn kt (y1) (by omega) (by omega)) kb_Tu_118 ⟨im_Tu_hasHouse, se_Tu_hasHouse⟩ rfl hW tut0 rfl (Nat.le_of_ble_eq_true rfl) (by decide) (fun v25 hv25 => ?_)
  refine ev_if_eq (tgt := 21) dt_Tu_swap_5 (by decide) (by omega) (fun h26 => ?_) (fun h26 => ?_)
  · skip
    refine ev_iconst dt_Tu_swap_21 ?_
    exact ev_zreturn dt_Tu_swap_22 rfl (by omega) ⟨hW, _, rfl, ⟨hF0, ⟨by omega, by omega, hA⟩⟩⟩
  · skip
    refine ev_aload_n dt_Tu_swap_8 rfl rfl ?_
    refine ev_iload_n dt_Tu_swap_9 rfl rfl ?_
    refine tm_vp dt_Tu_swap_10 (tm_Tu_hasHouse hW h_all kn kt (y2) (by omega) (by omega)) kb_Tu_118 ⟨im_Tu_hasHouse, se_Tu_hasHouse⟩ rfl hW tut0 rfl (Nat.le_of_ble_eq_true rfl) (by decide) (fun v27 hv27 => ?_)
    refine ev_if_eq (tgt := 21) dt_Tu_swap_13 (by decide) (by omega) (fun h28 => ?_) (fun h28 => ?_)
    · skip
      refine ev_iconst dt_Tu_swap_21 ?_
      exact ev_zreturn dt_Tu_swap_22 rfl (by omega) ⟨hW, _, rfl, ⟨hF0, ⟨by omega, by omega, hA⟩⟩⟩
    · skip
      refine ev_iload_n dt_Tu_swap_16 rfl rfl ?_
      refine ev_iload_n dt_Tu_swap_17 rfl rfl ?_
      refine ev_icmp_ne (tgt := 23) dt_Tu_swap_18 (by decide) (by omega) (by omega) (fun h29 => ?_) (fun h29 => ?_)
      · skip
        refine ev_aload_n dt_Tu_swap_23 rfl rfl ?_
        refine tm_getK (K := 1) dt_Tu_swap_24 hW tut0 fl_Tu_19 rfl kn ?_
        refine ev_iload_n dt_Tu_swap_27 rfl rfl ?_
        refine ev_iload_n dt_Tu_swap_28 rfl rfl ?_
        refine tm_vv dt_Tu_swap_29 (tm_Ri_swapSlots hW h_a (y1) (by omega) (by omega) (y2) (by omega) (by omega)) kb_Tu_222 ⟨im_Ri_swapSlots, se_Ri_swapSlots⟩ rfl hW at0 rfl (Nat.le_of_ble_eq_true rfl) (by decide) (fun w30 hWw30 hRw30 => ?_)
        have hfw30 := hRw30
        have hFw30 : ∀ (p : Nat) (j : Int), ¬ (p = (a + 1) ∨ p = (ac + 1) ∨ p = (ac + 2) ∨ p = (ac + 3) ∨ (p = ac ∧ (j = 4 ∨ j = 3))) → tm_g w30 p j = tm_g w p j := fun p j h => (hfw30 p j (by omega)).trans (hF0 p j h)
        refine ev_aload_n dt_Tu_swap_32 rfl rfl ?_
        refine tm_getR dt_Tu_swap_33 hWw30 tut0 fl_Tu_43 rfl ?_
        refine ev_iconst dt_Tu_swap_36 ?_
        refine ev_iload_n dt_Tu_swap_37 rfl rfl ?_
        refine ev_iload_n dt_Tu_swap_38 rfl rfl ?_
        refine tm_vv dt_Tu_swap_39 (tm_Ac_keep hWw30 h_ac (2) (by omega) (by omega) (y1) (by omega) (by omega) (y2) (by omega) (by omega) (hA.fr (fun k => (hfw30 (ac + 1) k (by omega))) (fun k => (hfw30 (ac + 2) k (by omega))) (fun k => (hfw30 (ac + 3) k (by omega)))) (by omega) (by omega)) kb_Tu_218 ⟨im_Ac_keep, se_Ac_keep⟩ rfl hWw30 act0 rfl (Nat.le_of_ble_eq_true rfl) (by decide) (fun w31 hWw31 hRw31 => ?_)
        obtain ⟨hfw31, hpw31⟩ := hRw31
        have hFw31 : ∀ (p : Nat) (j : Int), ¬ (p = (a + 1) ∨ p = (ac + 1) ∨ p = (ac + 2) ∨ p = (ac + 3) ∨ (p = ac ∧ (j = 4 ∨ j = 3))) → tm_g w31 p j = tm_g w p j := fun p j h => (hfw31 p j (by omega)).trans (hFw30 p j h)
        refine ev_iconst dt_Tu_swap_42 ?_
        exact ev_zreturn dt_Tu_swap_43 rfl (by omega) ⟨hWw31, _, rfl, ⟨hFw31, ⟨by omega, by omega, hpw31⟩⟩⟩
      · skip
        refine ev_iconst dt_Tu_swap_21 ?_
        exact ev_zreturn dt_Tu_swap_22 rfl (by omega) ⟨hW, _, rfl, ⟨hF0, ⟨by omega, by omega, hA⟩⟩⟩
theorem dt_Tu_stop_0 : decode prog_1_method_14_code 0 = .ok (.aload_n 0, 1) := by decide +kernel
theorem dt_Tu_stop_1 : decode prog_1_method_14_code 1 = .ok (.getfield 19, 3) := by decide +kernel
theorem dt_Tu_stop_4 : decode prog_1_method_14_code 4 = .ok (.getfield 152, 3) := by decide +kernel
theorem dt_Tu_stop_7 : decode prog_1_method_14_code 7 = .ok (.ifCond .eq 13, 3) := by decide +kernel
theorem dt_Tu_stop_10 : decode prog_1_method_14_code 10 = .ok (.aload_n 0, 1) := by decide +kernel
theorem dt_Tu_stop_11 : decode prog_1_method_14_code 11 = .ok (.getfield 19, 3) := by decide +kernel
theorem dt_Tu_stop_14 : decode prog_1_method_14_code 14 = .ok (.getfield 186, 3) := by decide +kernel
theorem dt_Tu_stop_17 : decode prog_1_method_14_code 17 = .ok (.ifCond .eq 5, 3) := by decide +kernel
theorem dt_Tu_stop_20 : decode prog_1_method_14_code 20 = .ok (.iconst 0, 1) := by decide +kernel
theorem dt_Tu_stop_21 : decode prog_1_method_14_code 21 = .ok (.ireturn, 1) := by decide +kernel
theorem dt_Tu_stop_22 : decode prog_1_method_14_code 22 = .ok (.aload_n 0, 1) := by decide +kernel
theorem dt_Tu_stop_23 : decode prog_1_method_14_code 23 = .ok (.getfield 19, 3) := by decide +kernel
theorem dt_Tu_stop_26 : decode prog_1_method_14_code 26 = .ok (.iconst 1, 1) := by decide +kernel
theorem dt_Tu_stop_27 : decode prog_1_method_14_code 27 = .ok (.putfield 186, 3) := by decide +kernel
theorem dt_Tu_stop_30 : decode prog_1_method_14_code 30 = .ok (.aload_n 0, 1) := by decide +kernel
theorem dt_Tu_stop_31 : decode prog_1_method_14_code 31 = .ok (.getfield 19, 3) := by decide +kernel
theorem dt_Tu_stop_34 : decode prog_1_method_14_code 34 = .ok (.dup, 1) := by decide +kernel
theorem dt_Tu_stop_35 : decode prog_1_method_14_code 35 = .ok (.getfield 189, 3) := by decide +kernel
theorem dt_Tu_stop_38 : decode prog_1_method_14_code 38 = .ok (.iconst 1, 1) := by decide +kernel
theorem dt_Tu_stop_39 : decode prog_1_method_14_code 39 = .ok (.iadd, 1) := by decide +kernel
theorem dt_Tu_stop_40 : decode prog_1_method_14_code 40 = .ok (.putfield 189, 3) := by decide +kernel
theorem dt_Tu_stop_43 : decode prog_1_method_14_code 43 = .ok (.aload_n 0, 1) := by decide +kernel
theorem dt_Tu_stop_44 : decode prog_1_method_14_code 44 = .ok (.getfield 43, 3) := by decide +kernel
theorem dt_Tu_stop_47 : decode prog_1_method_14_code 47 = .ok (.iconst 3, 1) := by decide +kernel
theorem dt_Tu_stop_48 : decode prog_1_method_14_code 48 = .ok (.iconst 0, 1) := by decide +kernel
theorem dt_Tu_stop_49 : decode prog_1_method_14_code 49 = .ok (.iconst 0, 1) := by decide +kernel
theorem dt_Tu_stop_50 : decode prog_1_method_14_code 50 = .ok (.invokevirtual 218, 3) := by decide +kernel
theorem dt_Tu_stop_53 : decode prog_1_method_14_code 53 = .ok (.iconst 1, 1) := by decide +kernel
theorem dt_Tu_stop_54 : decode prog_1_method_14_code 54 = .ok (.ireturn, 1) := by decide +kernel
set_option maxHeartbeats 4000000 in
set_option maxRecDepth 10000 in
theorem tm_Tu_stop {N : Nat} {T : Nat → tm_S} {w : ab_W} {tu tp im md rl ac rr ma pl tr gu a b : Nat} (hW : tm_W N T w) (h_all : is_All T tu tp im md rl ac rr ma pl tr gu a b) (kn : tm_g w tu 1 = some (ab_R a)) (kt : tm_g w tu 2 = some (ab_R b)) (hA : ac_ok w ac) : ab_Mt g_G g_rs mt_Tu_stop 2 0 0 [ab_R tu] w (tm_Qi N T (fun v w2 => (∀ (p : Nat) (j : Int), ¬ ((p = a ∧ (j = 4 ∨ j = 5)) ∨ p = (ac + 1) ∨ p = (ac + 2) ∨ p = (ac + 3) ∨ (p = ac ∧ (j = 4 ∨ j = 3))) → tm_g w2 p j = tm_g w p j) ∧ (0 ≤ v ∧ v ≤ 1 ∧ (ac_ok w2 ac)))) := by
  obtain ⟨tut0, imt0, mdt0, rlt0, h_tp, h_ac, h_rr, h_ma, hzz⟩ := id h_all
  obtain ⟨h_pl, h_tr, h_gu, h_a, h_b, e_all, e_ab⟩ := hzz
  obtain ⟨tpt0, tpt1⟩ := id h_tp
  obtain ⟨act0, act1, act2, act3⟩ := id h_ac
  obtain ⟨rrt0, rrt1⟩ := id h_rr
  obtain ⟨mat0, mat1⟩ := id h_ma
  obtain ⟨plt0, plt1, plt2, plt3, plt4⟩ := id h_pl
  obtain ⟨trt0, trt1, trt2, trt3, trt4, trt5⟩ := id h_tr
  obtain ⟨gut0, gut1, gut2, gut3⟩ := id h_gu
  obtain ⟨at0, at1, at2, at3, at4, at5, at6, at7, at8, at9, at10, at11, at12⟩ := id h_a
  have ad := is_Ri.d h_a
  obtain ⟨bt0, bt1, bt2, bt3, bt4, bt5, bt6, bt7, bt8, bt9, bt10, bt11, bt12⟩ := id h_b
  have bd := is_Ri.d h_b
  have hF0 : ∀ (p : Nat) (j : Int), ¬ ((p = a ∧ (j = 4 ∨ j = 5)) ∨ p = (ac + 1) ∨ p = (ac + 2) ∨ p = (ac + 3) ∨ (p = ac ∧ (j = 4 ∨ j = 3))) → tm_g w p j = tm_g w p j := fun _ _ _ => rfl
  refine ab_Mt.of rfl (Nat.le_of_ble_eq_true rfl) ?_
  show ab_Ev g_G g_rs mt_Tu_stop _ _ _ 0 [some (ab_R tu)] [] _ _
  refine ev_aload_n dt_Tu_stop_0 rfl rfl ?_
  refine tm_getK (K := 1) dt_Tu_stop_1 hW tut0 fl_Tu_19 rfl kn ?_
  refine tm_getI (K := 0) dt_Tu_stop_4 hW at0 fl_Tu_152 rfl rfl (fun v32 kv32 lv32 uv32 => ?_)
  refine ev_if_eq (tgt := 20) dt_Tu_stop_7 (by decide) (by omega) (fun h33 => ?_) (fun h33 => ?_)
  · skip
    refine ev_iconst dt_Tu_stop_20 ?_
    exact ev_zreturn dt_Tu_stop_21 rfl (by omega) ⟨hW, _, rfl, ⟨hF0, ⟨by omega, by omega, hA⟩⟩⟩
  · skip
    refine ev_aload_n dt_Tu_stop_10 rfl rfl ?_
    refine tm_getK (K := 1) dt_Tu_stop_11 hW tut0 fl_Tu_19 rfl kn ?_
    refine tm_getI (K := 4) dt_Tu_stop_14 hW at0 fl_Tu_186 rfl rfl (fun v34 kv34 lv34 uv34 => ?_)
    refine ev_if_eq (tgt := 22) dt_Tu_stop_17 (by decide) (by omega) (fun h35 => ?_) (fun h35 => ?_)
    · skip
      refine ev_aload_n dt_Tu_stop_22 rfl rfl ?_
      refine tm_getK (K := 1) dt_Tu_stop_23 hW tut0 fl_Tu_19 rfl kn ?_
      refine ev_iconst dt_Tu_stop_26 ?_
      refine tm_putI (K := 4) dt_Tu_stop_27 hW at0 (fp_Tu_186 _) rfl rfl (by have h0 := True; first | (show _ = _ ∨ _ = _; omega) | omega) (by omega) (by omega) (fun w36 hWw36 kkw36 hfw36 => ?_)
      have hFw36 : ∀ (p : Nat) (j : Int), ¬ ((p = a ∧ (j = 4 ∨ j = 5)) ∨ p = (ac + 1) ∨ p = (ac + 2) ∨ p = (ac + 3) ∨ (p = ac ∧ (j = 4 ∨ j = 3))) → tm_g w36 p j = tm_g w p j := fun p j h => (hfw36 p j (by omega)).trans (hF0 p j h)
      refine ev_aload_n dt_Tu_stop_30 rfl rfl ?_
      refine tm_getK (K := 1) dt_Tu_stop_31 hWw36 tut0 fl_Tu_19 rfl ((hFw36 tu 1 (by omega)).trans kn) ?_
      refine ev_dup dt_Tu_stop_34 rfl ?_
      refine tm_getI (K := 5) dt_Tu_stop_35 hWw36 at0 fl_Tu_189 rfl rfl (fun v37 kv37 lv37 uv37 => ?_)
      refine ev_iconst dt_Tu_stop_38 ?_
      refine ev_iadd dt_Tu_stop_39 ?_
      refine tm_any (fun v38 hv38 _ => ?_)
      refine tm_putI (K := 5) dt_Tu_stop_40 hWw36 at0 (fp_Tu_189 _) rfl rfl trivial (by omega) (by omega) (fun w39 hWw39 kkw39 hfw39 => ?_)
      have hFw39 : ∀ (p : Nat) (j : Int), ¬ ((p = a ∧ (j = 4 ∨ j = 5)) ∨ p = (ac + 1) ∨ p = (ac + 2) ∨ p = (ac + 3) ∨ (p = ac ∧ (j = 4 ∨ j = 3))) → tm_g w39 p j = tm_g w p j := fun p j h => (hfw39 p j (by omega)).trans (hFw36 p j h)
      have z40 := (hfw39 a 4 (by omega)).trans kkw36
      refine ev_aload_n dt_Tu_stop_43 rfl rfl ?_
      refine tm_getR dt_Tu_stop_44 hWw39 tut0 fl_Tu_43 rfl ?_
      refine ev_iconst dt_Tu_stop_47 ?_
      refine ev_iconst dt_Tu_stop_48 ?_
      refine ev_iconst dt_Tu_stop_49 ?_
      refine tm_vv dt_Tu_stop_50 (tm_Ac_keep hWw39 h_ac (3) (by omega) (by omega) (0) (by omega) (by omega) (0) (by omega) (by omega) (hA.fr (fun k => ((hfw39 (ac + 1) k (by omega)).trans (hfw36 (ac + 1) k (by omega)))) (fun k => ((hfw39 (ac + 2) k (by omega)).trans (hfw36 (ac + 2) k (by omega)))) (fun k => ((hfw39 (ac + 3) k (by omega)).trans (hfw36 (ac + 3) k (by omega))))) (by omega) (by omega)) kb_Tu_218 ⟨im_Ac_keep, se_Ac_keep⟩ rfl hWw39 act0 rfl (Nat.le_of_ble_eq_true rfl) (by decide) (fun w41 hWw41 hRw41 => ?_)
      obtain ⟨hfw41, hpw41⟩ := hRw41
      have hFw41 : ∀ (p : Nat) (j : Int), ¬ ((p = a ∧ (j = 4 ∨ j = 5)) ∨ p = (ac + 1) ∨ p = (ac + 2) ∨ p = (ac + 3) ∨ (p = ac ∧ (j = 4 ∨ j = 3))) → tm_g w41 p j = tm_g w p j := fun p j h => (hfw41 p j (by omega)).trans (hFw39 p j h)
      have z42 := (hfw41 a 4 (by omega)).trans z40
      have z43 := (hfw41 a 5 (by omega)).trans kkw39
      refine ev_iconst dt_Tu_stop_53 ?_
      exact ev_zreturn dt_Tu_stop_54 rfl (by omega) ⟨hWw41, _, rfl, ⟨hFw41, ⟨by omega, by omega, hpw41⟩⟩⟩
    · skip
      refine ev_iconst dt_Tu_stop_20 ?_
      exact ev_zreturn dt_Tu_stop_21 rfl (by omega) ⟨hW, _, rfl, ⟨hF0, ⟨by omega, by omega, hA⟩⟩⟩
theorem dt_Tu_undo_0 : decode prog_1_method_15_code 0 = .ok (.aload_n 0, 1) := by decide +kernel
theorem dt_Tu_undo_1 : decode prog_1_method_15_code 1 = .ok (.getfield 43, 3) := by decide +kernel
theorem dt_Tu_undo_4 : decode prog_1_method_15_code 4 = .ok (.aload_n 0, 1) := by decide +kernel
theorem dt_Tu_undo_5 : decode prog_1_method_15_code 5 = .ok (.getfield 19, 3) := by decide +kernel
theorem dt_Tu_undo_8 : decode prog_1_method_15_code 8 = .ok (.invokevirtual 226, 3) := by decide +kernel
theorem dt_Tu_undo_11 : decode prog_1_method_15_code 11 = .ok (.ifCond .eq 13, 3) := by decide +kernel
theorem dt_Tu_undo_14 : decode prog_1_method_15_code 14 = .ok (.aload_n 0, 1) := by decide +kernel
theorem dt_Tu_undo_15 : decode prog_1_method_15_code 15 = .ok (.getfield 43, 3) := by decide +kernel
theorem dt_Tu_undo_18 : decode prog_1_method_15_code 18 = .ok (.getfield 201, 3) := by decide +kernel
theorem dt_Tu_undo_21 : decode prog_1_method_15_code 21 = .ok (.goto 4, 3) := by decide +kernel
theorem dt_Tu_undo_24 : decode prog_1_method_15_code 24 = .ok (.iconst (-1), 1) := by decide +kernel
theorem dt_Tu_undo_25 : decode prog_1_method_15_code 25 = .ok (.ireturn, 1) := by decide +kernel
set_option maxHeartbeats 4000000 in
set_option maxRecDepth 10000 in
theorem tm_Tu_undo {N : Nat} {T : Nat → tm_S} {w : ab_W} {tu tp im md rl ac rr ma pl tr gu a b : Nat} (hW : tm_W N T w) (h_all : is_All T tu tp im md rl ac rr ma pl tr gu a b) (kn : tm_g w tu 1 = some (ab_R a)) (kt : tm_g w tu 2 = some (ab_R b)) (hA : ac_ok w ac) : ab_Mt g_G g_rs mt_Tu_undo 3 0 0 [ab_R tu] w (tm_Qi N T (fun v w2 => (∀ (p : Nat) (j : Int), ¬ ((p = ac ∧ (j = 3 ∨ j = 4)) ∨ (p = a ∧ (j = 1 ∨ j = 2 ∨ j = 3 ∨ j = 4 ∨ j = 5)) ∨ p = (a + 7) ∨ p = (a + 6) ∨ p = (a + 1)) → tm_g w2 p j = tm_g w p j) ∧ ((-2147483648) ≤ v ∧ v ≤ 2147483647))) := by
  obtain ⟨tut0, imt0, mdt0, rlt0, h_tp, h_ac, h_rr, h_ma, hzz⟩ := id h_all
  obtain ⟨h_pl, h_tr, h_gu, h_a, h_b, e_all, e_ab⟩ := hzz
  obtain ⟨tpt0, tpt1⟩ := id h_tp
  obtain ⟨act0, act1, act2, act3⟩ := id h_ac
  obtain ⟨rrt0, rrt1⟩ := id h_rr
  obtain ⟨mat0, mat1⟩ := id h_ma
  obtain ⟨plt0, plt1, plt2, plt3, plt4⟩ := id h_pl
  obtain ⟨trt0, trt1, trt2, trt3, trt4, trt5⟩ := id h_tr
  obtain ⟨gut0, gut1, gut2, gut3⟩ := id h_gu
  obtain ⟨at0, at1, at2, at3, at4, at5, at6, at7, at8, at9, at10, at11, at12⟩ := id h_a
  have ad := is_Ri.d h_a
  obtain ⟨bt0, bt1, bt2, bt3, bt4, bt5, bt6, bt7, bt8, bt9, bt10, bt11, bt12⟩ := id h_b
  have bd := is_Ri.d h_b
  have hF0 : ∀ (p : Nat) (j : Int), ¬ ((p = ac ∧ (j = 3 ∨ j = 4)) ∨ (p = a ∧ (j = 1 ∨ j = 2 ∨ j = 3 ∨ j = 4 ∨ j = 5)) ∨ p = (a + 7) ∨ p = (a + 6) ∨ p = (a + 1)) → tm_g w p j = tm_g w p j := fun _ _ _ => rfl
  refine ab_Mt.of rfl (Nat.le_of_ble_eq_true rfl) ?_
  show ab_Ev g_G g_rs mt_Tu_undo _ _ _ 0 [some (ab_R tu)] [] _ _
  refine ev_aload_n dt_Tu_undo_0 rfl rfl ?_
  refine tm_getR dt_Tu_undo_1 hW tut0 fl_Tu_43 rfl ?_
  refine ev_aload_n dt_Tu_undo_4 rfl rfl ?_
  refine tm_getK (K := 1) dt_Tu_undo_5 hW tut0 fl_Tu_19 rfl kn ?_
  refine tm_vi dt_Tu_undo_8 (tm_Ac_undoLast hW h_ac h_a (by omega) hA) kb_Tu_226 ⟨im_Ac_undoLast, se_Ac_undoLast⟩ rfl hW act0 rfl (Nat.le_of_ble_eq_true rfl) (by decide) (fun w44 v45 hWw44 hRw44 => ?_)
  obtain ⟨hfw44, hpw44⟩ := hRw44
  have hFw44 : ∀ (p : Nat) (j : Int), ¬ ((p = ac ∧ (j = 3 ∨ j = 4)) ∨ (p = a ∧ (j = 1 ∨ j = 2 ∨ j = 3 ∨ j = 4 ∨ j = 5)) ∨ p = (a + 7) ∨ p = (a + 6) ∨ p = (a + 1)) → tm_g w44 p j = tm_g w p j := fun p j h => (hfw44 p j (by omega)).trans (hF0 p j h)
  refine ev_if_eq (tgt := 24) dt_Tu_undo_11 (by decide) (by omega) (fun h46 => ?_) (fun h46 => ?_)
  · skip
    refine ev_iconst dt_Tu_undo_24 ?_
    exact ev_ireturn dt_Tu_undo_25 rfl ⟨hWw44, _, rfl, ⟨hFw44, by omega⟩⟩
  · skip
    refine ev_aload_n dt_Tu_undo_14 rfl rfl ?_
    refine tm_getR dt_Tu_undo_15 hWw44 tut0 fl_Tu_43 rfl ?_
    refine tm_getI (K := 3) dt_Tu_undo_18 hWw44 act0 fl_Tu_201 rfl rfl (fun v47 kv47 lv47 uv47 => ?_)
    refine ev_goto (tgt := 25) dt_Tu_undo_21 (by decide) ?_
    exact ev_ireturn dt_Tu_undo_25 rfl ⟨hWw44, _, rfl, ⟨hFw44, by omega⟩⟩
theorem dt_Tu_run_0 : decode prog_1_method_16_code 0 = .ok (.aload_n 0, 1) := by decide +kernel
theorem dt_Tu_run_1 : decode prog_1_method_16_code 1 = .ok (.getfield 19, 3) := by decide +kernel
theorem dt_Tu_run_4 : decode prog_1_method_16_code 4 = .ok (.getfield 152, 3) := by decide +kernel
theorem dt_Tu_run_7 : decode prog_1_method_16_code 7 = .ok (.ifCond .eq 36, 3) := by decide +kernel
theorem dt_Tu_run_10 : decode prog_1_method_16_code 10 = .ok (.aload_n 0, 1) := by decide +kernel
theorem dt_Tu_run_11 : decode prog_1_method_16_code 11 = .ok (.iload_n 1, 1) := by decide +kernel
theorem dt_Tu_run_12 : decode prog_1_method_16_code 12 = .ok (.invokevirtual 230, 3) := by decide +kernel
theorem dt_Tu_run_15 : decode prog_1_method_16_code 15 = .ok (.ifCond .eq 28, 3) := by decide +kernel
theorem dt_Tu_run_18 : decode prog_1_method_16_code 18 = .ok (.iload_n 2, 1) := by decide +kernel
theorem dt_Tu_run_19 : decode prog_1_method_16_code 19 = .ok (.iconst 1, 1) := by decide +kernel
theorem dt_Tu_run_20 : decode prog_1_method_16_code 20 = .ok (.if_icmp .lt 23, 3) := by decide +kernel
theorem dt_Tu_run_23 : decode prog_1_method_16_code 23 = .ok (.iload_n 2, 1) := by decide +kernel
theorem dt_Tu_run_24 : decode prog_1_method_16_code 24 = .ok (.bipush 96, 2) := by decide +kernel
theorem dt_Tu_run_26 : decode prog_1_method_16_code 26 = .ok (.if_icmp .gt 17, 3) := by decide +kernel
theorem dt_Tu_run_29 : decode prog_1_method_16_code 29 = .ok (.aload_n 0, 1) := by decide +kernel
theorem dt_Tu_run_30 : decode prog_1_method_16_code 30 = .ok (.getfield 19, 3) := by decide +kernel
theorem dt_Tu_run_33 : decode prog_1_method_16_code 33 = .ok (.iload_n 2, 1) := by decide +kernel
theorem dt_Tu_run_34 : decode prog_1_method_16_code 34 = .ok (.invokevirtual 209, 3) := by decide +kernel
theorem dt_Tu_run_37 : decode prog_1_method_16_code 37 = .ok (.invokestatic 212, 3) := by decide +kernel
theorem dt_Tu_run_40 : decode prog_1_method_16_code 40 = .ok (.if_icmp .le 5, 3) := by decide +kernel
theorem dt_Tu_run_43 : decode prog_1_method_16_code 43 = .ok (.iconst (-1), 1) := by decide +kernel
theorem dt_Tu_run_44 : decode prog_1_method_16_code 44 = .ok (.ireturn, 1) := by decide +kernel
theorem dt_Tu_run_45 : decode prog_1_method_16_code 45 = .ok (.iconst 0, 1) := by decide +kernel
theorem dt_Tu_run_46 : decode prog_1_method_16_code 46 = .ok (.istore_n 3, 1) := by decide +kernel
theorem dt_Tu_run_47 : decode prog_1_method_16_code 47 = .ok (.iload_n 3, 1) := by decide +kernel
theorem dt_Tu_run_48 : decode prog_1_method_16_code 48 = .ok (.iload_n 2, 1) := by decide +kernel
theorem dt_Tu_run_49 : decode prog_1_method_16_code 49 = .ok (.if_icmp .ge 34, 3) := by decide +kernel
theorem dt_Tu_run_52 : decode prog_1_method_16_code 52 = .ok (.aload_n 0, 1) := by decide +kernel
theorem dt_Tu_run_53 : decode prog_1_method_16_code 53 = .ok (.getfield 19, 3) := by decide +kernel
theorem dt_Tu_run_56 : decode prog_1_method_16_code 56 = .ok (.aload_n 0, 1) := by decide +kernel
theorem dt_Tu_run_57 : decode prog_1_method_16_code 57 = .ok (.getfield 57, 3) := by decide +kernel
theorem dt_Tu_run_60 : decode prog_1_method_16_code 60 = .ok (.aload_n 0, 1) := by decide +kernel
theorem dt_Tu_run_61 : decode prog_1_method_16_code 61 = .ok (.getfield 36, 3) := by decide +kernel
theorem dt_Tu_run_64 : decode prog_1_method_16_code 64 = .ok (.iload_n 1, 1) := by decide +kernel
theorem dt_Tu_run_65 : decode prog_1_method_16_code 65 = .ok (.aaload, 1) := by decide +kernel
theorem dt_Tu_run_66 : decode prog_1_method_16_code 66 = .ok (.aload_n 0, 1) := by decide +kernel
theorem dt_Tu_run_67 : decode prog_1_method_16_code 67 = .ok (.getfield 19, 3) := by decide +kernel
theorem dt_Tu_run_70 : decode prog_1_method_16_code 70 = .ok (.invokevirtual 233, 3) := by decide +kernel
theorem dt_Tu_run_73 : decode prog_1_method_16_code 73 = .ok (.invokevirtual 215, 3) := by decide +kernel
theorem dt_Tu_run_76 : decode prog_1_method_16_code 76 = .ok (.pop, 1) := by decide +kernel
theorem dt_Tu_run_77 : decode prog_1_method_16_code 77 = .ok (.iinc 3 1, 3) := by decide +kernel
theorem dt_Tu_run_80 : decode prog_1_method_16_code 80 = .ok (.goto (-33), 3) := by decide +kernel
theorem dt_Tu_run_83 : decode prog_1_method_16_code 83 = .ok (.aload_n 0, 1) := by decide +kernel
theorem dt_Tu_run_84 : decode prog_1_method_16_code 84 = .ok (.getfield 43, 3) := by decide +kernel
theorem dt_Tu_run_87 : decode prog_1_method_16_code 87 = .ok (.invokevirtual 99, 3) := by decide +kernel
theorem dt_Tu_run_90 : decode prog_1_method_16_code 90 = .ok (.aload_n 0, 1) := by decide +kernel
theorem dt_Tu_run_91 : decode prog_1_method_16_code 91 = .ok (.getfield 19, 3) := by decide +kernel
theorem dt_Tu_run_94 : decode prog_1_method_16_code 94 = .ok (.getfield 177, 3) := by decide +kernel
theorem dt_Tu_run_97 : decode prog_1_method_16_code 97 = .ok (.ireturn, 1) := by decide +kernel
set_option maxHeartbeats 4000000 in
set_option maxRecDepth 10000 in
theorem tm_Tu_run {N : Nat} {T : Nat → tm_S} {w : ab_W} {tu tp im md rl ac rr ma pl tr gu a b : Nat} (hW : tm_W N T w) (h_all : is_All T tu tp im md rl ac rr ma pl tr gu a b) (kn : tm_g w tu 1 = some (ab_R a)) (kt : tm_g w tu 2 = some (ab_R b)) (y1 : Int) (l_y1 : (-2147483648) ≤ y1) (u_y1 : y1 ≤ 2147483647) (y2 : Int) (l_y2 : (-2147483648) ≤ y2) (u_y2 : y2 ≤ 2147483647) (rc : Int) (k_rc : tm_g w tu 6 = some (ab_I rc)) (hrl : ∀ j : Int, 0 ≤ j → j < rc → ∃ q n : Nat, tm_g w rl j = some (ab_R q) ∧ is_Ro T q n) : ab_Mt g_G g_rs mt_Tu_run 6 0 0 [ab_R tu, ab_I y1, ab_I y2] w (tm_Qi N T (fun v w2 => (∀ (p : Nat) (j : Int), ¬ ((p = a ∧ (j = 1 ∨ j = 2 ∨ j = 3 ∨ j = 4)) ∨ p = (a + 7) ∨ p = (ma + 1) ∨ (p = ma ∧ (j = 1)) ∨ (p = ac ∧ (j = 3))) → tm_g w2 p j = tm_g w p j) ∧ ((-2147483648) ≤ v ∧ v ≤ 2147483647))) := by
  obtain ⟨tut0, imt0, mdt0, rlt0, h_tp, h_ac, h_rr, h_ma, hzz⟩ := id h_all
  obtain ⟨h_pl, h_tr, h_gu, h_a, h_b, e_all, e_ab⟩ := hzz
  obtain ⟨tpt0, tpt1⟩ := id h_tp
  obtain ⟨act0, act1, act2, act3⟩ := id h_ac
  obtain ⟨rrt0, rrt1⟩ := id h_rr
  obtain ⟨mat0, mat1⟩ := id h_ma
  obtain ⟨plt0, plt1, plt2, plt3, plt4⟩ := id h_pl
  obtain ⟨trt0, trt1, trt2, trt3, trt4, trt5⟩ := id h_tr
  obtain ⟨gut0, gut1, gut2, gut3⟩ := id h_gu
  obtain ⟨at0, at1, at2, at3, at4, at5, at6, at7, at8, at9, at10, at11, at12⟩ := id h_a
  have ad := is_Ri.d h_a
  obtain ⟨bt0, bt1, bt2, bt3, bt4, bt5, bt6, bt7, bt8, bt9, bt10, bt11, bt12⟩ := id h_b
  have bd := is_Ri.d h_b
  have hF0 : ∀ (p : Nat) (j : Int), ¬ ((p = a ∧ (j = 1 ∨ j = 2 ∨ j = 3 ∨ j = 4)) ∨ p = (a + 7) ∨ p = (ma + 1) ∨ (p = ma ∧ (j = 1)) ∨ (p = ac ∧ (j = 3))) → tm_g w p j = tm_g w p j := fun _ _ _ => rfl
  refine ab_Mt.of rfl (Nat.le_of_ble_eq_true rfl) ?_
  show ab_Ev g_G g_rs mt_Tu_run _ _ _ 0 [some (ab_R tu), some (ab_I y1), some (ab_I y2), none] [] _ _
  have b_rc : 0 ≤ rc ∧ rc ≤ 6 := by obtain ⟨a, e, h0, h1⟩ := tm_peek (k := 6) (K := 6) hW tut0 rfl rfl; rw [k_rc] at e; injection e with e; injection e with e; omega
  refine ev_aload_n dt_Tu_run_0 rfl rfl ?_
  refine tm_getK (K := 1) dt_Tu_run_1 hW tut0 fl_Tu_19 rfl kn ?_
  refine tm_getI (K := 0) dt_Tu_run_4 hW at0 fl_Tu_152 rfl rfl (fun v48 kv48 lv48 uv48 => ?_)
  refine ev_if_eq (tgt := 43) dt_Tu_run_7 (by decide) (by omega) (fun h49 => ?_) (fun h49 => ?_)
  · skip
    refine ev_iconst dt_Tu_run_43 ?_
    exact ev_ireturn dt_Tu_run_44 rfl ⟨hW, _, rfl, ⟨hF0, by omega⟩⟩
  · skip
    refine ev_aload_n dt_Tu_run_10 rfl rfl ?_
    refine ev_iload_n dt_Tu_run_11 rfl rfl ?_
    refine tm_vp dt_Tu_run_12 (tm_Tu_hasRule hW h_all kn kt (y1) (by omega) (by omega) (rc) k_rc) kb_Tu_230 ⟨im_Tu_hasRule, se_Tu_hasRule⟩ rfl hW tut0 rfl (Nat.le_of_ble_eq_true rfl) (by decide) (fun v50 hv50 => ?_)
    refine ev_if_eq (tgt := 43) dt_Tu_run_15 (by decide) (by omega) (fun h51 => ?_) (fun h51 => ?_)
    · skip
      refine ev_iconst dt_Tu_run_43 ?_
      exact ev_ireturn dt_Tu_run_44 rfl ⟨hW, _, rfl, ⟨hF0, by omega⟩⟩
    · skip
      refine ev_iload_n dt_Tu_run_18 rfl rfl ?_
      refine ev_iconst dt_Tu_run_19 ?_
      refine ev_icmp_lt (tgt := 43) dt_Tu_run_20 (by decide) (by omega) (by omega) (fun h52 => ?_) (fun h52 => ?_)
      · skip
        refine ev_iconst dt_Tu_run_43 ?_
        exact ev_ireturn dt_Tu_run_44 rfl ⟨hW, _, rfl, ⟨hF0, by omega⟩⟩
      · skip
        refine ev_iload_n dt_Tu_run_23 rfl rfl ?_
        refine ev_bipush dt_Tu_run_24 rfl ?_
        refine ev_icmp_gt (tgt := 43) dt_Tu_run_26 (by decide) (by omega) (by omega) (fun h53 => ?_) (fun h53 => ?_)
        · skip
          refine ev_iconst dt_Tu_run_43 ?_
          exact ev_ireturn dt_Tu_run_44 rfl ⟨hW, _, rfl, ⟨hF0, by omega⟩⟩
        · skip
          refine ev_aload_n dt_Tu_run_29 rfl rfl ?_
          refine tm_getK (K := 1) dt_Tu_run_30 hW tut0 fl_Tu_19 rfl kn ?_
          refine ev_iload_n dt_Tu_run_33 rfl rfl ?_
          refine tm_vp dt_Tu_run_34 (tm_Ri_hoursBehind hW h_a (y2) (by omega) (by omega)) kb_Tu_209 ⟨im_Ri_hoursBehind, se_Ri_hoursBehind⟩ rfl hW at0 rfl (Nat.le_of_ble_eq_true rfl) (by decide) (fun v54 hv54 => ?_)
          refine tm_sp dt_Tu_run_37 (tm_Tu_lastHour hW) kb_Tu_212 sc_Tu_lastHour rfl (Nat.le_of_ble_eq_true rfl) (by decide) (fun v55 hv55 => ?_)
          refine ev_icmp_le (tgt := 45) dt_Tu_run_40 (by decide) (by omega) (by omega) (fun h56 => ?_) (fun h56 => ?_)
          · skip
            refine ev_iconst dt_Tu_run_45 ?_
            refine ev_istore_n (l' := [_, _, _, _]) dt_Tu_run_46 rfl (Nat.le_of_ble_eq_true rfl) rfl ?_
            have L57 : ∀ (n : Nat) (i58 : Int)  (w59 : ab_W), tm_W N T w59 → (∀ (p : Nat) (j : Int), ¬ ((p = a ∧ (j = 1 ∨ j = 2 ∨ j = 3 ∨ j = 4)) ∨ p = (a + 7) ∨ p = (ma + 1) ∨ (p = ma ∧ (j = 1)) ∨ (p = ac ∧ (j = 3))) → tm_g w59 p j = tm_g w p j) → 0 ≤ i58 → i58 ≤ 96 → 96 - i58 < (n : Int) → ab_Ev g_G g_rs mt_Tu_run 6 0 0 47 [some (ab_R tu), some (ab_I y1), some (ab_I y2), some (ab_I i58)] [] w59 (tm_Qi N T (fun v w2 => (∀ (p : Nat) (j : Int), ¬ ((p = a ∧ (j = 1 ∨ j = 2 ∨ j = 3 ∨ j = 4)) ∨ p = (a + 7) ∨ p = (ma + 1) ∨ (p = ma ∧ (j = 1)) ∨ (p = ac ∧ (j = 3))) → tm_g w2 p j = tm_g w p j) ∧ ((-2147483648) ≤ v ∧ v ≤ 2147483647))) := by
              intro n
              induction n with
              | zero =>
                intro i58  w59 hWw59 hFw59 li58 ui58 mL57
                exfalso
                omega
              | succ nL57 ihL57 =>
                intro i58  w59 hWw59 hFw59 li58 ui58 mL57
                refine ev_iload_n dt_Tu_run_47 rfl rfl ?_
                refine ev_iload_n dt_Tu_run_48 rfl rfl ?_
                refine ev_icmp_ge (tgt := 83) dt_Tu_run_49 (by decide) (by omega) (by omega) (fun h60 => ?_) (fun h60 => ?_)
                · skip
                  refine ev_aload_n dt_Tu_run_83 rfl rfl ?_
                  refine tm_getR dt_Tu_run_84 hWw59 tut0 fl_Tu_43 rfl ?_
                  refine tm_vv dt_Tu_run_87 (tm_Ac_forget hWw59 h_ac) kb_Tu_99 ⟨im_Ac_forget, se_Ac_forget⟩ rfl hWw59 act0 rfl (Nat.le_of_ble_eq_true rfl) (by decide) (fun w61 hWw61 hRw61 => ?_)
                  have hfw61 := hRw61
                  have hFw61 : ∀ (p : Nat) (j : Int), ¬ ((p = a ∧ (j = 1 ∨ j = 2 ∨ j = 3 ∨ j = 4)) ∨ p = (a + 7) ∨ p = (ma + 1) ∨ (p = ma ∧ (j = 1)) ∨ (p = ac ∧ (j = 3))) → tm_g w61 p j = tm_g w p j := fun p j h => (hfw61 p j (by omega)).trans (hFw59 p j h)
                  refine ev_aload_n dt_Tu_run_90 rfl rfl ?_
                  refine tm_getK (K := 1) dt_Tu_run_91 hWw61 tut0 fl_Tu_19 rfl ((hFw61 tu 1 (by omega)).trans kn) ?_
                  refine tm_getI (K := 1) dt_Tu_run_94 hWw61 at0 fl_Tu_177 rfl rfl (fun v62 kv62 lv62 uv62 => ?_)
                  exact ev_ireturn dt_Tu_run_97 rfl ⟨hWw61, _, rfl, ⟨hFw61, by omega⟩⟩
                · skip
                  refine ev_aload_n dt_Tu_run_52 rfl rfl ?_
                  refine tm_getK (K := 1) dt_Tu_run_53 hWw59 tut0 fl_Tu_19 rfl ((hFw59 tu 1 (by omega)).trans kn) ?_
                  refine ev_aload_n dt_Tu_run_56 rfl rfl ?_
                  refine tm_getR dt_Tu_run_57 hWw59 tut0 fl_Tu_57 rfl ?_
                  refine ev_aload_n dt_Tu_run_60 rfl rfl ?_
                  refine tm_getR dt_Tu_run_61 hWw59 tut0 fl_Tu_36 rfl ?_
                  refine ev_iload_n dt_Tu_run_64 rfl rfl ?_
                  obtain ⟨q, nq, kq, h_q⟩ := hrl y1 (by omega) (by omega)
                  refine tm_aaload (t := 1) dt_Tu_run_65 hWw59 rlt0 rfl (by omega) (by omega) (by omega) ((hFw59 rl _ (by omega)).trans kq) ?_
                  refine ev_aload_n dt_Tu_run_66 rfl rfl ?_
                  refine tm_getK (K := 1) dt_Tu_run_67 hWw59 tut0 fl_Tu_19 rfl ((hFw59 tu 1 (by omega)).trans kn) ?_
                  refine tm_vi dt_Tu_run_70 (tm_Ma_rateBy hWw59 h_ma h_q h_a) kb_Tu_233 ⟨im_Ma_rateBy, se_Ma_rateBy⟩ rfl hWw59 mat0 rfl (Nat.le_of_ble_eq_true rfl) (by decide) (fun w63 v64 hWw63 hRw63 => ?_)
                  obtain ⟨hfw63, hpw63⟩ := hRw63
                  have hFw63 : ∀ (p : Nat) (j : Int), ¬ ((p = a ∧ (j = 1 ∨ j = 2 ∨ j = 3 ∨ j = 4)) ∨ p = (a + 7) ∨ p = (ma + 1) ∨ (p = ma ∧ (j = 1)) ∨ (p = ac ∧ (j = 3))) → tm_g w63 p j = tm_g w p j := fun p j h => (hfw63 p j (by omega)).trans (hFw59 p j h)
                  refine tm_vi dt_Tu_run_73 (tm_Ri_passHour hWw63 h_a (v64) (by omega) (by omega)) kb_Tu_215 ⟨im_Ri_passHour, se_Ri_passHour⟩ rfl hWw63 at0 rfl (Nat.le_of_ble_eq_true rfl) (by decide) (fun w65 v66 hWw65 hRw65 => ?_)
                  obtain ⟨hfw65, hpw65⟩ := hRw65
                  have hFw65 : ∀ (p : Nat) (j : Int), ¬ ((p = a ∧ (j = 1 ∨ j = 2 ∨ j = 3 ∨ j = 4)) ∨ p = (a + 7) ∨ p = (ma + 1) ∨ (p = ma ∧ (j = 1)) ∨ (p = ac ∧ (j = 3))) → tm_g w65 p j = tm_g w p j := fun p j h => (hfw65 p j (by omega)).trans (hFw63 p j h)
                  refine ev_pop dt_Tu_run_76 rfl ?_
                  refine ev_iinc (l' := [_, _, _, _]) dt_Tu_run_77 rfl rfl ?_
                  refine ev_goto (tgt := 47) dt_Tu_run_80 (by decide) ?_
                  exact tm_loc (tm_le_s (tm_le_s (tm_le_s (tm_le_s tm_le_0)))) (ihL57 ((i58 + 1)) w65 hWw65 hFw65 (by omega) (by omega) (by omega))
            exact tm_loc (tm_le_s (tm_le_s (tm_le_s (tm_le_s tm_le_0)))) (L57 (96 - (0) + 1 : Int).toNat (0)  w hW hF0 (by omega) (by omega) (by omega))
          · skip
            refine ev_iconst dt_Tu_run_43 ?_
            exact ev_ireturn dt_Tu_run_44 rfl ⟨hW, _, rfl, ⟨hF0, by omega⟩⟩
theorem dt_Tu_seed_0 : decode prog_1_method_17_code 0 = .ok (.iload_n 1, 1) := by decide +kernel
theorem dt_Tu_seed_1 : decode prog_1_method_17_code 1 = .ok (.ifCond .ge 5, 3) := by decide +kernel
theorem dt_Tu_seed_4 : decode prog_1_method_17_code 4 = .ok (.iconst (-1), 1) := by decide +kernel
theorem dt_Tu_seed_5 : decode prog_1_method_17_code 5 = .ok (.ireturn, 1) := by decide +kernel
theorem dt_Tu_seed_6 : decode prog_1_method_17_code 6 = .ok (.aload_n 0, 1) := by decide +kernel
theorem dt_Tu_seed_7 : decode prog_1_method_17_code 7 = .ok (.getfield 19, 3) := by decide +kernel
theorem dt_Tu_seed_10 : decode prog_1_method_17_code 10 = .ok (.getfield 96, 3) := by decide +kernel
theorem dt_Tu_seed_13 : decode prog_1_method_17_code 13 = .ok (.istore_n 2, 1) := by decide +kernel
theorem dt_Tu_seed_14 : decode prog_1_method_17_code 14 = .ok (.aload_n 0, 1) := by decide +kernel
theorem dt_Tu_seed_15 : decode prog_1_method_17_code 15 = .ok (.getfield 19, 3) := by decide +kernel
theorem dt_Tu_seed_18 : decode prog_1_method_17_code 18 = .ok (.iload_n 1, 1) := by decide +kernel
theorem dt_Tu_seed_19 : decode prog_1_method_17_code 19 = .ok (.putfield 96, 3) := by decide +kernel
theorem dt_Tu_seed_22 : decode prog_1_method_17_code 22 = .ok (.iload_n 2, 1) := by decide +kernel
theorem dt_Tu_seed_23 : decode prog_1_method_17_code 23 = .ok (.ireturn, 1) := by decide +kernel
set_option maxHeartbeats 4000000 in
set_option maxRecDepth 10000 in
theorem tm_Tu_seed {N : Nat} {T : Nat → tm_S} {w : ab_W} {tu tp im md rl ac rr ma pl tr gu a b : Nat} (hW : tm_W N T w) (h_all : is_All T tu tp im md rl ac rr ma pl tr gu a b) (kn : tm_g w tu 1 = some (ab_R a)) (kt : tm_g w tu 2 = some (ab_R b)) (y1 : Int) (l_y1 : (-2147483648) ≤ y1) (u_y1 : y1 ≤ 2147483647) (x0 : Int) (k_x0 : tm_g w a 6 = some (ab_I x0)) : ab_Mt g_G g_rs mt_Tu_seed 0 0 0 [ab_R tu, ab_I y1] w (tm_Qi N T (fun v w2 => (∀ (p : Nat) (j : Int), ¬ ((p = a ∧ (j = 6))) → tm_g w2 p j = tm_g w p j) ∧ ∃ x1 : Int, tm_g w2 a 6 = some (ab_I x1) ∧ ((-2147483648) ≤ v ∧ v ≤ 2147483647 ∧ ((y1 < 0 → v = -1 ∧ x1 = x0) ∧ (0 ≤ y1 → v = x0 ∧ x1 = y1))))) := by
  obtain ⟨tut0, imt0, mdt0, rlt0, h_tp, h_ac, h_rr, h_ma, hzz⟩ := id h_all
  obtain ⟨h_pl, h_tr, h_gu, h_a, h_b, e_all, e_ab⟩ := hzz
  obtain ⟨tpt0, tpt1⟩ := id h_tp
  obtain ⟨act0, act1, act2, act3⟩ := id h_ac
  obtain ⟨rrt0, rrt1⟩ := id h_rr
  obtain ⟨mat0, mat1⟩ := id h_ma
  obtain ⟨plt0, plt1, plt2, plt3, plt4⟩ := id h_pl
  obtain ⟨trt0, trt1, trt2, trt3, trt4, trt5⟩ := id h_tr
  obtain ⟨gut0, gut1, gut2, gut3⟩ := id h_gu
  obtain ⟨at0, at1, at2, at3, at4, at5, at6, at7, at8, at9, at10, at11, at12⟩ := id h_a
  have ad := is_Ri.d h_a
  obtain ⟨bt0, bt1, bt2, bt3, bt4, bt5, bt6, bt7, bt8, bt9, bt10, bt11, bt12⟩ := id h_b
  have bd := is_Ri.d h_b
  have hF0 : ∀ (p : Nat) (j : Int), ¬ ((p = a ∧ (j = 6))) → tm_g w p j = tm_g w p j := fun _ _ _ => rfl
  refine ab_Mt.of rfl (Nat.le_of_ble_eq_true rfl) ?_
  show ab_Ev g_G g_rs mt_Tu_seed _ _ _ 0 [some (ab_R tu), some (ab_I y1), none] [] _ _
  have b_x0 : (-2147483648) ≤ x0 ∧ x0 ≤ 2147483647 := by obtain ⟨a, e, h0, h1⟩ := tm_peek (k := 6) (K := 6) hW at0 rfl rfl; rw [k_x0] at e; injection e with e; injection e with e; omega
  refine ev_iload_n dt_Tu_seed_0 rfl rfl ?_
  refine ev_if_ge (tgt := 6) dt_Tu_seed_1 (by decide) (by omega) (fun h67 => ?_) (fun h67 => ?_)
  · skip
    refine ev_aload_n dt_Tu_seed_6 rfl rfl ?_
    refine tm_getK (K := 1) dt_Tu_seed_7 hW tut0 fl_Tu_19 rfl kn ?_
    refine tm_getK (K := 6) dt_Tu_seed_10 hW at0 fl_Tu_96 rfl k_x0 ?_
    refine ev_istore_n (l' := [_, _, _]) dt_Tu_seed_13 rfl (Nat.le_of_ble_eq_true rfl) rfl ?_
    refine ev_aload_n dt_Tu_seed_14 rfl rfl ?_
    refine tm_getK (K := 1) dt_Tu_seed_15 hW tut0 fl_Tu_19 rfl kn ?_
    refine ev_iload_n dt_Tu_seed_18 rfl rfl ?_
    refine tm_putI (K := 6) dt_Tu_seed_19 hW at0 (fp_Tu_96 _) rfl rfl trivial (by omega) (by omega) (fun w68 hWw68 kkw68 hfw68 => ?_)
    have hFw68 : ∀ (p : Nat) (j : Int), ¬ ((p = a ∧ (j = 6))) → tm_g w68 p j = tm_g w p j := fun p j h => (hfw68 p j (by omega)).trans (hF0 p j h)
    refine ev_iload_n dt_Tu_seed_22 rfl rfl ?_
    exact ev_ireturn dt_Tu_seed_23 rfl ⟨hWw68, _, rfl, ⟨hFw68, y1, kkw68, by omega⟩⟩
  · skip
    refine ev_iconst dt_Tu_seed_4 ?_
    exact ev_ireturn dt_Tu_seed_5 rfl ⟨hW, _, rfl, ⟨hF0, x0, k_x0, by omega⟩⟩
